/-! what methods do (own work, written by wip/gen3/sx3.py) -/
/-! StrikeAwakeModel.chance(II)I  -/
abbrev uq_255 (r0 : Nat) (a1 : Int) (a2 : Int) (e : xD) (d : xD) (T : wq_T) (H : wq_H) : Option Value → wq_T → wq_H → Prop := fun r T' H' => T = T' ∧ WT T H' ∧ wfr [(42, 0), (42, 1), (42, 2), (42, 28), (42, 29), (51, 999), (52, 999)] T H H' ∧ ∃ z : Int, some (vI z) = r ∧ ((-2147483648) ≤ z ∧ z ≤ 2147483647) ∧ (((wKI H' r0 = 1) ∧ KNN T H' r0 e d))
set_option maxHeartbeats 4000000 in
theorem u_255 {kt : Nat → Option mc_E} {T : wq_T} {H : wq_H} {r0 : Nat} {a1 : Int} {a2 : Int} {e : xD} {d : xD} (hW : WT T H) (g0 : T.2.2.2 r0 = some 42) (i1 : (-2147483648) ≤ a1 ∧ a1 ≤ 2147483647) (i2 : (-2147483648) ≤ a2 ∧ a2 ≤ 2147483647) (p0 : wKI H r0 = 1) (p1 : XW d) (p2 : ∀ h : Nat, d 0 0 ≤ (h : Int) → h < 24 → e 13 h = 0) (p3 : XN d) (p4 : ∀ h : Nat, h < 24 → 0 ≤ e 13 h ∧ e 13 h ≤ 100) (hRB_r0 : RB T H r0 e d) (hKNN_r0 : KNN T H r0 e d) : wpc kt 9 255 [.ref r0, vI a1, vI a2] T H (uq_255 r0 a1 a2 e d T H) := by
  refine wp_enter e255 (Nat.le_of_ble_eq_true rfl) rfl ?_
  have f0 : wfr [(42, 0), (42, 1), (42, 2), (42, 28), (42, 29), (51, 999), (52, 999)] T H H := wfr.rf
  show wp _ _ 255 0 [(0, .ref r0), (1, vI a1), (2, vI a2)] [] _ H _
  have _b := RB_b hW hRB_r0
  have _nu := RB_n3 hRB_r0
  have _lm := RB_lm hRB_r0
  refine wp_of e255 c255_0 (rw_aload_n (pc' := 1) (v := .ref r0) rfl rfl rfl ?_)
  refine wp_of e255 c255_1 (rw_iconst (pc' := 2) rfl ?_)
  refine wp_of e255 c255_2 (xp_I (pc' := 5) lf_9_48 hW g0 sh_42 (by decide) (by decide) ty_42_0 rfl rfl (by decide) (by decide) ⟨by decide, by decide⟩ rfl (fun H1310 e1311 w1312 => ?_))
  have f1313 := f0.put' e1311 g0 rfl
  have k1314 : H1310 r0 0 = 0 := wq_u_s e1311
  refine wp_of e255 c255_5 (rw_aload_n (pc' := 6) (v := .ref r0) rfl rfl rfl ?_)
  refine wp_of e255 c255_6 (rw_aload_n (pc' := 7) (v := .ref r0) rfl rfl rfl ?_)
  refine wp_of e255 c255_7 (rw_iload_n (pc' := 8) (z := a1) rfl rfl ?_)
  refine wp_of e255 c255_8 (xc_V (pc' := 11) (r := r0) (as := [vI a1]) (st := [.ref r0]) (lm_9_364) rfl rfl (Nat.le_of_ble_eq_true rfl) w1312 g0 sh_42 (by decide) rfl (by decide) (s_213 w1312 g0 ⟨i1.1, i1.2⟩) (fun R1315 T1316 H1317 p1318 => ?_))
  obtain ⟨e1319, e1321, z1323, e1320, b1324, p1322⟩ := p1318
  subst e1319
  subst e1320
  subst e1321
  show wp _ _ 255 11 [(0, .ref r0), (1, vI a1), (2, vI a2)] [vI z1323, .ref r0] _ H1310 _
  refine wp_of e255 c255_11 (rw_if_eq (p1 := 26) (p2 := 14) (by decide) rfl ⟨Int.le_trans (by decide) b1324.1, Int.le_trans b1324.2 (by decide)⟩ (fun c1325 => ?_) (fun c1325 => ?_))
  · refine wp_of e255 c255_26 (rw_iconst (pc' := 27) rfl ?_)
    have k1326 : H1310 r0 3 = H r0 3 := (wq_u_j e1311 rfl)
    have k1327 : wKI H1310 r0 = wKI H r0 := (wKI_fr hW g0 ((wfr.rf (l := [(42, 0)])).put' e1311 g0 rfl) rfl)
    have h1328 : RB T H1310 r0 e d := (RB_fr hW g0 ((wfr.rf (l := [(42, 0)])).put' e1311 g0 rfl) rfl hRB_r0)
    have h1329 : KNN T H1310 r0 e d := (KNN_fr hW g0 ((wfr.rf (l := [(42, 0)])).put' e1311 g0 rfl) rfl hKNN_r0)
    refine wp_of e255 c255_27 (xc_V (pc' := 30) (r := r0) (as := [vI 0]) (st := []) (lm_9_447) rfl rfl (Nat.le_of_ble_eq_true rfl) w1312 g0 sh_42 (by decide) rfl (by decide) (u_253 (e := e) (d := d) w1312 g0 ⟨by decide, by decide⟩ (by omega) (by omega) (by assumption) (by assumption) (by assumption) (by assumption) h1328 h1329) (fun R1330 T1331 H1332 p1333 => ?_))
    obtain ⟨e1334, w1336, f1337, z1338, e1335, b1339, p1340⟩ := p1333
    subst e1334
    subst e1335
    rcases p1340 with ⟨a1341, a1342, a1343, a1344, a1345, a1346, a1347, a1348, a1349, a1350⟩ | ⟨a1351, a1352, a1353, a1354, a1355, a1356, a1357⟩
    · have f1358 := f1313.tr f1337 rfl
      show wp _ _ 255 30 [(0, .ref r0), (1, vI a1), (2, vI a2)] [vI z1338] _ H1332 _
      have k1359 : wLM H1332 r0 = wLM H r0 := ((wLM_fr w1312 g0 f1337 rfl).trans (wLM_fr hW g0 ((wfr.rf (l := [(42, 0)])).put' e1311 g0 rfl) rfl))
      refine wp_of e255 c255_30 (rw_istore_n (pc' := 31) (z := z1338) (L' := [(3, vI z1338), (0, .ref r0), (1, vI a1), (2, vI a2)]) rfl rfl rfl ?_)
      refine wp_of e255 c255_31 (rw_iload_n (pc' := 32) (z := z1338) rfl rfl ?_)
      refine wp_of e255 c255_32 (rw_if_le (p1 := 43) (p2 := 35) (by decide) rfl ⟨Int.le_trans (by decide) b1339.1, Int.le_trans b1339.2 (by decide)⟩ (fun c1360 => ?_) (fun c1360 => ?_))
      · refine wp_of e255 c255_43 (rw_aload_n (pc' := 44) (v := .ref r0) rfl rfl rfl ?_)
        refine wp_of e255 c255_44 (rw_ldc2 (pc' := 47) (z := 100) rfl rfl rfl ?_)
        refine wp_of e255 c255_47 (rw_aload_n (pc' := 48) (v := .ref r0) rfl rfl rfl ?_)
        refine wp_of e255 c255_48 (rw_iload_n (pc' := 49) (z := a1) rfl rfl ?_)
        refine wp_of e255 c255_49 (rw_iload_n (pc' := 50) (z := a2) rfl rfl ?_)
        have k1361 : H1332 r0 3 = H1310 r0 3 := (f1337 r0 3 _ g0 rfl)
        obtain ⟨r1362, q1363, g1364⟩ := (w1336.opt g0 (t' := 54) (n := 33) (j := 3) (p := 0) (q := 0) rfl (by decide) rfl).resolve_left (by omega)
        refine wp_of e255 c255_50 (xc_V (pc' := 53) (r := r0) (as := [vI a1, vI a2]) (st := [vL 100, .ref r0]) (lm_9_440) rfl rfl (Nat.le_of_ble_eq_true rfl) w1336 g0 sh_42 (by decide) rfl (by decide) (s_247 w1336 g0 ⟨by omega, by omega⟩ ⟨i2.1, i2.2⟩ q1363 g1364 (by omega)) (fun R1365 T1366 H1367 p1368 => ?_))
        obtain ⟨e1369, w1371, f1372, z1374, e1370, b1375, p1373⟩ := p1368
        subst e1369
        subst e1370
        have f1376 := f1358.tr f1372 rfl
        show wp _ _ 255 53 [(3, vI z1338), (0, .ref r0), (1, vI a1), (2, vI a2)] [vL z1374, vL 100, .ref r0] _ H1367 _
        refine wp_of e255 c255_53 (rw_lmul (pc' := 54) rfl ?_)
        refine wp_of e255 c255_54 (rw_aload_n (pc' := 55) (v := .ref r0) rfl rfl rfl ?_)
        refine wp_of e255 c255_55 (rw_iconst (pc' := 56) rfl ?_)
        refine wp_of e255 c255_56 (rw_iconst (pc' := 57) rfl ?_)
        have k1377 : H1367 r0 29 = H1332 r0 29 := (f1372 r0 29 _ g0 rfl)
        have k1378 : wLM H1367 r0 = wLM H1332 r0 := (wLM_fr w1336 g0 f1372 rfl)
        have k1379 : H1367 r0 3 = H1332 r0 3 := (f1372 r0 3 _ g0 rfl)
        have q1380 : H1367 r0 3 = (r1362 : Int) := k1379.trans q1363
        refine wp_of e255 c255_57 (xc_V (pc' := 60) (r := r0) (as := [vI (-1), vI 0]) (st := [vL (100 * z1374), .ref r0]) (lm_9_440) rfl rfl (Nat.le_of_ble_eq_true rfl) w1371 g0 sh_42 (by decide) rfl (by decide) (s_247 w1371 g0 ⟨by decide, by decide⟩ ⟨by decide, by decide⟩ q1380 g1364 (by omega)) (fun R1381 T1382 H1383 p1384 => ?_))
        obtain ⟨e1385, w1387, f1388, z1390, e1386, b1391, p1389⟩ := p1384
        subst e1385
        subst e1386
        have f1392 := f1376.tr f1388 rfl
        show wp _ _ 255 60 [(3, vI z1338), (0, .ref r0), (1, vI a1), (2, vI a2)] [vL z1390, vL (100 * z1374), .ref r0] _ H1383 _
        refine wp_of e255 c255_60 (rw_ldiv (pc' := 61) rfl ⟨by omega, by omega⟩ (by omega) ?_)
        obtain ⟨v1393, e1394⟩ : ∃ x : Int, x = wl_div (100 * z1374) z1390 := ⟨_, rfl⟩
        rw [← e1394]
        have b1395 : -9223372036854775808 ≤ v1393 ∧ v1393 ≤ 9223372036854775807 := by
          rw [e1394]
          exact wL_div _ _
        refine wp_of e255 c255_61 (rw_l2i (pc' := 62) rfl ?_)
        obtain ⟨v1396, e1397⟩ : ∃ x : Int, x = wq_w v1393 := ⟨_, rfl⟩
        rw [← e1397]
        have b1398 : -2147483648 ≤ v1396 ∧ v1396 ≤ 2147483647 := by
          rw [e1397]
          exact wI_w _
        have b1399 : (-2147483648 ≤ v1393 ∧ v1393 ≤ 2147483647) → v1396 = v1393 := by
          rw [e1397]
          exact fun h => wq_w_id h
        refine wp_of e255 c255_62 (xc_V (pc' := 65) (r := r0) (as := [vI v1396]) (st := []) (lm_9_58) rfl rfl (Nat.le_of_ble_eq_true rfl) w1387 g0 sh_42 (by decide) rfl (by decide) (s_209 w1387 g0 ⟨b1398.1, b1398.2⟩) (fun R1400 T1401 H1402 p1403 => ?_))
        obtain ⟨e1404, w1406, f1407, z1408, e1405, b1409⟩ := p1403
        subst e1404
        subst e1405
        have f1410 := f1392.tr f1407 rfl
        show wp _ _ 255 65 [(3, vI z1338), (0, .ref r0), (1, vI a1), (2, vI a2)] [vI z1408] _ H1402 _
        have k1411 : wKI H1402 r0 = wKI H1332 r0 := ((wKI_fr w1387 g0 f1407 rfl).trans ((wKI_fr w1371 g0 f1388 rfl).trans (wKI_fr w1336 g0 f1372 rfl)))
        have h1412 : KNN T H1402 r0 e d := (KNN_fr w1387 g0 f1407 rfl (KNN_fr w1371 g0 f1388 rfl (KNN_fr w1336 g0 f1372 rfl a1349)))
        exact wp_ireturn e255 c255_65 rfl ⟨rfl, w1406, f1410, z1408, rfl, ⟨b1409.1, b1409.2⟩, ⟨by omega, h1412⟩⟩
      · exfalso
        omega
    · have f1413 := f1313.tr f1337 rfl
      show wp _ _ 255 30 [(0, .ref r0), (1, vI a1), (2, vI a2)] [vI z1338] _ H1332 _
      have k1414 : wLM H1332 r0 = wLM H r0 := ((wLM_fr w1312 g0 f1337 rfl).trans (wLM_fr hW g0 ((wfr.rf (l := [(42, 0)])).put' e1311 g0 rfl) rfl))
      refine wp_of e255 c255_30 (rw_istore_n (pc' := 31) (z := z1338) (L' := [(3, vI z1338), (0, .ref r0), (1, vI a1), (2, vI a2)]) rfl rfl rfl ?_)
      refine wp_of e255 c255_31 (rw_iload_n (pc' := 32) (z := z1338) rfl rfl ?_)
      refine wp_of e255 c255_32 (rw_if_le (p1 := 43) (p2 := 35) (by decide) rfl ⟨Int.le_trans (by decide) b1339.1, Int.le_trans b1339.2 (by decide)⟩ (fun c1415 => ?_) (fun c1415 => ?_))
      · exfalso
        omega
      · refine wp_of e255 c255_35 (rw_aload_n (pc' := 36) (v := .ref r0) rfl rfl rfl ?_)
        refine wp_of e255 c255_36 (rw_iload_n (pc' := 37) (z := z1338) rfl rfl ?_)
        refine wp_of e255 c255_37 (xc_V (pc' := 40) (r := r0) (as := [vI z1338]) (st := []) (lm_9_54) rfl rfl (Nat.le_of_ble_eq_true rfl) w1336 g0 sh_42 (by decide) rfl (by decide) (s_170 w1336 g0 ⟨Int.le_trans (by decide) b1339.1, Int.le_trans b1339.2 (by decide)⟩) (fun R1416 T1417 H1418 p1419 => ?_))
        obtain ⟨e1420, w1422, f1423, z1424, e1421, b1425⟩ := p1419
        subst e1420
        subst e1421
        have f1426 := f1413.tr f1423 rfl
        show wp _ _ 255 40 [(3, vI z1338), (0, .ref r0), (1, vI a1), (2, vI a2)] [vI z1424] _ H1418 _
        refine wp_of e255 c255_40 (rw_goto (p1 := 65) (by decide) ?_)
        have k1427 : wKI H1418 r0 = wKI H1332 r0 := (wKI_fr w1336 g0 f1423 rfl)
        have h1428 : KNN T H1418 r0 e d := (KNN_fr w1336 g0 f1423 rfl a1357)
        exact wp_ireturn e255 c255_65 rfl ⟨rfl, w1422, f1426, z1424, rfl, ⟨b1425.1, b1425.2⟩, ⟨by omega, h1428⟩⟩
  · refine wp_of e255 c255_14 (rw_aload_n (pc' := 15) (v := .ref r0) rfl rfl rfl ?_)
    refine wp_of e255 c255_15 (rw_iload_n (pc' := 16) (z := a2) rfl rfl ?_)
    refine wp_of e255 c255_16 (xc_V (pc' := 19) (r := r0) (as := [vI a2]) (st := [.ref r0]) (lm_9_373) rfl rfl (Nat.le_of_ble_eq_true rfl) w1312 g0 sh_42 (by decide) rfl (by decide) (s_218 w1312 g0 ⟨i2.1, i2.2⟩) (fun R1429 T1430 H1431 p1432 => ?_))
    obtain ⟨e1433, e1435, z1437, e1434, b1438, p1436⟩ := p1432
    subst e1433
    subst e1434
    subst e1435
    show wp _ _ 255 19 [(0, .ref r0), (1, vI a1), (2, vI a2)] [vI z1437, .ref r0] _ H1310 _
    refine wp_of e255 c255_19 (rw_if_eq (p1 := 26) (p2 := 22) (by decide) rfl ⟨Int.le_trans (by decide) b1438.1, Int.le_trans b1438.2 (by decide)⟩ (fun c1439 => ?_) (fun c1439 => ?_))
    · refine wp_of e255 c255_26 (rw_iconst (pc' := 27) rfl ?_)
      have k1440 : H1310 r0 3 = H r0 3 := (wq_u_j e1311 rfl)
      have k1441 : wKI H1310 r0 = wKI H r0 := (wKI_fr hW g0 ((wfr.rf (l := [(42, 0)])).put' e1311 g0 rfl) rfl)
      have h1442 : RB T H1310 r0 e d := (RB_fr hW g0 ((wfr.rf (l := [(42, 0)])).put' e1311 g0 rfl) rfl hRB_r0)
      have h1443 : KNN T H1310 r0 e d := (KNN_fr hW g0 ((wfr.rf (l := [(42, 0)])).put' e1311 g0 rfl) rfl hKNN_r0)
      refine wp_of e255 c255_27 (xc_V (pc' := 30) (r := r0) (as := [vI 0]) (st := []) (lm_9_447) rfl rfl (Nat.le_of_ble_eq_true rfl) w1312 g0 sh_42 (by decide) rfl (by decide) (u_253 (e := e) (d := d) w1312 g0 ⟨by decide, by decide⟩ (by omega) (by omega) (by assumption) (by assumption) (by assumption) (by assumption) h1442 h1443) (fun R1444 T1445 H1446 p1447 => ?_))
      obtain ⟨e1448, w1450, f1451, z1452, e1449, b1453, p1454⟩ := p1447
      subst e1448
      subst e1449
      rcases p1454 with ⟨a1455, a1456, a1457, a1458, a1459, a1460, a1461, a1462, a1463, a1464⟩ | ⟨a1465, a1466, a1467, a1468, a1469, a1470, a1471⟩
      · have f1472 := f1313.tr f1451 rfl
        show wp _ _ 255 30 [(0, .ref r0), (1, vI a1), (2, vI a2)] [vI z1452] _ H1446 _
        have k1473 : wLM H1446 r0 = wLM H r0 := ((wLM_fr w1312 g0 f1451 rfl).trans (wLM_fr hW g0 ((wfr.rf (l := [(42, 0)])).put' e1311 g0 rfl) rfl))
        refine wp_of e255 c255_30 (rw_istore_n (pc' := 31) (z := z1452) (L' := [(3, vI z1452), (0, .ref r0), (1, vI a1), (2, vI a2)]) rfl rfl rfl ?_)
        refine wp_of e255 c255_31 (rw_iload_n (pc' := 32) (z := z1452) rfl rfl ?_)
        refine wp_of e255 c255_32 (rw_if_le (p1 := 43) (p2 := 35) (by decide) rfl ⟨Int.le_trans (by decide) b1453.1, Int.le_trans b1453.2 (by decide)⟩ (fun c1474 => ?_) (fun c1474 => ?_))
        · refine wp_of e255 c255_43 (rw_aload_n (pc' := 44) (v := .ref r0) rfl rfl rfl ?_)
          refine wp_of e255 c255_44 (rw_ldc2 (pc' := 47) (z := 100) rfl rfl rfl ?_)
          refine wp_of e255 c255_47 (rw_aload_n (pc' := 48) (v := .ref r0) rfl rfl rfl ?_)
          refine wp_of e255 c255_48 (rw_iload_n (pc' := 49) (z := a1) rfl rfl ?_)
          refine wp_of e255 c255_49 (rw_iload_n (pc' := 50) (z := a2) rfl rfl ?_)
          have k1475 : H1446 r0 3 = H1310 r0 3 := (f1451 r0 3 _ g0 rfl)
          obtain ⟨r1476, q1477, g1478⟩ := (w1450.opt g0 (t' := 54) (n := 33) (j := 3) (p := 0) (q := 0) rfl (by decide) rfl).resolve_left (by omega)
          refine wp_of e255 c255_50 (xc_V (pc' := 53) (r := r0) (as := [vI a1, vI a2]) (st := [vL 100, .ref r0]) (lm_9_440) rfl rfl (Nat.le_of_ble_eq_true rfl) w1450 g0 sh_42 (by decide) rfl (by decide) (s_247 w1450 g0 ⟨by omega, by omega⟩ ⟨i2.1, i2.2⟩ q1477 g1478 (by omega)) (fun R1479 T1480 H1481 p1482 => ?_))
          obtain ⟨e1483, w1485, f1486, z1488, e1484, b1489, p1487⟩ := p1482
          subst e1483
          subst e1484
          have f1490 := f1472.tr f1486 rfl
          show wp _ _ 255 53 [(3, vI z1452), (0, .ref r0), (1, vI a1), (2, vI a2)] [vL z1488, vL 100, .ref r0] _ H1481 _
          refine wp_of e255 c255_53 (rw_lmul (pc' := 54) rfl ?_)
          refine wp_of e255 c255_54 (rw_aload_n (pc' := 55) (v := .ref r0) rfl rfl rfl ?_)
          refine wp_of e255 c255_55 (rw_iconst (pc' := 56) rfl ?_)
          refine wp_of e255 c255_56 (rw_iconst (pc' := 57) rfl ?_)
          have k1491 : H1481 r0 29 = H1446 r0 29 := (f1486 r0 29 _ g0 rfl)
          have k1492 : wLM H1481 r0 = wLM H1446 r0 := (wLM_fr w1450 g0 f1486 rfl)
          have k1493 : H1481 r0 3 = H1446 r0 3 := (f1486 r0 3 _ g0 rfl)
          have q1494 : H1481 r0 3 = (r1476 : Int) := k1493.trans q1477
          refine wp_of e255 c255_57 (xc_V (pc' := 60) (r := r0) (as := [vI (-1), vI 0]) (st := [vL (100 * z1488), .ref r0]) (lm_9_440) rfl rfl (Nat.le_of_ble_eq_true rfl) w1485 g0 sh_42 (by decide) rfl (by decide) (s_247 w1485 g0 ⟨by decide, by decide⟩ ⟨by decide, by decide⟩ q1494 g1478 (by omega)) (fun R1495 T1496 H1497 p1498 => ?_))
          obtain ⟨e1499, w1501, f1502, z1504, e1500, b1505, p1503⟩ := p1498
          subst e1499
          subst e1500
          have f1506 := f1490.tr f1502 rfl
          show wp _ _ 255 60 [(3, vI z1452), (0, .ref r0), (1, vI a1), (2, vI a2)] [vL z1504, vL (100 * z1488), .ref r0] _ H1497 _
          refine wp_of e255 c255_60 (rw_ldiv (pc' := 61) rfl ⟨by omega, by omega⟩ (by omega) ?_)
          obtain ⟨v1507, e1508⟩ : ∃ x : Int, x = wl_div (100 * z1488) z1504 := ⟨_, rfl⟩
          rw [← e1508]
          have b1509 : -9223372036854775808 ≤ v1507 ∧ v1507 ≤ 9223372036854775807 := by
            rw [e1508]
            exact wL_div _ _
          refine wp_of e255 c255_61 (rw_l2i (pc' := 62) rfl ?_)
          obtain ⟨v1510, e1511⟩ : ∃ x : Int, x = wq_w v1507 := ⟨_, rfl⟩
          rw [← e1511]
          have b1512 : -2147483648 ≤ v1510 ∧ v1510 ≤ 2147483647 := by
            rw [e1511]
            exact wI_w _
          have b1513 : (-2147483648 ≤ v1507 ∧ v1507 ≤ 2147483647) → v1510 = v1507 := by
            rw [e1511]
            exact fun h => wq_w_id h
          refine wp_of e255 c255_62 (xc_V (pc' := 65) (r := r0) (as := [vI v1510]) (st := []) (lm_9_58) rfl rfl (Nat.le_of_ble_eq_true rfl) w1501 g0 sh_42 (by decide) rfl (by decide) (s_209 w1501 g0 ⟨b1512.1, b1512.2⟩) (fun R1514 T1515 H1516 p1517 => ?_))
          obtain ⟨e1518, w1520, f1521, z1522, e1519, b1523⟩ := p1517
          subst e1518
          subst e1519
          have f1524 := f1506.tr f1521 rfl
          show wp _ _ 255 65 [(3, vI z1452), (0, .ref r0), (1, vI a1), (2, vI a2)] [vI z1522] _ H1516 _
          have k1525 : wKI H1516 r0 = wKI H1446 r0 := ((wKI_fr w1501 g0 f1521 rfl).trans ((wKI_fr w1485 g0 f1502 rfl).trans (wKI_fr w1450 g0 f1486 rfl)))
          have h1526 : KNN T H1516 r0 e d := (KNN_fr w1501 g0 f1521 rfl (KNN_fr w1485 g0 f1502 rfl (KNN_fr w1450 g0 f1486 rfl a1463)))
          exact wp_ireturn e255 c255_65 rfl ⟨rfl, w1520, f1524, z1522, rfl, ⟨b1523.1, b1523.2⟩, ⟨by omega, h1526⟩⟩
        · exfalso
          omega
      · have f1527 := f1313.tr f1451 rfl
        show wp _ _ 255 30 [(0, .ref r0), (1, vI a1), (2, vI a2)] [vI z1452] _ H1446 _
        have k1528 : wLM H1446 r0 = wLM H r0 := ((wLM_fr w1312 g0 f1451 rfl).trans (wLM_fr hW g0 ((wfr.rf (l := [(42, 0)])).put' e1311 g0 rfl) rfl))
        refine wp_of e255 c255_30 (rw_istore_n (pc' := 31) (z := z1452) (L' := [(3, vI z1452), (0, .ref r0), (1, vI a1), (2, vI a2)]) rfl rfl rfl ?_)
        refine wp_of e255 c255_31 (rw_iload_n (pc' := 32) (z := z1452) rfl rfl ?_)
        refine wp_of e255 c255_32 (rw_if_le (p1 := 43) (p2 := 35) (by decide) rfl ⟨Int.le_trans (by decide) b1453.1, Int.le_trans b1453.2 (by decide)⟩ (fun c1529 => ?_) (fun c1529 => ?_))
        · exfalso
          omega
        · refine wp_of e255 c255_35 (rw_aload_n (pc' := 36) (v := .ref r0) rfl rfl rfl ?_)
          refine wp_of e255 c255_36 (rw_iload_n (pc' := 37) (z := z1452) rfl rfl ?_)
          refine wp_of e255 c255_37 (xc_V (pc' := 40) (r := r0) (as := [vI z1452]) (st := []) (lm_9_54) rfl rfl (Nat.le_of_ble_eq_true rfl) w1450 g0 sh_42 (by decide) rfl (by decide) (s_170 w1450 g0 ⟨Int.le_trans (by decide) b1453.1, Int.le_trans b1453.2 (by decide)⟩) (fun R1530 T1531 H1532 p1533 => ?_))
          obtain ⟨e1534, w1536, f1537, z1538, e1535, b1539⟩ := p1533
          subst e1534
          subst e1535
          have f1540 := f1527.tr f1537 rfl
          show wp _ _ 255 40 [(3, vI z1452), (0, .ref r0), (1, vI a1), (2, vI a2)] [vI z1538] _ H1532 _
          refine wp_of e255 c255_40 (rw_goto (p1 := 65) (by decide) ?_)
          have k1541 : wKI H1532 r0 = wKI H1446 r0 := (wKI_fr w1450 g0 f1537 rfl)
          have h1542 : KNN T H1532 r0 e d := (KNN_fr w1450 g0 f1537 rfl a1471)
          exact wp_ireturn e255 c255_65 rfl ⟨rfl, w1536, f1540, z1538, rfl, ⟨b1539.1, b1539.2⟩, ⟨by omega, h1542⟩⟩
    · refine wp_of e255 c255_22 (rw_iconst (pc' := 23) rfl ?_)
      refine wp_of e255 c255_23 (rw_goto (p1 := 27) (by decide) ?_)
      have k1543 : H1310 r0 3 = H r0 3 := (wq_u_j e1311 rfl)
      have k1544 : wKI H1310 r0 = wKI H r0 := (wKI_fr hW g0 ((wfr.rf (l := [(42, 0)])).put' e1311 g0 rfl) rfl)
      have h1545 : RB T H1310 r0 e d := (RB_fr hW g0 ((wfr.rf (l := [(42, 0)])).put' e1311 g0 rfl) rfl hRB_r0)
      have h1546 : KNN T H1310 r0 e d := (KNN_fr hW g0 ((wfr.rf (l := [(42, 0)])).put' e1311 g0 rfl) rfl hKNN_r0)
      refine wp_of e255 c255_27 (xc_V (pc' := 30) (r := r0) (as := [vI 1]) (st := []) (lm_9_447) rfl rfl (Nat.le_of_ble_eq_true rfl) w1312 g0 sh_42 (by decide) rfl (by decide) (u_253 (e := e) (d := d) w1312 g0 ⟨by decide, by decide⟩ (by omega) (by omega) (by assumption) (by assumption) (by assumption) (by assumption) h1545 h1546) (fun R1547 T1548 H1549 p1550 => ?_))
      obtain ⟨e1551, w1553, f1554, z1555, e1552, b1556, p1557⟩ := p1550
      subst e1551
      subst e1552
      rcases p1557 with ⟨a1558, a1559, a1560, a1561, a1562, a1563, a1564, a1565, a1566, a1567⟩ | ⟨a1568, a1569, a1570, a1571, a1572, a1573, a1574⟩
      · have f1575 := f1313.tr f1554 rfl
        show wp _ _ 255 30 [(0, .ref r0), (1, vI a1), (2, vI a2)] [vI z1555] _ H1549 _
        have k1576 : wLM H1549 r0 = wLM H r0 := ((wLM_fr w1312 g0 f1554 rfl).trans (wLM_fr hW g0 ((wfr.rf (l := [(42, 0)])).put' e1311 g0 rfl) rfl))
        refine wp_of e255 c255_30 (rw_istore_n (pc' := 31) (z := z1555) (L' := [(3, vI z1555), (0, .ref r0), (1, vI a1), (2, vI a2)]) rfl rfl rfl ?_)
        refine wp_of e255 c255_31 (rw_iload_n (pc' := 32) (z := z1555) rfl rfl ?_)
        refine wp_of e255 c255_32 (rw_if_le (p1 := 43) (p2 := 35) (by decide) rfl ⟨Int.le_trans (by decide) b1556.1, Int.le_trans b1556.2 (by decide)⟩ (fun c1577 => ?_) (fun c1577 => ?_))
        · refine wp_of e255 c255_43 (rw_aload_n (pc' := 44) (v := .ref r0) rfl rfl rfl ?_)
          refine wp_of e255 c255_44 (rw_ldc2 (pc' := 47) (z := 100) rfl rfl rfl ?_)
          refine wp_of e255 c255_47 (rw_aload_n (pc' := 48) (v := .ref r0) rfl rfl rfl ?_)
          refine wp_of e255 c255_48 (rw_iload_n (pc' := 49) (z := a1) rfl rfl ?_)
          refine wp_of e255 c255_49 (rw_iload_n (pc' := 50) (z := a2) rfl rfl ?_)
          have k1578 : H1549 r0 3 = H1310 r0 3 := (f1554 r0 3 _ g0 rfl)
          obtain ⟨r1579, q1580, g1581⟩ := (w1553.opt g0 (t' := 54) (n := 33) (j := 3) (p := 0) (q := 0) rfl (by decide) rfl).resolve_left (by omega)
          refine wp_of e255 c255_50 (xc_V (pc' := 53) (r := r0) (as := [vI a1, vI a2]) (st := [vL 100, .ref r0]) (lm_9_440) rfl rfl (Nat.le_of_ble_eq_true rfl) w1553 g0 sh_42 (by decide) rfl (by decide) (s_247 w1553 g0 ⟨by omega, by omega⟩ ⟨i2.1, i2.2⟩ q1580 g1581 (by omega)) (fun R1582 T1583 H1584 p1585 => ?_))
          obtain ⟨e1586, w1588, f1589, z1591, e1587, b1592, p1590⟩ := p1585
          subst e1586
          subst e1587
          have f1593 := f1575.tr f1589 rfl
          show wp _ _ 255 53 [(3, vI z1555), (0, .ref r0), (1, vI a1), (2, vI a2)] [vL z1591, vL 100, .ref r0] _ H1584 _
          refine wp_of e255 c255_53 (rw_lmul (pc' := 54) rfl ?_)
          refine wp_of e255 c255_54 (rw_aload_n (pc' := 55) (v := .ref r0) rfl rfl rfl ?_)
          refine wp_of e255 c255_55 (rw_iconst (pc' := 56) rfl ?_)
          refine wp_of e255 c255_56 (rw_iconst (pc' := 57) rfl ?_)
          have k1594 : H1584 r0 29 = H1549 r0 29 := (f1589 r0 29 _ g0 rfl)
          have k1595 : wLM H1584 r0 = wLM H1549 r0 := (wLM_fr w1553 g0 f1589 rfl)
          have k1596 : H1584 r0 3 = H1549 r0 3 := (f1589 r0 3 _ g0 rfl)
          have q1597 : H1584 r0 3 = (r1579 : Int) := k1596.trans q1580
          refine wp_of e255 c255_57 (xc_V (pc' := 60) (r := r0) (as := [vI (-1), vI 0]) (st := [vL (100 * z1591), .ref r0]) (lm_9_440) rfl rfl (Nat.le_of_ble_eq_true rfl) w1588 g0 sh_42 (by decide) rfl (by decide) (s_247 w1588 g0 ⟨by decide, by decide⟩ ⟨by decide, by decide⟩ q1597 g1581 (by omega)) (fun R1598 T1599 H1600 p1601 => ?_))
          obtain ⟨e1602, w1604, f1605, z1607, e1603, b1608, p1606⟩ := p1601
          subst e1602
          subst e1603
          have f1609 := f1593.tr f1605 rfl
          show wp _ _ 255 60 [(3, vI z1555), (0, .ref r0), (1, vI a1), (2, vI a2)] [vL z1607, vL (100 * z1591), .ref r0] _ H1600 _
          refine wp_of e255 c255_60 (rw_ldiv (pc' := 61) rfl ⟨by omega, by omega⟩ (by omega) ?_)
          obtain ⟨v1610, e1611⟩ : ∃ x : Int, x = wl_div (100 * z1591) z1607 := ⟨_, rfl⟩
          rw [← e1611]
          have b1612 : -9223372036854775808 ≤ v1610 ∧ v1610 ≤ 9223372036854775807 := by
            rw [e1611]
            exact wL_div _ _
          refine wp_of e255 c255_61 (rw_l2i (pc' := 62) rfl ?_)
          obtain ⟨v1613, e1614⟩ : ∃ x : Int, x = wq_w v1610 := ⟨_, rfl⟩
          rw [← e1614]
          have b1615 : -2147483648 ≤ v1613 ∧ v1613 ≤ 2147483647 := by
            rw [e1614]
            exact wI_w _
          have b1616 : (-2147483648 ≤ v1610 ∧ v1610 ≤ 2147483647) → v1613 = v1610 := by
            rw [e1614]
            exact fun h => wq_w_id h
          refine wp_of e255 c255_62 (xc_V (pc' := 65) (r := r0) (as := [vI v1613]) (st := []) (lm_9_58) rfl rfl (Nat.le_of_ble_eq_true rfl) w1604 g0 sh_42 (by decide) rfl (by decide) (s_209 w1604 g0 ⟨b1615.1, b1615.2⟩) (fun R1617 T1618 H1619 p1620 => ?_))
          obtain ⟨e1621, w1623, f1624, z1625, e1622, b1626⟩ := p1620
          subst e1621
          subst e1622
          have f1627 := f1609.tr f1624 rfl
          show wp _ _ 255 65 [(3, vI z1555), (0, .ref r0), (1, vI a1), (2, vI a2)] [vI z1625] _ H1619 _
          have k1628 : wKI H1619 r0 = wKI H1549 r0 := ((wKI_fr w1604 g0 f1624 rfl).trans ((wKI_fr w1588 g0 f1605 rfl).trans (wKI_fr w1553 g0 f1589 rfl)))
          have h1629 : KNN T H1619 r0 e d := (KNN_fr w1604 g0 f1624 rfl (KNN_fr w1588 g0 f1605 rfl (KNN_fr w1553 g0 f1589 rfl a1566)))
          exact wp_ireturn e255 c255_65 rfl ⟨rfl, w1623, f1627, z1625, rfl, ⟨b1626.1, b1626.2⟩, ⟨by omega, h1629⟩⟩
        · exfalso
          omega
      · have f1630 := f1313.tr f1554 rfl
        show wp _ _ 255 30 [(0, .ref r0), (1, vI a1), (2, vI a2)] [vI z1555] _ H1549 _
        have k1631 : wLM H1549 r0 = wLM H r0 := ((wLM_fr w1312 g0 f1554 rfl).trans (wLM_fr hW g0 ((wfr.rf (l := [(42, 0)])).put' e1311 g0 rfl) rfl))
        refine wp_of e255 c255_30 (rw_istore_n (pc' := 31) (z := z1555) (L' := [(3, vI z1555), (0, .ref r0), (1, vI a1), (2, vI a2)]) rfl rfl rfl ?_)
        refine wp_of e255 c255_31 (rw_iload_n (pc' := 32) (z := z1555) rfl rfl ?_)
        refine wp_of e255 c255_32 (rw_if_le (p1 := 43) (p2 := 35) (by decide) rfl ⟨Int.le_trans (by decide) b1556.1, Int.le_trans b1556.2 (by decide)⟩ (fun c1632 => ?_) (fun c1632 => ?_))
        · exfalso
          omega
        · refine wp_of e255 c255_35 (rw_aload_n (pc' := 36) (v := .ref r0) rfl rfl rfl ?_)
          refine wp_of e255 c255_36 (rw_iload_n (pc' := 37) (z := z1555) rfl rfl ?_)
          refine wp_of e255 c255_37 (xc_V (pc' := 40) (r := r0) (as := [vI z1555]) (st := []) (lm_9_54) rfl rfl (Nat.le_of_ble_eq_true rfl) w1553 g0 sh_42 (by decide) rfl (by decide) (s_170 w1553 g0 ⟨Int.le_trans (by decide) b1556.1, Int.le_trans b1556.2 (by decide)⟩) (fun R1633 T1634 H1635 p1636 => ?_))
          obtain ⟨e1637, w1639, f1640, z1641, e1638, b1642⟩ := p1636
          subst e1637
          subst e1638
          have f1643 := f1630.tr f1640 rfl
          show wp _ _ 255 40 [(3, vI z1555), (0, .ref r0), (1, vI a1), (2, vI a2)] [vI z1641] _ H1635 _
          refine wp_of e255 c255_40 (rw_goto (p1 := 65) (by decide) ?_)
          have k1644 : wKI H1635 r0 = wKI H1549 r0 := (wKI_fr w1553 g0 f1640 rfl)
          have h1645 : KNN T H1635 r0 e d := (KNN_fr w1553 g0 f1640 rfl a1574)
          exact wp_ireturn e255 c255_65 rfl ⟨rfl, w1639, f1643, z1641, rfl, ⟨b1642.1, b1642.2⟩, ⟨by omega, h1645⟩⟩
/-! StrikeAwakeModel.likeliest(I)I  -/
abbrev uq_256 (r0 : Nat) (a1 : Int) (e : xD) (d : xD) (T : wq_T) (H : wq_H) : Option Value → wq_T → wq_H → Prop := fun r T' H' => T = T' ∧ WT T H' ∧ wfr [(42, 0), (42, 1), (42, 2), (42, 28), (42, 29), (51, 999), (52, 999)] T H H' ∧ ∃ z : Int, some (vI z) = r ∧ ((-2147483648) ≤ z ∧ z ≤ 2147483647) ∧ (((wKI H' r0 = 1) ∧ KNN T H' r0 e d))
set_option maxHeartbeats 4000000 in
theorem u_256 {kt : Nat → Option mc_E} {T : wq_T} {H : wq_H} {r0 : Nat} {a1 : Int} {e : xD} {d : xD} (hW : WT T H) (g0 : T.2.2.2 r0 = some 42) (i1 : (-2147483648) ≤ a1 ∧ a1 ≤ 2147483647) (p0 : wKI H r0 = 1) (p1 : XW d) (p2 : ∀ h : Nat, d 0 0 ≤ (h : Int) → h < 24 → e 13 h = 0) (p3 : XN d) (p4 : ∀ h : Nat, h < 24 → 0 ≤ e 13 h ∧ e 13 h ≤ 100) (hRB_r0 : RB T H r0 e d) (hKNN_r0 : KNN T H r0 e d) : wpc kt 9 256 [.ref r0, vI a1] T H (uq_256 r0 a1 e d T H) := by
  refine wp_enter e256 (Nat.le_of_ble_eq_true rfl) rfl ?_
  have f0 : wfr [(42, 0), (42, 1), (42, 2), (42, 28), (42, 29), (51, 999), (52, 999)] T H H := wfr.rf
  show wp _ _ 256 0 [(0, .ref r0), (1, vI a1)] [] _ H _
  have _b := RB_b hW hRB_r0
  have _nu := RB_n3 hRB_r0
  have _lm := RB_lm hRB_r0
  refine wp_of e256 c256_0 (rw_aload_n (pc' := 1) (v := .ref r0) rfl rfl rfl ?_)
  refine wp_of e256 c256_1 (rw_iconst (pc' := 2) rfl ?_)
  refine wp_of e256 c256_2 (xp_I (pc' := 5) lf_9_48 hW g0 sh_42 (by decide) (by decide) ty_42_0 rfl rfl (by decide) (by decide) ⟨by decide, by decide⟩ rfl (fun H1094 e1095 w1096 => ?_))
  have f1097 := f0.put' e1095 g0 rfl
  have k1098 : H1094 r0 0 = 0 := wq_u_s e1095
  refine wp_of e256 c256_5 (rw_aload_n (pc' := 6) (v := .ref r0) rfl rfl rfl ?_)
  refine wp_of e256 c256_6 (rw_aload_n (pc' := 7) (v := .ref r0) rfl rfl rfl ?_)
  refine wp_of e256 c256_7 (rw_iload_n (pc' := 8) (z := a1) rfl rfl ?_)
  refine wp_of e256 c256_8 (xc_V (pc' := 11) (r := r0) (as := [vI a1]) (st := [.ref r0]) (lm_9_364) rfl rfl (Nat.le_of_ble_eq_true rfl) w1096 g0 sh_42 (by decide) rfl (by decide) (s_213 w1096 g0 ⟨i1.1, i1.2⟩) (fun R1099 T1100 H1101 p1102 => ?_))
  obtain ⟨e1103, e1105, z1107, e1104, b1108, p1106⟩ := p1102
  subst e1103
  subst e1104
  subst e1105
  show wp _ _ 256 11 [(0, .ref r0), (1, vI a1)] [vI z1107, .ref r0] _ H1094 _
  have k1109 : H1094 r0 3 = H r0 3 := (wq_u_j e1095 rfl)
  have k1110 : wKI H1094 r0 = wKI H r0 := (wKI_fr hW g0 ((wfr.rf (l := [(42, 0)])).put' e1095 g0 rfl) rfl)
  have h1111 : RB T H1094 r0 e d := (RB_fr hW g0 ((wfr.rf (l := [(42, 0)])).put' e1095 g0 rfl) rfl hRB_r0)
  have h1112 : KNN T H1094 r0 e d := (KNN_fr hW g0 ((wfr.rf (l := [(42, 0)])).put' e1095 g0 rfl) rfl hKNN_r0)
  refine wp_of e256 c256_11 (xc_V (pc' := 14) (r := r0) (as := [vI z1107]) (st := []) (lm_9_447) rfl rfl (Nat.le_of_ble_eq_true rfl) w1096 g0 sh_42 (by decide) rfl (by decide) (u_253 (e := e) (d := d) w1096 g0 ⟨b1108.1, b1108.2⟩ (by omega) (by omega) (by assumption) (by assumption) (by assumption) (by assumption) h1111 h1112) (fun R1113 T1114 H1115 p1116 => ?_))
  obtain ⟨e1117, w1119, f1120, z1121, e1118, b1122, p1123⟩ := p1116
  subst e1117
  subst e1118
  rcases p1123 with ⟨a1124, a1125, a1126, a1127, a1128, a1129, a1130, a1131, a1132, a1133⟩ | ⟨a1134, a1135, a1136, a1137, a1138, a1139, a1140⟩
  · have f1141 := f1097.tr f1120 rfl
    show wp _ _ 256 14 [(0, .ref r0), (1, vI a1)] [vI z1121] _ H1115 _
    have k1142 : wLM H1115 r0 = wLM H r0 := ((wLM_fr w1096 g0 f1120 rfl).trans (wLM_fr hW g0 ((wfr.rf (l := [(42, 0)])).put' e1095 g0 rfl) rfl))
    refine wp_of e256 c256_14 (rw_istore_n (pc' := 15) (z := z1121) (L' := [(2, vI z1121), (0, .ref r0), (1, vI a1)]) rfl rfl rfl ?_)
    refine wp_of e256 c256_15 (rw_iload_n (pc' := 16) (z := z1121) rfl rfl ?_)
    refine wp_of e256 c256_16 (rw_if_le (p1 := 25) (p2 := 19) (by decide) rfl ⟨Int.le_trans (by decide) b1122.1, Int.le_trans b1122.2 (by decide)⟩ (fun c1143 => ?_) (fun c1143 => ?_))
    · refine wp_of e256 c256_25 (rw_aload_n (pc' := 26) (v := .ref r0) rfl rfl rfl ?_)
      have k1144 : H1115 r0 3 = H1094 r0 3 := (f1120 r0 3 _ g0 rfl)
      obtain ⟨r1145, q1146, g1147⟩ := (w1119.opt g0 (t' := 54) (n := 33) (j := 3) (p := 0) (q := 0) rfl (by decide) rfl).resolve_left (by omega)
      refine wp_of e256 c256_26 (xc_V (pc' := 29) (r := r0) (as := []) (st := []) (lm_9_452) rfl rfl (Nat.le_of_ble_eq_true rfl) w1119 g0 sh_42 (by decide) rfl (by decide) (s_257 w1119 g0 q1146 g1147 (by omega) (by omega)) (fun R1148 T1149 H1150 p1151 => ?_))
      obtain ⟨e1152, w1154, f1155, z1156, e1153, b1157⟩ := p1151
      subst e1152
      subst e1153
      have f1158 := f1141.tr f1155 rfl
      show wp _ _ 256 29 [(2, vI z1121), (0, .ref r0), (1, vI a1)] [vL z1156] _ H1150 _
      refine wp_of e256 c256_29 (rw_pop2 (pc' := 30) rfl rfl ?_)
      refine wp_of e256 c256_30 (rw_aload_n (pc' := 31) (v := .ref r0) rfl rfl rfl ?_)
      refine wp_of e256 c256_31 (rw_aload_n (pc' := 32) (v := .ref r0) rfl rfl rfl ?_)
      refine wp_of e256 c256_32 (xg_R (pc' := 35) lf_9_39 w1154 g0 sh_42 (by decide) (by decide) ty_42_27 rfl rfl (fun r1159 q1160 g1161 => ?_))
      refine wp_of e256 c256_35 (rw_iload_n (pc' := 36) (z := a1) rfl rfl ?_)
      refine wp_of e256 c256_36 (xa_I (so := 0) (pc' := 37) w1154 g1161 sh_51 (by decide) (ty_51 _) (by omega) (by omega) rfl (fun b1162 b1163 => ?_))
      refine wp_of e256 c256_37 (xc_V (pc' := 40) (r := r0) (as := [vI (H1150 r1159 (a1.toNat))]) (st := []) (lm_9_58) rfl rfl (Nat.le_of_ble_eq_true rfl) w1154 g0 sh_42 (by decide) rfl (by decide) (s_209 w1154 g0 ⟨Int.le_trans (by decide) b1162, Int.le_trans b1163 (by decide)⟩) (fun R1164 T1165 H1166 p1167 => ?_))
      obtain ⟨e1168, w1170, f1171, z1172, e1169, b1173⟩ := p1167
      subst e1168
      subst e1169
      have f1174 := f1158.tr f1171 rfl
      show wp _ _ 256 40 [(2, vI z1121), (0, .ref r0), (1, vI a1)] [vI z1172] _ H1166 _
      have k1175 : wKI H1166 r0 = wKI H1115 r0 := ((wKI_fr w1154 g0 f1171 rfl).trans (wKI_fr w1119 g0 f1155 rfl))
      have h1176 : KNN T H1166 r0 e d := (KNN_fr w1154 g0 f1171 rfl (KNN_fr w1119 g0 f1155 rfl a1132))
      exact wp_ireturn e256 c256_40 rfl ⟨rfl, w1170, f1174, z1172, rfl, ⟨b1173.1, b1173.2⟩, ⟨by omega, h1176⟩⟩
    · exfalso
      omega
  · have f1177 := f1097.tr f1120 rfl
    show wp _ _ 256 14 [(0, .ref r0), (1, vI a1)] [vI z1121] _ H1115 _
    have k1178 : wLM H1115 r0 = wLM H r0 := ((wLM_fr w1096 g0 f1120 rfl).trans (wLM_fr hW g0 ((wfr.rf (l := [(42, 0)])).put' e1095 g0 rfl) rfl))
    refine wp_of e256 c256_14 (rw_istore_n (pc' := 15) (z := z1121) (L' := [(2, vI z1121), (0, .ref r0), (1, vI a1)]) rfl rfl rfl ?_)
    refine wp_of e256 c256_15 (rw_iload_n (pc' := 16) (z := z1121) rfl rfl ?_)
    refine wp_of e256 c256_16 (rw_if_le (p1 := 25) (p2 := 19) (by decide) rfl ⟨Int.le_trans (by decide) b1122.1, Int.le_trans b1122.2 (by decide)⟩ (fun c1179 => ?_) (fun c1179 => ?_))
    · exfalso
      omega
    · refine wp_of e256 c256_19 (rw_aload_n (pc' := 20) (v := .ref r0) rfl rfl rfl ?_)
      refine wp_of e256 c256_20 (rw_iload_n (pc' := 21) (z := z1121) rfl rfl ?_)
      refine wp_of e256 c256_21 (xc_V (pc' := 24) (r := r0) (as := [vI z1121]) (st := []) (lm_9_54) rfl rfl (Nat.le_of_ble_eq_true rfl) w1119 g0 sh_42 (by decide) rfl (by decide) (s_170 w1119 g0 ⟨Int.le_trans (by decide) b1122.1, Int.le_trans b1122.2 (by decide)⟩) (fun R1180 T1181 H1182 p1183 => ?_))
      obtain ⟨e1184, w1186, f1187, z1188, e1185, b1189⟩ := p1183
      subst e1184
      subst e1185
      have f1190 := f1177.tr f1187 rfl
      show wp _ _ 256 24 [(2, vI z1121), (0, .ref r0), (1, vI a1)] [vI z1188] _ H1182 _
      have k1191 : wKI H1182 r0 = wKI H1115 r0 := (wKI_fr w1119 g0 f1187 rfl)
      have h1192 : KNN T H1182 r0 e d := (KNN_fr w1119 g0 f1187 rfl a1140)
      exact wp_ireturn e256 c256_24 rfl ⟨rfl, w1186, f1190, z1188, rfl, ⟨b1189.1, b1189.2⟩, ⟨by omega, h1192⟩⟩
/-! StrikeAwakeModel.greatest()J  -/
abbrev uq_258 (r0 : Nat) (e : xD) (d : xD) (T : wq_T) (H : wq_H) : Option Value → wq_T → wq_H → Prop := fun r T' H' => T = T' ∧ WT T H' ∧ wfr [(42, 0), (42, 1), (42, 2), (42, 28), (42, 29), (51, 999), (52, 999)] T H H' ∧ ∃ z : Int, some (vL z) = r ∧ ((-9223372036854775808) ≤ z ∧ z ≤ 9223372036854775807) ∧ (((wKI H' r0 = 1) ∧ KNN T H' r0 e d))
set_option maxHeartbeats 4000000 in
theorem u_258 {kt : Nat → Option mc_E} {T : wq_T} {H : wq_H} {r0 : Nat} {e : xD} {d : xD} (hW : WT T H) (g0 : T.2.2.2 r0 = some 42) (p0 : wKI H r0 = 1) (p1 : XW d) (p2 : ∀ h : Nat, d 0 0 ≤ (h : Int) → h < 24 → e 13 h = 0) (p3 : XN d) (p4 : ∀ h : Nat, h < 24 → 0 ≤ e 13 h ∧ e 13 h ≤ 100) (hRB_r0 : RB T H r0 e d) (hKNN_r0 : KNN T H r0 e d) : wpc kt 9 258 [.ref r0] T H (uq_258 r0 e d T H) := by
  refine wp_enter e258 (Nat.le_of_ble_eq_true rfl) rfl ?_
  have f0 : wfr [(42, 0), (42, 1), (42, 2), (42, 28), (42, 29), (51, 999), (52, 999)] T H H := wfr.rf
  show wp _ _ 258 0 [(0, .ref r0)] [] _ H _
  have _b := RB_b hW hRB_r0
  have _nu := RB_n3 hRB_r0
  have _lm := RB_lm hRB_r0
  refine wp_of e258 c258_0 (rw_aload_n (pc' := 1) (v := .ref r0) rfl rfl rfl ?_)
  refine wp_of e258 c258_1 (rw_iconst (pc' := 2) rfl ?_)
  refine wp_of e258 c258_2 (xp_I (pc' := 5) lf_9_48 hW g0 sh_42 (by decide) (by decide) ty_42_0 rfl rfl (by decide) (by decide) ⟨by decide, by decide⟩ rfl (fun H1153 e1154 w1155 => ?_))
  have f1156 := f0.put' e1154 g0 rfl
  have k1157 : H1153 r0 0 = 0 := wq_u_s e1154
  refine wp_of e258 c258_5 (rw_aload_n (pc' := 6) (v := .ref r0) rfl rfl rfl ?_)
  refine wp_of e258 c258_6 (rw_aload_n (pc' := 7) (v := .ref r0) rfl rfl rfl ?_)
  have k1158 : H1153 r0 3 = H r0 3 := (wq_u_j e1154 rfl)
  refine wp_of e258 c258_7 (xg_O (pc' := 10) lf_9_337 w1155 g0 sh_42 (by decide) (by decide) ty_42_3 rfl rfl (fun q1160 => ?_) (fun r1159 q1160 g1161 => ?_))
  · refine wp_of e258 c258_10 (rw_ifnull_n (p1 := 17) (p2 := 13) (by decide) rfl ?_)
    refine wp_of e258 c258_17 (rw_iconst (pc' := 18) rfl ?_)
    have k1162 : wKI H1153 r0 = wKI H r0 := (wKI_fr hW g0 ((wfr.rf (l := [(42, 0)])).put' e1154 g0 rfl) rfl)
    have h1163 : RB T H1153 r0 e d := (RB_fr hW g0 ((wfr.rf (l := [(42, 0)])).put' e1154 g0 rfl) rfl hRB_r0)
    have h1164 : KNN T H1153 r0 e d := (KNN_fr hW g0 ((wfr.rf (l := [(42, 0)])).put' e1154 g0 rfl) rfl hKNN_r0)
    refine wp_of e258 c258_18 (xc_V (pc' := 21) (r := r0) (as := [vI 0]) (st := []) (lm_9_447) rfl rfl (Nat.le_of_ble_eq_true rfl) w1155 g0 sh_42 (by decide) rfl (by decide) (u_253 (e := e) (d := d) w1155 g0 ⟨by decide, by decide⟩ (by omega) (by omega) (by assumption) (by assumption) (by assumption) (by assumption) h1163 h1164) (fun R1165 T1166 H1167 p1168 => ?_))
    obtain ⟨e1169, w1171, f1172, z1173, e1170, b1174, p1175⟩ := p1168
    subst e1169
    subst e1170
    rcases p1175 with ⟨a1176, a1177, a1178, a1179, a1180, a1181, a1182, a1183, a1184, a1185⟩ | ⟨a1186, a1187, a1188, a1189, a1190, a1191, a1192⟩
    · have f1193 := f1156.tr f1172 rfl
      show wp _ _ 258 21 [(0, .ref r0)] [vI z1173] _ H1167 _
      have k1194 : wLM H1167 r0 = wLM H r0 := ((wLM_fr w1155 g0 f1172 rfl).trans (wLM_fr hW g0 ((wfr.rf (l := [(42, 0)])).put' e1154 g0 rfl) rfl))
      refine wp_of e258 c258_21 (rw_istore_n (pc' := 22) (z := z1173) (L' := [(1, vI z1173), (0, .ref r0)]) rfl rfl rfl ?_)
      refine wp_of e258 c258_22 (rw_iload_n (pc' := 23) (z := z1173) rfl rfl ?_)
      refine wp_of e258 c258_23 (rw_if_le (p1 := 35) (p2 := 26) (by decide) rfl ⟨Int.le_trans (by decide) b1174.1, Int.le_trans b1174.2 (by decide)⟩ (fun c1195 => ?_) (fun c1195 => ?_))
      · refine wp_of e258 c258_35 (rw_aload_n (pc' := 36) (v := .ref r0) rfl rfl rfl ?_)
        refine wp_of e258 c258_36 (rw_aload_n (pc' := 37) (v := .ref r0) rfl rfl rfl ?_)
        have k1196 : H1167 r0 3 = H1153 r0 3 := (f1172 r0 3 _ g0 rfl)
        have q1197 : H1167 r0 3 = -1 := k1196.trans q1160
        obtain ⟨r1198, q1199, g1200⟩ := (w1171.opt g0 (t' := 54) (n := 33) (j := 3) (p := 0) (q := 0) rfl (by decide) rfl).resolve_left (by omega)
        refine wp_of e258 c258_37 (xc_V (pc' := 40) (r := r0) (as := []) (st := [.ref r0]) (lm_9_452) rfl rfl (Nat.le_of_ble_eq_true rfl) w1171 g0 sh_42 (by decide) rfl (by decide) (s_257 w1171 g0 q1199 g1200 (by omega) (by omega)) (fun R1201 T1202 H1203 p1204 => ?_))
        obtain ⟨e1205, w1207, f1208, z1209, e1206, b1210⟩ := p1204
        subst e1205
        subst e1206
        have f1211 := f1193.tr f1208 rfl
        show wp _ _ 258 40 [(1, vI z1173), (0, .ref r0)] [vL z1209, .ref r0] _ H1203 _
        refine wp_of e258 c258_40 (xc_V (pc' := 43) (r := r0) (as := [vL z1209]) (st := []) (lm_9_380) rfl rfl (Nat.le_of_ble_eq_true rfl) w1207 g0 sh_42 (by decide) rfl (by decide) (s_221 w1207 g0 ⟨Int.le_trans (by decide) b1210.1, Int.le_trans b1210.2 (by decide)⟩) (fun R1212 T1213 H1214 p1215 => ?_))
        obtain ⟨e1216, w1218, f1219, z1220, e1217, b1221⟩ := p1215
        subst e1216
        subst e1217
        have f1222 := f1211.tr f1219 rfl
        show wp _ _ 258 43 [(1, vI z1173), (0, .ref r0)] [vL z1220] _ H1214 _
        have k1223 : wKI H1214 r0 = wKI H1167 r0 := ((wKI_fr w1207 g0 f1219 rfl).trans (wKI_fr w1171 g0 f1208 rfl))
        have h1224 : KNN T H1214 r0 e d := (KNN_fr w1207 g0 f1219 rfl (KNN_fr w1171 g0 f1208 rfl a1184))
        exact wp_lreturn e258 c258_43 rfl ⟨rfl, w1218, f1222, z1220, rfl, ⟨b1221.1, b1221.2⟩, ⟨by omega, h1224⟩⟩
      · exfalso
        omega
    · have f1225 := f1156.tr f1172 rfl
      show wp _ _ 258 21 [(0, .ref r0)] [vI z1173] _ H1167 _
      have k1226 : wLM H1167 r0 = wLM H r0 := ((wLM_fr w1155 g0 f1172 rfl).trans (wLM_fr hW g0 ((wfr.rf (l := [(42, 0)])).put' e1154 g0 rfl) rfl))
      refine wp_of e258 c258_21 (rw_istore_n (pc' := 22) (z := z1173) (L' := [(1, vI z1173), (0, .ref r0)]) rfl rfl rfl ?_)
      refine wp_of e258 c258_22 (rw_iload_n (pc' := 23) (z := z1173) rfl rfl ?_)
      refine wp_of e258 c258_23 (rw_if_le (p1 := 35) (p2 := 26) (by decide) rfl ⟨Int.le_trans (by decide) b1174.1, Int.le_trans b1174.2 (by decide)⟩ (fun c1227 => ?_) (fun c1227 => ?_))
      · exfalso
        omega
      · refine wp_of e258 c258_26 (rw_aload_n (pc' := 27) (v := .ref r0) rfl rfl rfl ?_)
        refine wp_of e258 c258_27 (rw_iload_n (pc' := 28) (z := z1173) rfl rfl ?_)
        refine wp_of e258 c258_28 (xc_V (pc' := 31) (r := r0) (as := [vI z1173]) (st := []) (lm_9_54) rfl rfl (Nat.le_of_ble_eq_true rfl) w1171 g0 sh_42 (by decide) rfl (by decide) (s_170 w1171 g0 ⟨Int.le_trans (by decide) b1174.1, Int.le_trans b1174.2 (by decide)⟩) (fun R1228 T1229 H1230 p1231 => ?_))
        obtain ⟨e1232, w1234, f1235, z1236, e1233, b1237⟩ := p1231
        subst e1232
        subst e1233
        have f1238 := f1225.tr f1235 rfl
        show wp _ _ 258 31 [(1, vI z1173), (0, .ref r0)] [vI z1236] _ H1230 _
        refine wp_of e258 c258_31 (rw_i2l (pc' := 32) rfl ⟨b1237.1, b1237.2⟩ ?_)
        refine wp_of e258 c258_32 (rw_goto (p1 := 43) (by decide) ?_)
        have k1239 : wKI H1230 r0 = wKI H1167 r0 := (wKI_fr w1171 g0 f1235 rfl)
        have h1240 : KNN T H1230 r0 e d := (KNN_fr w1171 g0 f1235 rfl a1192)
        exact wp_lreturn e258 c258_43 rfl ⟨rfl, w1234, f1238, z1236, rfl, ⟨Int.le_trans (by decide) b1237.1, Int.le_trans b1237.2 (by decide)⟩, ⟨by omega, h1240⟩⟩
  · refine wp_of e258 c258_10 (rw_ifnull_r (p1 := 17) (p2 := 13) (by decide) rfl ?_)
    refine wp_of e258 c258_13 (rw_iconst (pc' := 14) rfl ?_)
    refine wp_of e258 c258_14 (rw_goto (p1 := 18) (by decide) ?_)
    have k1241 : wKI H1153 r0 = wKI H r0 := (wKI_fr hW g0 ((wfr.rf (l := [(42, 0)])).put' e1154 g0 rfl) rfl)
    have h1242 : RB T H1153 r0 e d := (RB_fr hW g0 ((wfr.rf (l := [(42, 0)])).put' e1154 g0 rfl) rfl hRB_r0)
    have h1243 : KNN T H1153 r0 e d := (KNN_fr hW g0 ((wfr.rf (l := [(42, 0)])).put' e1154 g0 rfl) rfl hKNN_r0)
    refine wp_of e258 c258_18 (xc_V (pc' := 21) (r := r0) (as := [vI 1]) (st := []) (lm_9_447) rfl rfl (Nat.le_of_ble_eq_true rfl) w1155 g0 sh_42 (by decide) rfl (by decide) (u_253 (e := e) (d := d) w1155 g0 ⟨by decide, by decide⟩ (by omega) (by omega) (by assumption) (by assumption) (by assumption) (by assumption) h1242 h1243) (fun R1244 T1245 H1246 p1247 => ?_))
    obtain ⟨e1248, w1250, f1251, z1252, e1249, b1253, p1254⟩ := p1247
    subst e1248
    subst e1249
    rcases p1254 with ⟨a1255, a1256, a1257, a1258, a1259, a1260, a1261, a1262, a1263, a1264⟩ | ⟨a1265, a1266, a1267, a1268, a1269, a1270, a1271⟩
    · have f1272 := f1156.tr f1251 rfl
      show wp _ _ 258 21 [(0, .ref r0)] [vI z1252] _ H1246 _
      have k1273 : wLM H1246 r0 = wLM H r0 := ((wLM_fr w1155 g0 f1251 rfl).trans (wLM_fr hW g0 ((wfr.rf (l := [(42, 0)])).put' e1154 g0 rfl) rfl))
      refine wp_of e258 c258_21 (rw_istore_n (pc' := 22) (z := z1252) (L' := [(1, vI z1252), (0, .ref r0)]) rfl rfl rfl ?_)
      refine wp_of e258 c258_22 (rw_iload_n (pc' := 23) (z := z1252) rfl rfl ?_)
      refine wp_of e258 c258_23 (rw_if_le (p1 := 35) (p2 := 26) (by decide) rfl ⟨Int.le_trans (by decide) b1253.1, Int.le_trans b1253.2 (by decide)⟩ (fun c1274 => ?_) (fun c1274 => ?_))
      · refine wp_of e258 c258_35 (rw_aload_n (pc' := 36) (v := .ref r0) rfl rfl rfl ?_)
        refine wp_of e258 c258_36 (rw_aload_n (pc' := 37) (v := .ref r0) rfl rfl rfl ?_)
        have k1275 : H1246 r0 3 = H1153 r0 3 := (f1251 r0 3 _ g0 rfl)
        have q1276 : H1246 r0 3 = (r1159 : Int) := k1275.trans q1160
        refine wp_of e258 c258_37 (xc_V (pc' := 40) (r := r0) (as := []) (st := [.ref r0]) (lm_9_452) rfl rfl (Nat.le_of_ble_eq_true rfl) w1250 g0 sh_42 (by decide) rfl (by decide) (s_257 w1250 g0 q1276 g1161 (by omega) (by omega)) (fun R1277 T1278 H1279 p1280 => ?_))
        obtain ⟨e1281, w1283, f1284, z1285, e1282, b1286⟩ := p1280
        subst e1281
        subst e1282
        have f1287 := f1272.tr f1284 rfl
        show wp _ _ 258 40 [(1, vI z1252), (0, .ref r0)] [vL z1285, .ref r0] _ H1279 _
        refine wp_of e258 c258_40 (xc_V (pc' := 43) (r := r0) (as := [vL z1285]) (st := []) (lm_9_380) rfl rfl (Nat.le_of_ble_eq_true rfl) w1283 g0 sh_42 (by decide) rfl (by decide) (s_221 w1283 g0 ⟨Int.le_trans (by decide) b1286.1, Int.le_trans b1286.2 (by decide)⟩) (fun R1288 T1289 H1290 p1291 => ?_))
        obtain ⟨e1292, w1294, f1295, z1296, e1293, b1297⟩ := p1291
        subst e1292
        subst e1293
        have f1298 := f1287.tr f1295 rfl
        show wp _ _ 258 43 [(1, vI z1252), (0, .ref r0)] [vL z1296] _ H1290 _
        have k1299 : wKI H1290 r0 = wKI H1246 r0 := ((wKI_fr w1283 g0 f1295 rfl).trans (wKI_fr w1250 g0 f1284 rfl))
        have h1300 : KNN T H1290 r0 e d := (KNN_fr w1283 g0 f1295 rfl (KNN_fr w1250 g0 f1284 rfl a1263))
        exact wp_lreturn e258 c258_43 rfl ⟨rfl, w1294, f1298, z1296, rfl, ⟨b1297.1, b1297.2⟩, ⟨by omega, h1300⟩⟩
      · exfalso
        omega
    · have f1301 := f1156.tr f1251 rfl
      show wp _ _ 258 21 [(0, .ref r0)] [vI z1252] _ H1246 _
      have k1302 : wLM H1246 r0 = wLM H r0 := ((wLM_fr w1155 g0 f1251 rfl).trans (wLM_fr hW g0 ((wfr.rf (l := [(42, 0)])).put' e1154 g0 rfl) rfl))
      refine wp_of e258 c258_21 (rw_istore_n (pc' := 22) (z := z1252) (L' := [(1, vI z1252), (0, .ref r0)]) rfl rfl rfl ?_)
      refine wp_of e258 c258_22 (rw_iload_n (pc' := 23) (z := z1252) rfl rfl ?_)
      refine wp_of e258 c258_23 (rw_if_le (p1 := 35) (p2 := 26) (by decide) rfl ⟨Int.le_trans (by decide) b1253.1, Int.le_trans b1253.2 (by decide)⟩ (fun c1303 => ?_) (fun c1303 => ?_))
      · exfalso
        omega
      · refine wp_of e258 c258_26 (rw_aload_n (pc' := 27) (v := .ref r0) rfl rfl rfl ?_)
        refine wp_of e258 c258_27 (rw_iload_n (pc' := 28) (z := z1252) rfl rfl ?_)
        refine wp_of e258 c258_28 (xc_V (pc' := 31) (r := r0) (as := [vI z1252]) (st := []) (lm_9_54) rfl rfl (Nat.le_of_ble_eq_true rfl) w1250 g0 sh_42 (by decide) rfl (by decide) (s_170 w1250 g0 ⟨Int.le_trans (by decide) b1253.1, Int.le_trans b1253.2 (by decide)⟩) (fun R1304 T1305 H1306 p1307 => ?_))
        obtain ⟨e1308, w1310, f1311, z1312, e1309, b1313⟩ := p1307
        subst e1308
        subst e1309
        have f1314 := f1301.tr f1311 rfl
        show wp _ _ 258 31 [(1, vI z1252), (0, .ref r0)] [vI z1312] _ H1306 _
        refine wp_of e258 c258_31 (rw_i2l (pc' := 32) rfl ⟨b1313.1, b1313.2⟩ ?_)
        refine wp_of e258 c258_32 (rw_goto (p1 := 43) (by decide) ?_)
        have k1315 : wKI H1306 r0 = wKI H1246 r0 := (wKI_fr w1250 g0 f1311 rfl)
        have h1316 : KNN T H1306 r0 e d := (KNN_fr w1250 g0 f1311 rfl a1271)
        exact wp_lreturn e258 c258_43 rfl ⟨rfl, w1310, f1314, z1312, rfl, ⟨Int.le_trans (by decide) b1313.1, Int.le_trans b1313.2 (by decide)⟩, ⟨by omega, h1316⟩⟩
/-! StrikeAwakeModel.together(II)I  -/
abbrev uq_259 (r0 : Nat) (a1 : Int) (a2 : Int) (e : xD) (d : xD) (T : wq_T) (H : wq_H) : Option Value → wq_T → wq_H → Prop := fun r T' H' => T = T' ∧ WT T H' ∧ wfr [(42, 0), (42, 1), (42, 2), (42, 28), (42, 29), (51, 999), (52, 999)] T H H' ∧ ∃ z : Int, some (vI z) = r ∧ ((-2147483648) ≤ z ∧ z ≤ 2147483647) ∧ (((wKI H' r0 = 1) ∧ KNN T H' r0 e d))
set_option maxHeartbeats 4000000 in
theorem u_259 {kt : Nat → Option mc_E} {T : wq_T} {H : wq_H} {r0 : Nat} {a1 : Int} {a2 : Int} {e : xD} {d : xD} (hW : WT T H) (g0 : T.2.2.2 r0 = some 42) (i1 : (-2147483648) ≤ a1 ∧ a1 ≤ 2147483647) (i2 : (-2147483648) ≤ a2 ∧ a2 ≤ 2147483647) (p0 : wKI H r0 = 1) (p1 : XW d) (p2 : ∀ h : Nat, d 0 0 ≤ (h : Int) → h < 24 → e 13 h = 0) (p3 : XN d) (p4 : ∀ h : Nat, h < 24 → 0 ≤ e 13 h ∧ e 13 h ≤ 100) (hRB_r0 : RB T H r0 e d) (hKNN_r0 : KNN T H r0 e d) : wpc kt 8 259 [.ref r0, vI a1, vI a2] T H (uq_259 r0 a1 a2 e d T H) := by
  refine wp_enter e259 (Nat.le_of_ble_eq_true rfl) rfl ?_
  have f0 : wfr [(42, 0), (42, 1), (42, 2), (42, 28), (42, 29), (51, 999), (52, 999)] T H H := wfr.rf
  show wp _ _ 259 0 [(0, .ref r0), (1, vI a1), (2, vI a2)] [] _ H _
  have _b := RB_b hW hRB_r0
  have _nu := RB_n3 hRB_r0
  have _lm := RB_lm hRB_r0
  refine wp_of e259 c259_0 (rw_aload_n (pc' := 1) (v := .ref r0) rfl rfl rfl ?_)
  refine wp_of e259 c259_1 (rw_iconst (pc' := 2) rfl ?_)
  refine wp_of e259 c259_2 (xp_I (pc' := 5) lf_9_48 hW g0 sh_42 (by decide) (by decide) ty_42_0 rfl rfl (by decide) (by decide) ⟨by decide, by decide⟩ rfl (fun H2845 e2846 w2847 => ?_))
  have f2848 := f0.put' e2846 g0 rfl
  have k2849 : H2845 r0 0 = 0 := wq_u_s e2846
  refine wp_of e259 c259_5 (rw_aload_n (pc' := 6) (v := .ref r0) rfl rfl rfl ?_)
  refine wp_of e259 c259_6 (rw_aload_n (pc' := 7) (v := .ref r0) rfl rfl rfl ?_)
  refine wp_of e259 c259_7 (rw_iload_n (pc' := 8) (z := a1) rfl rfl ?_)
  refine wp_of e259 c259_8 (xc_V (pc' := 11) (r := r0) (as := [vI a1]) (st := [.ref r0]) (lm_9_364) rfl rfl (Nat.le_of_ble_eq_true rfl) w2847 g0 sh_42 (by decide) rfl (by decide) (s_213 w2847 g0 ⟨i1.1, i1.2⟩) (fun R2850 T2851 H2852 p2853 => ?_))
  obtain ⟨e2854, e2856, z2858, e2855, b2859, p2857⟩ := p2853
  subst e2854
  subst e2855
  subst e2856
  show wp _ _ 259 11 [(0, .ref r0), (1, vI a1), (2, vI a2)] [vI z2858, .ref r0] _ H2845 _
  refine wp_of e259 c259_11 (rw_if_eq (p1 := 31) (p2 := 14) (by decide) rfl ⟨Int.le_trans (by decide) b2859.1, Int.le_trans b2859.2 (by decide)⟩ (fun c2860 => ?_) (fun c2860 => ?_))
  · refine wp_of e259 c259_31 (rw_iconst (pc' := 32) rfl ?_)
    have k2861 : H2845 r0 3 = H r0 3 := (wq_u_j e2846 rfl)
    have k2862 : wKI H2845 r0 = wKI H r0 := (wKI_fr hW g0 ((wfr.rf (l := [(42, 0)])).put' e2846 g0 rfl) rfl)
    have h2863 : RB T H2845 r0 e d := (RB_fr hW g0 ((wfr.rf (l := [(42, 0)])).put' e2846 g0 rfl) rfl hRB_r0)
    have h2864 : KNN T H2845 r0 e d := (KNN_fr hW g0 ((wfr.rf (l := [(42, 0)])).put' e2846 g0 rfl) rfl hKNN_r0)
    refine wp_of e259 c259_32 (xc_V (pc' := 35) (r := r0) (as := [vI 0]) (st := []) (lm_9_433) rfl rfl (Nat.le_of_ble_eq_true rfl) w2847 g0 sh_42 (by decide) rfl (by decide) (u_241 (e := e) (d := d) w2847 g0 ⟨by decide, by decide⟩ (by omega) (by omega) (by assumption) (by assumption) (by assumption) (by assumption) h2863 h2864) (fun R2865 T2866 H2867 p2868 => ?_))
    obtain ⟨e2869, w2871, f2872, z2873, e2870, b2874, p2875⟩ := p2868
    subst e2869
    subst e2870
    rcases p2875 with ⟨a2876, a2877, a2878, a2879, a2880, a2881, a2882, a2883, a2884⟩ | ⟨a2885, a2886, a2887, a2888, a2889, a2890, a2891⟩
    · have f2892 := f2848.tr f2872 rfl
      show wp _ _ 259 35 [(0, .ref r0), (1, vI a1), (2, vI a2)] [vI z2873] _ H2867 _
      have k2893 : wLM H2867 r0 = wLM H r0 := ((wLM_fr w2847 g0 f2872 rfl).trans (wLM_fr hW g0 ((wfr.rf (l := [(42, 0)])).put' e2846 g0 rfl) rfl))
      refine wp_of e259 c259_35 (rw_istore_n (pc' := 36) (z := z2873) (L' := [(3, vI z2873), (0, .ref r0), (1, vI a1), (2, vI a2)]) rfl rfl rfl ?_)
      refine wp_of e259 c259_36 (rw_iload_n (pc' := 37) (z := z2873) rfl rfl ?_)
      refine wp_of e259 c259_37 (rw_if_le (p1 := 46) (p2 := 40) (by decide) rfl ⟨Int.le_trans (by decide) b2874.1, Int.le_trans b2874.2 (by decide)⟩ (fun c2894 => ?_) (fun c2894 => ?_))
      · refine wp_of e259 c259_46 (rw_iconst (pc' := 47) rfl ?_)
        refine wp_of e259 c259_47 (rw_istore (pc' := 49) (z := 0) (L' := [(4, vI 0), (3, vI z2873), (0, .ref r0), (1, vI a1), (2, vI a2)]) rfl rfl rfl ?_)
        refine wp_of e259 c259_49 (rw_iconst (pc' := 50) rfl ?_)
        refine wp_of e259 c259_50 (rw_istore (pc' := 52) (z := 0) (L' := [(5, vI 0), (4, vI 0), (3, vI z2873), (0, .ref r0), (1, vI a1), (2, vI a2)]) rfl rfl rfl ?_)
        have lp3287 : ∀ (n3288 : Nat) (v3290 : Int) (v3291 : Int) (H3292 : wq_H), WT T H3292 → wfr [(51, 999)] T H2867 H3292 → (0 ≤ v3290 ∧ v3290 ≤ 20000) → ((-2147483648) ≤ v3291 ∧ v3291 ≤ 2147483647) → (20000 - v3290).toNat = n3288 → wp kt 7 259 52 [(5, vI v3290), (4, vI v3291), (0, .ref r0), (1, vI a1), (2, vI a2)] [] T H3292 (uq_259 r0 a1 a2 e d T H) := by
          intro n3288
          induction n3288 using Nat.strongRecOn with
          | _ n3288 ih3289 =>
            intro v3290 v3291 H3292 w3293 f3294 b3295 b3296 m3297
            have f3298 := f2892.tr f3294 rfl
            refine wp_of e259 c259_52 (rw_iload (pc' := 54) (z := v3290) rfl rfl ?_)
            refine wp_of e259 c259_54 (rw_aload_n (pc' := 55) (v := .ref r0) rfl rfl rfl ?_)
            have k3299 : H3292 r0 29 = H2867 r0 29 := (f3294 r0 29 _ g0 rfl)
            refine wp_of e259 c259_55 (xg_I (pc' := 58) lf_9_422 w3293 g0 sh_42 (by decide) (by decide) ty_42_29 rfl rfl (fun b3300 b3301 => ?_))
            refine wp_of e259 c259_58 (rw_icmp_ge (p1 := 116) (p2 := 61) (by decide) rfl ⟨Int.le_trans (by decide) b3295.1, Int.le_trans b3295.2 (by decide)⟩ ⟨Int.le_trans (by decide) b3300, Int.le_trans b3301 (by decide)⟩ (fun c3302 => ?_) (fun c3302 => ?_))
            · refine wp_of e259 c259_116 (rw_aload_n (pc' := 117) (v := .ref r0) rfl rfl rfl ?_)
              refine wp_of e259 c259_117 (rw_iload (pc' := 119) (z := v3291) rfl rfl ?_)
              refine wp_of e259 c259_119 (xc_V (pc' := 122) (r := r0) (as := [vI v3291]) (st := []) (lm_9_58) rfl rfl (Nat.le_of_ble_eq_true rfl) w3293 g0 sh_42 (by decide) rfl (by decide) (s_209 w3293 g0 ⟨b3296.1, b3296.2⟩) (fun R3303 T3304 H3305 p3306 => ?_))
              obtain ⟨e3307, w3309, f3310, z3311, e3308, b3312⟩ := p3306
              subst e3307
              subst e3308
              have f3313 := f3298.tr f3310 rfl
              show wp _ _ 259 122 [(5, vI v3290), (4, vI v3291), (0, .ref r0), (1, vI a1), (2, vI a2)] [vI z3311] _ H3305 _
              have k3314 : wKI H3305 r0 = wKI H2867 r0 := ((wKI_fr w3293 g0 f3310 rfl).trans (wKI_fr w2871 g0 f3294 rfl))
              have h3315 : KNN T H3305 r0 e d := (KNN_fr w3293 g0 f3310 rfl (KNN_fr w2871 g0 f3294 rfl a2883))
              exact wp_ireturn e259 c259_122 rfl ⟨rfl, w3309, f3313, z3311, rfl, ⟨b3312.1, b3312.2⟩, ⟨by omega, h3315⟩⟩
            · refine wp_of e259 c259_61 (rw_aload_n (pc' := 62) (v := .ref r0) rfl rfl rfl ?_)
              refine wp_of e259 c259_62 (rw_aload_n (pc' := 63) (v := .ref r0) rfl rfl rfl ?_)
              refine wp_of e259 c259_63 (xg_R (pc' := 66) lf_9_42 w3293 g0 sh_42 (by decide) (by decide) ty_42_30 rfl rfl (fun r3316 q3317 g3318 => ?_))
              refine wp_of e259 c259_66 (rw_iload (pc' := 68) (z := v3290) rfl rfl ?_)
              refine wp_of e259 c259_68 (xa_I (so := 0) (pc' := 69) w3293 g3318 sh_52 (by decide) (ty_52 _) (b3295.1) (by omega) rfl (fun b3319 b3320 => ?_))
              have k3321 : wLM H3292 r0 = wLM H2867 r0 := (wLM_fr w2871 g0 f3294 rfl)
              have k3322 : H3292 r0 3 = H2845 r0 3 := ((f3294 r0 3 _ g0 rfl).trans (f2872 r0 3 _ g0 rfl))
              obtain ⟨r3323, q3324, g3325⟩ := (w3293.opt g0 (t' := 54) (n := 33) (j := 3) (p := 0) (q := 0) rfl (by decide) rfl).resolve_left (by omega)
              refine wp_of e259 c259_69 (xc_V (pc' := 72) (r := r0) (as := [vI (H3292 r3316 (v3290.toNat))]) (st := []) (lm_9_425) rfl rfl (Nat.le_of_ble_eq_true rfl) w3293 g0 sh_42 (by decide) rfl (by decide) (s_243 w3293 g0 ⟨b3319, Int.le_trans b3320 (by decide)⟩ q3324 g3325 (by omega)) (fun R3326 T3327 H3328 p3329 => ?_))
              obtain ⟨e3330, w3332, f3333, e3331⟩ := p3329
              subst e3330
              subst e3331
              have f3334 := f3298.tr f3333 rfl
              have f3335 := f3294.tr f3333 rfl
              show wp _ _ 259 72 [(5, vI v3290), (4, vI v3291), (0, .ref r0), (1, vI a1), (2, vI a2)] [] _ H3328 _
              refine wp_of e259 c259_72 (rw_iload (pc' := 74) (z := v3291) rfl rfl ?_)
              refine wp_of e259 c259_74 (rw_aload_n (pc' := 75) (v := .ref r0) rfl rfl rfl ?_)
              refine wp_of e259 c259_75 (xg_R (pc' := 78) lf_9_33 w3332 g0 sh_42 (by decide) (by decide) ty_42_25 rfl rfl (fun r3336 q3337 g3338 => ?_))
              refine wp_of e259 c259_78 (rw_bipush (pc' := 80) (z := 40) rfl (by decide) ?_)
              refine wp_of e259 c259_80 (rw_iload_n (pc' := 81) (z := a1) rfl rfl ?_)
              refine wp_of e259 c259_81 (rw_imulw (pc' := 82) rfl ?_)
              obtain ⟨v3339, e3340⟩ : ∃ x : Int, x = wq_w (40 * a1) := ⟨_, rfl⟩
              rw [← e3340]
              have b3341 : -2147483648 ≤ v3339 ∧ v3339 ≤ 2147483647 := by
                rw [e3340]
                exact wI_w _
              have b3342 : (-2147483648 ≤ 40 * a1 ∧ 40 * a1 ≤ 2147483647) → v3339 = 40 * a1 := fun h => by rw [e3340]; exact wq_w_id h
              refine wp_of e259 c259_82 (rw_aload_n (pc' := 83) (v := .ref r0) rfl rfl rfl ?_)
              refine wp_of e259 c259_83 (xg_R (pc' := 86) lf_9_39 w3332 g0 sh_42 (by decide) (by decide) ty_42_27 rfl rfl (fun r3343 q3344 g3345 => ?_))
              refine wp_of e259 c259_86 (rw_iload_n (pc' := 87) (z := a1) rfl rfl ?_)
              refine wp_of e259 c259_87 (xa_I (so := 0) (pc' := 88) w3332 g3345 sh_51 (by decide) (ty_51 _) (by omega) (by omega) rfl (fun b3346 b3347 => ?_))
              refine wp_of e259 c259_88 (rw_iaddw (pc' := 89) rfl ?_)
              obtain ⟨v3348, e3349⟩ : ∃ x : Int, x = wq_w (v3339 + (H3328 r3343 (a1.toNat))) := ⟨_, rfl⟩
              rw [← e3349]
              have b3350 : -2147483648 ≤ v3348 ∧ v3348 ≤ 2147483647 := by
                rw [e3349]
                exact wI_w _
              have b3351 : (-2147483648 ≤ v3339 + (H3328 r3343 (a1.toNat)) ∧ v3339 + (H3328 r3343 (a1.toNat)) ≤ 2147483647) → v3348 = v3339 + (H3328 r3343 (a1.toNat)) := fun h => by rw [e3349]; exact wq_w_id h
              refine wp_of e259 c259_89 (xa_I (so := 0) (pc' := 90) w3332 g3338 sh_49 (by decide) (ty_49 _) (by omega) (by omega) rfl (fun b3352 b3353 => ?_))
              refine wp_of e259 c259_90 (rw_aload_n (pc' := 91) (v := .ref r0) rfl rfl rfl ?_)
              refine wp_of e259 c259_91 (xg_K (pc' := 94) lf_9_33 w3332 g0 sh_42 (by decide) (by decide) rfl q3337 rfl ?_)
              refine wp_of e259 c259_94 (rw_bipush (pc' := 96) (z := 40) rfl (by decide) ?_)
              refine wp_of e259 c259_96 (rw_iload_n (pc' := 97) (z := a2) rfl rfl ?_)
              refine wp_of e259 c259_97 (rw_imulw (pc' := 98) rfl ?_)
              obtain ⟨v3354, e3355⟩ : ∃ x : Int, x = wq_w (40 * a2) := ⟨_, rfl⟩
              rw [← e3355]
              have b3356 : -2147483648 ≤ v3354 ∧ v3354 ≤ 2147483647 := by
                rw [e3355]
                exact wI_w _
              have b3357 : (-2147483648 ≤ 40 * a2 ∧ 40 * a2 ≤ 2147483647) → v3354 = 40 * a2 := fun h => by rw [e3355]; exact wq_w_id h
              refine wp_of e259 c259_98 (rw_aload_n (pc' := 99) (v := .ref r0) rfl rfl rfl ?_)
              refine wp_of e259 c259_99 (xg_K (pc' := 102) lf_9_39 w3332 g0 sh_42 (by decide) (by decide) rfl q3344 rfl ?_)
              refine wp_of e259 c259_102 (rw_iload_n (pc' := 103) (z := a2) rfl rfl ?_)
              refine wp_of e259 c259_103 (xa_I (so := 0) (pc' := 104) w3332 g3345 sh_51 (by decide) (ty_51 _) (by omega) (by omega) rfl (fun b3358 b3359 => ?_))
              refine wp_of e259 c259_104 (rw_iaddw (pc' := 105) rfl ?_)
              obtain ⟨v3360, e3361⟩ : ∃ x : Int, x = wq_w (v3354 + (H3328 r3343 (a2.toNat))) := ⟨_, rfl⟩
              rw [← e3361]
              have b3362 : -2147483648 ≤ v3360 ∧ v3360 ≤ 2147483647 := by
                rw [e3361]
                exact wI_w _
              have b3363 : (-2147483648 ≤ v3354 + (H3328 r3343 (a2.toNat)) ∧ v3354 + (H3328 r3343 (a2.toNat)) ≤ 2147483647) → v3360 = v3354 + (H3328 r3343 (a2.toNat)) := fun h => by rw [e3361]; exact wq_w_id h
              refine wp_of e259 c259_105 (xa_I (so := 0) (pc' := 106) w3332 g3338 sh_49 (by decide) (ty_49 _) (by omega) (by omega) rfl (fun b3364 b3365 => ?_))
              refine wp_of e259 c259_106 (rw_iand (pc' := 107) rfl ?_)
              obtain ⟨v3366, e3367⟩ : ∃ x : Int, x = wq_and (H3328 r3336 (v3348.toNat)) (H3328 r3336 (v3360.toNat)) := ⟨_, rfl⟩
              rw [← e3367]
              have b3368 : -2147483648 ≤ v3366 ∧ v3366 ≤ 2147483647 := by
                rw [e3367]
                exact wI_and _ _
              refine wp_of e259 c259_107 (rw_ior (pc' := 108) rfl ?_)
              obtain ⟨v3369, e3370⟩ : ∃ x : Int, x = wq_or v3291 v3366 := ⟨_, rfl⟩
              rw [← e3370]
              have b3371 : -2147483648 ≤ v3369 ∧ v3369 ≤ 2147483647 := by
                rw [e3370]
                exact wI_or _ _
              refine wp_of e259 c259_108 (rw_istore (pc' := 110) (z := v3369) (L' := [(4, vI v3369), (5, vI v3290), (0, .ref r0), (1, vI a1), (2, vI a2)]) rfl rfl rfl ?_)
              refine wp_of e259 c259_110 (rw_iinc (pc' := 113) (z := v3290) (L' := [(5, vI (v3290 + 1)), (4, vI v3369), (0, .ref r0), (1, vI a1), (2, vI a2)]) rfl rfl rfl rfl ?_)
              refine wp_of e259 c259_113 (rw_goto (p1 := 52) (by decide) ?_)
              exact wp_lc (ks := [5, 4, 0, 1, 2]) (wl_c rfl (wl_c rfl (wl_c rfl (wl_c rfl (wl_c rfl wl_n))))) rfl (by decide) (ih3289 _ (by omega) (v3290 + 1) v3369 H3328 w3332 f3335 ⟨by omega, by omega⟩ ⟨b3371.1, b3371.2⟩ rfl)
        exact wp_lc (ks := [5, 4, 3, 0, 1, 2]) (wl_c rfl (wl_c rfl (wl_c rfl (wl_c rfl (wl_c rfl wl_n))))) rfl (by decide) (lp3287 _ 0 0 H2867 w2871 wfr.rf ⟨by decide, by decide⟩ ⟨by decide, by decide⟩ rfl)
      · exfalso
        omega
    · have f3372 := f2848.tr f2872 rfl
      show wp _ _ 259 35 [(0, .ref r0), (1, vI a1), (2, vI a2)] [vI z2873] _ H2867 _
      have k3373 : wLM H2867 r0 = wLM H r0 := ((wLM_fr w2847 g0 f2872 rfl).trans (wLM_fr hW g0 ((wfr.rf (l := [(42, 0)])).put' e2846 g0 rfl) rfl))
      refine wp_of e259 c259_35 (rw_istore_n (pc' := 36) (z := z2873) (L' := [(3, vI z2873), (0, .ref r0), (1, vI a1), (2, vI a2)]) rfl rfl rfl ?_)
      refine wp_of e259 c259_36 (rw_iload_n (pc' := 37) (z := z2873) rfl rfl ?_)
      refine wp_of e259 c259_37 (rw_if_le (p1 := 46) (p2 := 40) (by decide) rfl ⟨Int.le_trans (by decide) b2874.1, Int.le_trans b2874.2 (by decide)⟩ (fun c3374 => ?_) (fun c3374 => ?_))
      · exfalso
        omega
      · refine wp_of e259 c259_40 (rw_aload_n (pc' := 41) (v := .ref r0) rfl rfl rfl ?_)
        refine wp_of e259 c259_41 (rw_iload_n (pc' := 42) (z := z2873) rfl rfl ?_)
        refine wp_of e259 c259_42 (xc_V (pc' := 45) (r := r0) (as := [vI z2873]) (st := []) (lm_9_54) rfl rfl (Nat.le_of_ble_eq_true rfl) w2871 g0 sh_42 (by decide) rfl (by decide) (s_170 w2871 g0 ⟨Int.le_trans (by decide) b2874.1, Int.le_trans b2874.2 (by decide)⟩) (fun R3375 T3376 H3377 p3378 => ?_))
        obtain ⟨e3379, w3381, f3382, z3383, e3380, b3384⟩ := p3378
        subst e3379
        subst e3380
        have f3385 := f3372.tr f3382 rfl
        show wp _ _ 259 45 [(3, vI z2873), (0, .ref r0), (1, vI a1), (2, vI a2)] [vI z3383] _ H3377 _
        have k3386 : wKI H3377 r0 = wKI H2867 r0 := (wKI_fr w2871 g0 f3382 rfl)
        have h3387 : KNN T H3377 r0 e d := (KNN_fr w2871 g0 f3382 rfl a2891)
        exact wp_ireturn e259 c259_45 rfl ⟨rfl, w3381, f3385, z3383, rfl, ⟨b3384.1, b3384.2⟩, ⟨by omega, h3387⟩⟩
  · refine wp_of e259 c259_14 (rw_aload_n (pc' := 15) (v := .ref r0) rfl rfl rfl ?_)
    refine wp_of e259 c259_15 (rw_iload_n (pc' := 16) (z := a2) rfl rfl ?_)
    refine wp_of e259 c259_16 (xc_V (pc' := 19) (r := r0) (as := [vI a2]) (st := [.ref r0]) (lm_9_364) rfl rfl (Nat.le_of_ble_eq_true rfl) w2847 g0 sh_42 (by decide) rfl (by decide) (s_213 w2847 g0 ⟨i2.1, i2.2⟩) (fun R3388 T3389 H3390 p3391 => ?_))
    obtain ⟨e3392, e3394, z3396, e3393, b3397, p3395⟩ := p3391
    subst e3392
    subst e3393
    subst e3394
    show wp _ _ 259 19 [(0, .ref r0), (1, vI a1), (2, vI a2)] [vI z3396, .ref r0] _ H2845 _
    refine wp_of e259 c259_19 (rw_if_eq (p1 := 31) (p2 := 22) (by decide) rfl ⟨Int.le_trans (by decide) b3397.1, Int.le_trans b3397.2 (by decide)⟩ (fun c3398 => ?_) (fun c3398 => ?_))
    · refine wp_of e259 c259_31 (rw_iconst (pc' := 32) rfl ?_)
      have k3399 : H2845 r0 3 = H r0 3 := (wq_u_j e2846 rfl)
      have k3400 : wKI H2845 r0 = wKI H r0 := (wKI_fr hW g0 ((wfr.rf (l := [(42, 0)])).put' e2846 g0 rfl) rfl)
      have h3401 : RB T H2845 r0 e d := (RB_fr hW g0 ((wfr.rf (l := [(42, 0)])).put' e2846 g0 rfl) rfl hRB_r0)
      have h3402 : KNN T H2845 r0 e d := (KNN_fr hW g0 ((wfr.rf (l := [(42, 0)])).put' e2846 g0 rfl) rfl hKNN_r0)
      refine wp_of e259 c259_32 (xc_V (pc' := 35) (r := r0) (as := [vI 0]) (st := []) (lm_9_433) rfl rfl (Nat.le_of_ble_eq_true rfl) w2847 g0 sh_42 (by decide) rfl (by decide) (u_241 (e := e) (d := d) w2847 g0 ⟨by decide, by decide⟩ (by omega) (by omega) (by assumption) (by assumption) (by assumption) (by assumption) h3401 h3402) (fun R3403 T3404 H3405 p3406 => ?_))
      obtain ⟨e3407, w3409, f3410, z3411, e3408, b3412, p3413⟩ := p3406
      subst e3407
      subst e3408
      rcases p3413 with ⟨a3414, a3415, a3416, a3417, a3418, a3419, a3420, a3421, a3422⟩ | ⟨a3423, a3424, a3425, a3426, a3427, a3428, a3429⟩
      · have f3430 := f2848.tr f3410 rfl
        show wp _ _ 259 35 [(0, .ref r0), (1, vI a1), (2, vI a2)] [vI z3411] _ H3405 _
        have k3431 : wLM H3405 r0 = wLM H r0 := ((wLM_fr w2847 g0 f3410 rfl).trans (wLM_fr hW g0 ((wfr.rf (l := [(42, 0)])).put' e2846 g0 rfl) rfl))
        refine wp_of e259 c259_35 (rw_istore_n (pc' := 36) (z := z3411) (L' := [(3, vI z3411), (0, .ref r0), (1, vI a1), (2, vI a2)]) rfl rfl rfl ?_)
        refine wp_of e259 c259_36 (rw_iload_n (pc' := 37) (z := z3411) rfl rfl ?_)
        refine wp_of e259 c259_37 (rw_if_le (p1 := 46) (p2 := 40) (by decide) rfl ⟨Int.le_trans (by decide) b3412.1, Int.le_trans b3412.2 (by decide)⟩ (fun c3432 => ?_) (fun c3432 => ?_))
        · refine wp_of e259 c259_46 (rw_iconst (pc' := 47) rfl ?_)
          refine wp_of e259 c259_47 (rw_istore (pc' := 49) (z := 0) (L' := [(4, vI 0), (3, vI z3411), (0, .ref r0), (1, vI a1), (2, vI a2)]) rfl rfl rfl ?_)
          refine wp_of e259 c259_49 (rw_iconst (pc' := 50) rfl ?_)
          refine wp_of e259 c259_50 (rw_istore (pc' := 52) (z := 0) (L' := [(5, vI 0), (4, vI 0), (3, vI z3411), (0, .ref r0), (1, vI a1), (2, vI a2)]) rfl rfl rfl ?_)
          have lp3793 : ∀ (n3794 : Nat) (v3796 : Int) (v3797 : Int) (H3798 : wq_H), WT T H3798 → wfr [(51, 999)] T H3405 H3798 → (0 ≤ v3796 ∧ v3796 ≤ 20000) → ((-2147483648) ≤ v3797 ∧ v3797 ≤ 2147483647) → (20000 - v3796).toNat = n3794 → wp kt 7 259 52 [(5, vI v3796), (4, vI v3797), (0, .ref r0), (1, vI a1), (2, vI a2)] [] T H3798 (uq_259 r0 a1 a2 e d T H) := by
            intro n3794
            induction n3794 using Nat.strongRecOn with
            | _ n3794 ih3795 =>
              intro v3796 v3797 H3798 w3799 f3800 b3801 b3802 m3803
              have f3804 := f3430.tr f3800 rfl
              refine wp_of e259 c259_52 (rw_iload (pc' := 54) (z := v3796) rfl rfl ?_)
              refine wp_of e259 c259_54 (rw_aload_n (pc' := 55) (v := .ref r0) rfl rfl rfl ?_)
              have k3805 : H3798 r0 29 = H3405 r0 29 := (f3800 r0 29 _ g0 rfl)
              refine wp_of e259 c259_55 (xg_I (pc' := 58) lf_9_422 w3799 g0 sh_42 (by decide) (by decide) ty_42_29 rfl rfl (fun b3806 b3807 => ?_))
              refine wp_of e259 c259_58 (rw_icmp_ge (p1 := 116) (p2 := 61) (by decide) rfl ⟨Int.le_trans (by decide) b3801.1, Int.le_trans b3801.2 (by decide)⟩ ⟨Int.le_trans (by decide) b3806, Int.le_trans b3807 (by decide)⟩ (fun c3808 => ?_) (fun c3808 => ?_))
              · refine wp_of e259 c259_116 (rw_aload_n (pc' := 117) (v := .ref r0) rfl rfl rfl ?_)
                refine wp_of e259 c259_117 (rw_iload (pc' := 119) (z := v3797) rfl rfl ?_)
                refine wp_of e259 c259_119 (xc_V (pc' := 122) (r := r0) (as := [vI v3797]) (st := []) (lm_9_58) rfl rfl (Nat.le_of_ble_eq_true rfl) w3799 g0 sh_42 (by decide) rfl (by decide) (s_209 w3799 g0 ⟨b3802.1, b3802.2⟩) (fun R3809 T3810 H3811 p3812 => ?_))
                obtain ⟨e3813, w3815, f3816, z3817, e3814, b3818⟩ := p3812
                subst e3813
                subst e3814
                have f3819 := f3804.tr f3816 rfl
                show wp _ _ 259 122 [(5, vI v3796), (4, vI v3797), (0, .ref r0), (1, vI a1), (2, vI a2)] [vI z3817] _ H3811 _
                have k3820 : wKI H3811 r0 = wKI H3405 r0 := ((wKI_fr w3799 g0 f3816 rfl).trans (wKI_fr w3409 g0 f3800 rfl))
                have h3821 : KNN T H3811 r0 e d := (KNN_fr w3799 g0 f3816 rfl (KNN_fr w3409 g0 f3800 rfl a3421))
                exact wp_ireturn e259 c259_122 rfl ⟨rfl, w3815, f3819, z3817, rfl, ⟨b3818.1, b3818.2⟩, ⟨by omega, h3821⟩⟩
              · refine wp_of e259 c259_61 (rw_aload_n (pc' := 62) (v := .ref r0) rfl rfl rfl ?_)
                refine wp_of e259 c259_62 (rw_aload_n (pc' := 63) (v := .ref r0) rfl rfl rfl ?_)
                refine wp_of e259 c259_63 (xg_R (pc' := 66) lf_9_42 w3799 g0 sh_42 (by decide) (by decide) ty_42_30 rfl rfl (fun r3822 q3823 g3824 => ?_))
                refine wp_of e259 c259_66 (rw_iload (pc' := 68) (z := v3796) rfl rfl ?_)
                refine wp_of e259 c259_68 (xa_I (so := 0) (pc' := 69) w3799 g3824 sh_52 (by decide) (ty_52 _) (b3801.1) (by omega) rfl (fun b3825 b3826 => ?_))
                have k3827 : wLM H3798 r0 = wLM H3405 r0 := (wLM_fr w3409 g0 f3800 rfl)
                have k3828 : H3798 r0 3 = H2845 r0 3 := ((f3800 r0 3 _ g0 rfl).trans (f3410 r0 3 _ g0 rfl))
                obtain ⟨r3829, q3830, g3831⟩ := (w3799.opt g0 (t' := 54) (n := 33) (j := 3) (p := 0) (q := 0) rfl (by decide) rfl).resolve_left (by omega)
                refine wp_of e259 c259_69 (xc_V (pc' := 72) (r := r0) (as := [vI (H3798 r3822 (v3796.toNat))]) (st := []) (lm_9_425) rfl rfl (Nat.le_of_ble_eq_true rfl) w3799 g0 sh_42 (by decide) rfl (by decide) (s_243 w3799 g0 ⟨b3825, Int.le_trans b3826 (by decide)⟩ q3830 g3831 (by omega)) (fun R3832 T3833 H3834 p3835 => ?_))
                obtain ⟨e3836, w3838, f3839, e3837⟩ := p3835
                subst e3836
                subst e3837
                have f3840 := f3804.tr f3839 rfl
                have f3841 := f3800.tr f3839 rfl
                show wp _ _ 259 72 [(5, vI v3796), (4, vI v3797), (0, .ref r0), (1, vI a1), (2, vI a2)] [] _ H3834 _
                refine wp_of e259 c259_72 (rw_iload (pc' := 74) (z := v3797) rfl rfl ?_)
                refine wp_of e259 c259_74 (rw_aload_n (pc' := 75) (v := .ref r0) rfl rfl rfl ?_)
                refine wp_of e259 c259_75 (xg_R (pc' := 78) lf_9_33 w3838 g0 sh_42 (by decide) (by decide) ty_42_25 rfl rfl (fun r3842 q3843 g3844 => ?_))
                refine wp_of e259 c259_78 (rw_bipush (pc' := 80) (z := 40) rfl (by decide) ?_)
                refine wp_of e259 c259_80 (rw_iload_n (pc' := 81) (z := a1) rfl rfl ?_)
                refine wp_of e259 c259_81 (rw_imul (pc' := 82) rfl ?_)
                refine wp_of e259 c259_82 (rw_aload_n (pc' := 83) (v := .ref r0) rfl rfl rfl ?_)
                refine wp_of e259 c259_83 (xg_R (pc' := 86) lf_9_39 w3838 g0 sh_42 (by decide) (by decide) ty_42_27 rfl rfl (fun r3845 q3846 g3847 => ?_))
                refine wp_of e259 c259_86 (rw_iload_n (pc' := 87) (z := a1) rfl rfl ?_)
                refine wp_of e259 c259_87 (xa_I (so := 0) (pc' := 88) w3838 g3847 sh_51 (by decide) (ty_51 _) (by omega) (by omega) rfl (fun b3848 b3849 => ?_))
                refine wp_of e259 c259_88 (rw_iadd (pc' := 89) rfl ?_)
                refine wp_of e259 c259_89 (xa_I (so := 0) (pc' := 90) w3838 g3844 sh_49 (by decide) (ty_49 _) (by omega) (by omega) rfl (fun b3850 b3851 => ?_))
                refine wp_of e259 c259_90 (rw_aload_n (pc' := 91) (v := .ref r0) rfl rfl rfl ?_)
                refine wp_of e259 c259_91 (xg_K (pc' := 94) lf_9_33 w3838 g0 sh_42 (by decide) (by decide) rfl q3843 rfl ?_)
                refine wp_of e259 c259_94 (rw_bipush (pc' := 96) (z := 40) rfl (by decide) ?_)
                refine wp_of e259 c259_96 (rw_iload_n (pc' := 97) (z := a2) rfl rfl ?_)
                refine wp_of e259 c259_97 (rw_imulw (pc' := 98) rfl ?_)
                obtain ⟨v3852, e3853⟩ : ∃ x : Int, x = wq_w (40 * a2) := ⟨_, rfl⟩
                rw [← e3853]
                have b3854 : -2147483648 ≤ v3852 ∧ v3852 ≤ 2147483647 := by
                  rw [e3853]
                  exact wI_w _
                have b3855 : (-2147483648 ≤ 40 * a2 ∧ 40 * a2 ≤ 2147483647) → v3852 = 40 * a2 := fun h => by rw [e3853]; exact wq_w_id h
                refine wp_of e259 c259_98 (rw_aload_n (pc' := 99) (v := .ref r0) rfl rfl rfl ?_)
                refine wp_of e259 c259_99 (xg_K (pc' := 102) lf_9_39 w3838 g0 sh_42 (by decide) (by decide) rfl q3846 rfl ?_)
                refine wp_of e259 c259_102 (rw_iload_n (pc' := 103) (z := a2) rfl rfl ?_)
                refine wp_of e259 c259_103 (xa_I (so := 0) (pc' := 104) w3838 g3847 sh_51 (by decide) (ty_51 _) (by omega) (by omega) rfl (fun b3856 b3857 => ?_))
                refine wp_of e259 c259_104 (rw_iaddw (pc' := 105) rfl ?_)
                obtain ⟨v3858, e3859⟩ : ∃ x : Int, x = wq_w (v3852 + (H3834 r3845 (a2.toNat))) := ⟨_, rfl⟩
                rw [← e3859]
                have b3860 : -2147483648 ≤ v3858 ∧ v3858 ≤ 2147483647 := by
                  rw [e3859]
                  exact wI_w _
                have b3861 : (-2147483648 ≤ v3852 + (H3834 r3845 (a2.toNat)) ∧ v3852 + (H3834 r3845 (a2.toNat)) ≤ 2147483647) → v3858 = v3852 + (H3834 r3845 (a2.toNat)) := fun h => by rw [e3859]; exact wq_w_id h
                refine wp_of e259 c259_105 (xa_I (so := 0) (pc' := 106) w3838 g3844 sh_49 (by decide) (ty_49 _) (by omega) (by omega) rfl (fun b3862 b3863 => ?_))
                refine wp_of e259 c259_106 (rw_iand (pc' := 107) rfl ?_)
                obtain ⟨v3864, e3865⟩ : ∃ x : Int, x = wq_and (H3834 r3842 (((40 * a1) + (H3834 r3845 (a1.toNat))).toNat)) (H3834 r3842 (v3858.toNat)) := ⟨_, rfl⟩
                rw [← e3865]
                have b3866 : -2147483648 ≤ v3864 ∧ v3864 ≤ 2147483647 := by
                  rw [e3865]
                  exact wI_and _ _
                refine wp_of e259 c259_107 (rw_ior (pc' := 108) rfl ?_)
                obtain ⟨v3867, e3868⟩ : ∃ x : Int, x = wq_or v3797 v3864 := ⟨_, rfl⟩
                rw [← e3868]
                have b3869 : -2147483648 ≤ v3867 ∧ v3867 ≤ 2147483647 := by
                  rw [e3868]
                  exact wI_or _ _
                refine wp_of e259 c259_108 (rw_istore (pc' := 110) (z := v3867) (L' := [(4, vI v3867), (5, vI v3796), (0, .ref r0), (1, vI a1), (2, vI a2)]) rfl rfl rfl ?_)
                refine wp_of e259 c259_110 (rw_iinc (pc' := 113) (z := v3796) (L' := [(5, vI (v3796 + 1)), (4, vI v3867), (0, .ref r0), (1, vI a1), (2, vI a2)]) rfl rfl rfl rfl ?_)
                refine wp_of e259 c259_113 (rw_goto (p1 := 52) (by decide) ?_)
                exact wp_lc (ks := [5, 4, 0, 1, 2]) (wl_c rfl (wl_c rfl (wl_c rfl (wl_c rfl (wl_c rfl wl_n))))) rfl (by decide) (ih3795 _ (by omega) (v3796 + 1) v3867 H3834 w3838 f3841 ⟨by omega, by omega⟩ ⟨b3869.1, b3869.2⟩ rfl)
          exact wp_lc (ks := [5, 4, 3, 0, 1, 2]) (wl_c rfl (wl_c rfl (wl_c rfl (wl_c rfl (wl_c rfl wl_n))))) rfl (by decide) (lp3793 _ 0 0 H3405 w3409 wfr.rf ⟨by decide, by decide⟩ ⟨by decide, by decide⟩ rfl)
        · exfalso
          omega
      · have f3870 := f2848.tr f3410 rfl
        show wp _ _ 259 35 [(0, .ref r0), (1, vI a1), (2, vI a2)] [vI z3411] _ H3405 _
        have k3871 : wLM H3405 r0 = wLM H r0 := ((wLM_fr w2847 g0 f3410 rfl).trans (wLM_fr hW g0 ((wfr.rf (l := [(42, 0)])).put' e2846 g0 rfl) rfl))
        refine wp_of e259 c259_35 (rw_istore_n (pc' := 36) (z := z3411) (L' := [(3, vI z3411), (0, .ref r0), (1, vI a1), (2, vI a2)]) rfl rfl rfl ?_)
        refine wp_of e259 c259_36 (rw_iload_n (pc' := 37) (z := z3411) rfl rfl ?_)
        refine wp_of e259 c259_37 (rw_if_le (p1 := 46) (p2 := 40) (by decide) rfl ⟨Int.le_trans (by decide) b3412.1, Int.le_trans b3412.2 (by decide)⟩ (fun c3872 => ?_) (fun c3872 => ?_))
        · exfalso
          omega
        · refine wp_of e259 c259_40 (rw_aload_n (pc' := 41) (v := .ref r0) rfl rfl rfl ?_)
          refine wp_of e259 c259_41 (rw_iload_n (pc' := 42) (z := z3411) rfl rfl ?_)
          refine wp_of e259 c259_42 (xc_V (pc' := 45) (r := r0) (as := [vI z3411]) (st := []) (lm_9_54) rfl rfl (Nat.le_of_ble_eq_true rfl) w3409 g0 sh_42 (by decide) rfl (by decide) (s_170 w3409 g0 ⟨Int.le_trans (by decide) b3412.1, Int.le_trans b3412.2 (by decide)⟩) (fun R3873 T3874 H3875 p3876 => ?_))
          obtain ⟨e3877, w3879, f3880, z3881, e3878, b3882⟩ := p3876
          subst e3877
          subst e3878
          have f3883 := f3870.tr f3880 rfl
          show wp _ _ 259 45 [(3, vI z3411), (0, .ref r0), (1, vI a1), (2, vI a2)] [vI z3881] _ H3875 _
          have k3884 : wKI H3875 r0 = wKI H3405 r0 := (wKI_fr w3409 g0 f3880 rfl)
          have h3885 : KNN T H3875 r0 e d := (KNN_fr w3409 g0 f3880 rfl a3429)
          exact wp_ireturn e259 c259_45 rfl ⟨rfl, w3879, f3883, z3881, rfl, ⟨b3882.1, b3882.2⟩, ⟨by omega, h3885⟩⟩
    · refine wp_of e259 c259_22 (rw_iload_n (pc' := 23) (z := a1) rfl rfl ?_)
      refine wp_of e259 c259_23 (rw_iload_n (pc' := 24) (z := a2) rfl rfl ?_)
      refine wp_of e259 c259_24 (rw_icmp_eq (p1 := 31) (p2 := 27) (by decide) rfl ⟨i1.1, i1.2⟩ ⟨i2.1, i2.2⟩ (fun c3886 => ?_) (fun c3886 => ?_))
      · refine wp_of e259 c259_31 (rw_iconst (pc' := 32) rfl ?_)
        have k3887 : H2845 r0 3 = H r0 3 := (wq_u_j e2846 rfl)
        have k3888 : wKI H2845 r0 = wKI H r0 := (wKI_fr hW g0 ((wfr.rf (l := [(42, 0)])).put' e2846 g0 rfl) rfl)
        have h3889 : RB T H2845 r0 e d := (RB_fr hW g0 ((wfr.rf (l := [(42, 0)])).put' e2846 g0 rfl) rfl hRB_r0)
        have h3890 : KNN T H2845 r0 e d := (KNN_fr hW g0 ((wfr.rf (l := [(42, 0)])).put' e2846 g0 rfl) rfl hKNN_r0)
        refine wp_of e259 c259_32 (xc_V (pc' := 35) (r := r0) (as := [vI 0]) (st := []) (lm_9_433) rfl rfl (Nat.le_of_ble_eq_true rfl) w2847 g0 sh_42 (by decide) rfl (by decide) (u_241 (e := e) (d := d) w2847 g0 ⟨by decide, by decide⟩ (by omega) (by omega) (by assumption) (by assumption) (by assumption) (by assumption) h3889 h3890) (fun R3891 T3892 H3893 p3894 => ?_))
        obtain ⟨e3895, w3897, f3898, z3899, e3896, b3900, p3901⟩ := p3894
        subst e3895
        subst e3896
        rcases p3901 with ⟨a3902, a3903, a3904, a3905, a3906, a3907, a3908, a3909, a3910⟩ | ⟨a3911, a3912, a3913, a3914, a3915, a3916, a3917⟩
        · have f3918 := f2848.tr f3898 rfl
          show wp _ _ 259 35 [(0, .ref r0), (1, vI a1), (2, vI a2)] [vI z3899] _ H3893 _
          have k3919 : wLM H3893 r0 = wLM H r0 := ((wLM_fr w2847 g0 f3898 rfl).trans (wLM_fr hW g0 ((wfr.rf (l := [(42, 0)])).put' e2846 g0 rfl) rfl))
          refine wp_of e259 c259_35 (rw_istore_n (pc' := 36) (z := z3899) (L' := [(3, vI z3899), (0, .ref r0), (1, vI a1), (2, vI a2)]) rfl rfl rfl ?_)
          refine wp_of e259 c259_36 (rw_iload_n (pc' := 37) (z := z3899) rfl rfl ?_)
          refine wp_of e259 c259_37 (rw_if_le (p1 := 46) (p2 := 40) (by decide) rfl ⟨Int.le_trans (by decide) b3900.1, Int.le_trans b3900.2 (by decide)⟩ (fun c3920 => ?_) (fun c3920 => ?_))
          · refine wp_of e259 c259_46 (rw_iconst (pc' := 47) rfl ?_)
            refine wp_of e259 c259_47 (rw_istore (pc' := 49) (z := 0) (L' := [(4, vI 0), (3, vI z3899), (0, .ref r0), (1, vI a1), (2, vI a2)]) rfl rfl rfl ?_)
            refine wp_of e259 c259_49 (rw_iconst (pc' := 50) rfl ?_)
            refine wp_of e259 c259_50 (rw_istore (pc' := 52) (z := 0) (L' := [(5, vI 0), (4, vI 0), (3, vI z3899), (0, .ref r0), (1, vI a1), (2, vI a2)]) rfl rfl rfl ?_)
            have lp4249 : ∀ (n4250 : Nat) (v4252 : Int) (v4253 : Int) (H4254 : wq_H), WT T H4254 → wfr [(51, 999)] T H3893 H4254 → (0 ≤ v4252 ∧ v4252 ≤ 20000) → ((-2147483648) ≤ v4253 ∧ v4253 ≤ 2147483647) → (20000 - v4252).toNat = n4250 → wp kt 7 259 52 [(5, vI v4252), (4, vI v4253), (0, .ref r0), (1, vI a1), (2, vI a2)] [] T H4254 (uq_259 r0 a1 a2 e d T H) := by
              intro n4250
              induction n4250 using Nat.strongRecOn with
              | _ n4250 ih4251 =>
                intro v4252 v4253 H4254 w4255 f4256 b4257 b4258 m4259
                have f4260 := f3918.tr f4256 rfl
                refine wp_of e259 c259_52 (rw_iload (pc' := 54) (z := v4252) rfl rfl ?_)
                refine wp_of e259 c259_54 (rw_aload_n (pc' := 55) (v := .ref r0) rfl rfl rfl ?_)
                have k4261 : H4254 r0 29 = H3893 r0 29 := (f4256 r0 29 _ g0 rfl)
                refine wp_of e259 c259_55 (xg_I (pc' := 58) lf_9_422 w4255 g0 sh_42 (by decide) (by decide) ty_42_29 rfl rfl (fun b4262 b4263 => ?_))
                refine wp_of e259 c259_58 (rw_icmp_ge (p1 := 116) (p2 := 61) (by decide) rfl ⟨Int.le_trans (by decide) b4257.1, Int.le_trans b4257.2 (by decide)⟩ ⟨Int.le_trans (by decide) b4262, Int.le_trans b4263 (by decide)⟩ (fun c4264 => ?_) (fun c4264 => ?_))
                · refine wp_of e259 c259_116 (rw_aload_n (pc' := 117) (v := .ref r0) rfl rfl rfl ?_)
                  refine wp_of e259 c259_117 (rw_iload (pc' := 119) (z := v4253) rfl rfl ?_)
                  refine wp_of e259 c259_119 (xc_V (pc' := 122) (r := r0) (as := [vI v4253]) (st := []) (lm_9_58) rfl rfl (Nat.le_of_ble_eq_true rfl) w4255 g0 sh_42 (by decide) rfl (by decide) (s_209 w4255 g0 ⟨b4258.1, b4258.2⟩) (fun R4265 T4266 H4267 p4268 => ?_))
                  obtain ⟨e4269, w4271, f4272, z4273, e4270, b4274⟩ := p4268
                  subst e4269
                  subst e4270
                  have f4275 := f4260.tr f4272 rfl
                  show wp _ _ 259 122 [(5, vI v4252), (4, vI v4253), (0, .ref r0), (1, vI a1), (2, vI a2)] [vI z4273] _ H4267 _
                  have k4276 : wKI H4267 r0 = wKI H3893 r0 := ((wKI_fr w4255 g0 f4272 rfl).trans (wKI_fr w3897 g0 f4256 rfl))
                  have h4277 : KNN T H4267 r0 e d := (KNN_fr w4255 g0 f4272 rfl (KNN_fr w3897 g0 f4256 rfl a3909))
                  exact wp_ireturn e259 c259_122 rfl ⟨rfl, w4271, f4275, z4273, rfl, ⟨b4274.1, b4274.2⟩, ⟨by omega, h4277⟩⟩
                · refine wp_of e259 c259_61 (rw_aload_n (pc' := 62) (v := .ref r0) rfl rfl rfl ?_)
                  refine wp_of e259 c259_62 (rw_aload_n (pc' := 63) (v := .ref r0) rfl rfl rfl ?_)
                  refine wp_of e259 c259_63 (xg_R (pc' := 66) lf_9_42 w4255 g0 sh_42 (by decide) (by decide) ty_42_30 rfl rfl (fun r4278 q4279 g4280 => ?_))
                  refine wp_of e259 c259_66 (rw_iload (pc' := 68) (z := v4252) rfl rfl ?_)
                  refine wp_of e259 c259_68 (xa_I (so := 0) (pc' := 69) w4255 g4280 sh_52 (by decide) (ty_52 _) (b4257.1) (by omega) rfl (fun b4281 b4282 => ?_))
                  have k4283 : wLM H4254 r0 = wLM H3893 r0 := (wLM_fr w3897 g0 f4256 rfl)
                  have k4284 : H4254 r0 3 = H2845 r0 3 := ((f4256 r0 3 _ g0 rfl).trans (f3898 r0 3 _ g0 rfl))
                  obtain ⟨r4285, q4286, g4287⟩ := (w4255.opt g0 (t' := 54) (n := 33) (j := 3) (p := 0) (q := 0) rfl (by decide) rfl).resolve_left (by omega)
                  refine wp_of e259 c259_69 (xc_V (pc' := 72) (r := r0) (as := [vI (H4254 r4278 (v4252.toNat))]) (st := []) (lm_9_425) rfl rfl (Nat.le_of_ble_eq_true rfl) w4255 g0 sh_42 (by decide) rfl (by decide) (s_243 w4255 g0 ⟨b4281, Int.le_trans b4282 (by decide)⟩ q4286 g4287 (by omega)) (fun R4288 T4289 H4290 p4291 => ?_))
                  obtain ⟨e4292, w4294, f4295, e4293⟩ := p4291
                  subst e4292
                  subst e4293
                  have f4296 := f4260.tr f4295 rfl
                  have f4297 := f4256.tr f4295 rfl
                  show wp _ _ 259 72 [(5, vI v4252), (4, vI v4253), (0, .ref r0), (1, vI a1), (2, vI a2)] [] _ H4290 _
                  refine wp_of e259 c259_72 (rw_iload (pc' := 74) (z := v4253) rfl rfl ?_)
                  refine wp_of e259 c259_74 (rw_aload_n (pc' := 75) (v := .ref r0) rfl rfl rfl ?_)
                  refine wp_of e259 c259_75 (xg_R (pc' := 78) lf_9_33 w4294 g0 sh_42 (by decide) (by decide) ty_42_25 rfl rfl (fun r4298 q4299 g4300 => ?_))
                  refine wp_of e259 c259_78 (rw_bipush (pc' := 80) (z := 40) rfl (by decide) ?_)
                  refine wp_of e259 c259_80 (rw_iload_n (pc' := 81) (z := a1) rfl rfl ?_)
                  refine wp_of e259 c259_81 (rw_imul (pc' := 82) rfl ?_)
                  refine wp_of e259 c259_82 (rw_aload_n (pc' := 83) (v := .ref r0) rfl rfl rfl ?_)
                  refine wp_of e259 c259_83 (xg_R (pc' := 86) lf_9_39 w4294 g0 sh_42 (by decide) (by decide) ty_42_27 rfl rfl (fun r4301 q4302 g4303 => ?_))
                  refine wp_of e259 c259_86 (rw_iload_n (pc' := 87) (z := a1) rfl rfl ?_)
                  refine wp_of e259 c259_87 (xa_I (so := 0) (pc' := 88) w4294 g4303 sh_51 (by decide) (ty_51 _) (by omega) (by omega) rfl (fun b4304 b4305 => ?_))
                  refine wp_of e259 c259_88 (rw_iadd (pc' := 89) rfl ?_)
                  refine wp_of e259 c259_89 (xa_I (so := 0) (pc' := 90) w4294 g4300 sh_49 (by decide) (ty_49 _) (by omega) (by omega) rfl (fun b4306 b4307 => ?_))
                  refine wp_of e259 c259_90 (rw_aload_n (pc' := 91) (v := .ref r0) rfl rfl rfl ?_)
                  refine wp_of e259 c259_91 (xg_K (pc' := 94) lf_9_33 w4294 g0 sh_42 (by decide) (by decide) rfl q4299 rfl ?_)
                  refine wp_of e259 c259_94 (rw_bipush (pc' := 96) (z := 40) rfl (by decide) ?_)
                  refine wp_of e259 c259_96 (rw_iload_n (pc' := 97) (z := a2) rfl rfl ?_)
                  refine wp_of e259 c259_97 (rw_imul (pc' := 98) rfl ?_)
                  refine wp_of e259 c259_98 (rw_aload_n (pc' := 99) (v := .ref r0) rfl rfl rfl ?_)
                  refine wp_of e259 c259_99 (xg_K (pc' := 102) lf_9_39 w4294 g0 sh_42 (by decide) (by decide) rfl q4302 rfl ?_)
                  refine wp_of e259 c259_102 (rw_iload_n (pc' := 103) (z := a2) rfl rfl ?_)
                  refine wp_of e259 c259_103 (xa_I (so := 0) (pc' := 104) w4294 g4303 sh_51 (by decide) (ty_51 _) (by omega) (by omega) rfl (fun b4308 b4309 => ?_))
                  refine wp_of e259 c259_104 (rw_iadd (pc' := 105) rfl ?_)
                  refine wp_of e259 c259_105 (xa_I (so := 0) (pc' := 106) w4294 g4300 sh_49 (by decide) (ty_49 _) (by omega) (by omega) rfl (fun b4310 b4311 => ?_))
                  refine wp_of e259 c259_106 (rw_iand (pc' := 107) rfl ?_)
                  obtain ⟨v4312, e4313⟩ : ∃ x : Int, x = wq_and (H4290 r4298 (((40 * a1) + (H4290 r4301 (a1.toNat))).toNat)) (H4290 r4298 (((40 * a2) + (H4290 r4301 (a2.toNat))).toNat)) := ⟨_, rfl⟩
                  rw [← e4313]
                  have b4314 : -2147483648 ≤ v4312 ∧ v4312 ≤ 2147483647 := by
                    rw [e4313]
                    exact wI_and _ _
                  refine wp_of e259 c259_107 (rw_ior (pc' := 108) rfl ?_)
                  obtain ⟨v4315, e4316⟩ : ∃ x : Int, x = wq_or v4253 v4312 := ⟨_, rfl⟩
                  rw [← e4316]
                  have b4317 : -2147483648 ≤ v4315 ∧ v4315 ≤ 2147483647 := by
                    rw [e4316]
                    exact wI_or _ _
                  refine wp_of e259 c259_108 (rw_istore (pc' := 110) (z := v4315) (L' := [(4, vI v4315), (5, vI v4252), (0, .ref r0), (1, vI a1), (2, vI a2)]) rfl rfl rfl ?_)
                  refine wp_of e259 c259_110 (rw_iinc (pc' := 113) (z := v4252) (L' := [(5, vI (v4252 + 1)), (4, vI v4315), (0, .ref r0), (1, vI a1), (2, vI a2)]) rfl rfl rfl rfl ?_)
                  refine wp_of e259 c259_113 (rw_goto (p1 := 52) (by decide) ?_)
                  exact wp_lc (ks := [5, 4, 0, 1, 2]) (wl_c rfl (wl_c rfl (wl_c rfl (wl_c rfl (wl_c rfl wl_n))))) rfl (by decide) (ih4251 _ (by omega) (v4252 + 1) v4315 H4290 w4294 f4297 ⟨by omega, by omega⟩ ⟨b4317.1, b4317.2⟩ rfl)
            exact wp_lc (ks := [5, 4, 3, 0, 1, 2]) (wl_c rfl (wl_c rfl (wl_c rfl (wl_c rfl (wl_c rfl wl_n))))) rfl (by decide) (lp4249 _ 0 0 H3893 w3897 wfr.rf ⟨by decide, by decide⟩ ⟨by decide, by decide⟩ rfl)
          · exfalso
            omega
        · have f4318 := f2848.tr f3898 rfl
          show wp _ _ 259 35 [(0, .ref r0), (1, vI a1), (2, vI a2)] [vI z3899] _ H3893 _
          have k4319 : wLM H3893 r0 = wLM H r0 := ((wLM_fr w2847 g0 f3898 rfl).trans (wLM_fr hW g0 ((wfr.rf (l := [(42, 0)])).put' e2846 g0 rfl) rfl))
          refine wp_of e259 c259_35 (rw_istore_n (pc' := 36) (z := z3899) (L' := [(3, vI z3899), (0, .ref r0), (1, vI a1), (2, vI a2)]) rfl rfl rfl ?_)
          refine wp_of e259 c259_36 (rw_iload_n (pc' := 37) (z := z3899) rfl rfl ?_)
          refine wp_of e259 c259_37 (rw_if_le (p1 := 46) (p2 := 40) (by decide) rfl ⟨Int.le_trans (by decide) b3900.1, Int.le_trans b3900.2 (by decide)⟩ (fun c4320 => ?_) (fun c4320 => ?_))
          · exfalso
            omega
          · refine wp_of e259 c259_40 (rw_aload_n (pc' := 41) (v := .ref r0) rfl rfl rfl ?_)
            refine wp_of e259 c259_41 (rw_iload_n (pc' := 42) (z := z3899) rfl rfl ?_)
            refine wp_of e259 c259_42 (xc_V (pc' := 45) (r := r0) (as := [vI z3899]) (st := []) (lm_9_54) rfl rfl (Nat.le_of_ble_eq_true rfl) w3897 g0 sh_42 (by decide) rfl (by decide) (s_170 w3897 g0 ⟨Int.le_trans (by decide) b3900.1, Int.le_trans b3900.2 (by decide)⟩) (fun R4321 T4322 H4323 p4324 => ?_))
            obtain ⟨e4325, w4327, f4328, z4329, e4326, b4330⟩ := p4324
            subst e4325
            subst e4326
            have f4331 := f4318.tr f4328 rfl
            show wp _ _ 259 45 [(3, vI z3899), (0, .ref r0), (1, vI a1), (2, vI a2)] [vI z4329] _ H4323 _
            have k4332 : wKI H4323 r0 = wKI H3893 r0 := (wKI_fr w3897 g0 f4328 rfl)
            have h4333 : KNN T H4323 r0 e d := (KNN_fr w3897 g0 f4328 rfl a3917)
            exact wp_ireturn e259 c259_45 rfl ⟨rfl, w4327, f4331, z4329, rfl, ⟨b4330.1, b4330.2⟩, ⟨by omega, h4333⟩⟩
      · refine wp_of e259 c259_27 (rw_iconst (pc' := 28) rfl ?_)
        refine wp_of e259 c259_28 (rw_goto (p1 := 32) (by decide) ?_)
        have k4334 : H2845 r0 3 = H r0 3 := (wq_u_j e2846 rfl)
        have k4335 : wKI H2845 r0 = wKI H r0 := (wKI_fr hW g0 ((wfr.rf (l := [(42, 0)])).put' e2846 g0 rfl) rfl)
        have h4336 : RB T H2845 r0 e d := (RB_fr hW g0 ((wfr.rf (l := [(42, 0)])).put' e2846 g0 rfl) rfl hRB_r0)
        have h4337 : KNN T H2845 r0 e d := (KNN_fr hW g0 ((wfr.rf (l := [(42, 0)])).put' e2846 g0 rfl) rfl hKNN_r0)
        refine wp_of e259 c259_32 (xc_V (pc' := 35) (r := r0) (as := [vI 1]) (st := []) (lm_9_433) rfl rfl (Nat.le_of_ble_eq_true rfl) w2847 g0 sh_42 (by decide) rfl (by decide) (u_241 (e := e) (d := d) w2847 g0 ⟨by decide, by decide⟩ (by omega) (by omega) (by assumption) (by assumption) (by assumption) (by assumption) h4336 h4337) (fun R4338 T4339 H4340 p4341 => ?_))
        obtain ⟨e4342, w4344, f4345, z4346, e4343, b4347, p4348⟩ := p4341
        subst e4342
        subst e4343
        rcases p4348 with ⟨a4349, a4350, a4351, a4352, a4353, a4354, a4355, a4356, a4357⟩ | ⟨a4358, a4359, a4360, a4361, a4362, a4363, a4364⟩
        · have f4365 := f2848.tr f4345 rfl
          show wp _ _ 259 35 [(0, .ref r0), (1, vI a1), (2, vI a2)] [vI z4346] _ H4340 _
          have k4366 : wLM H4340 r0 = wLM H r0 := ((wLM_fr w2847 g0 f4345 rfl).trans (wLM_fr hW g0 ((wfr.rf (l := [(42, 0)])).put' e2846 g0 rfl) rfl))
          refine wp_of e259 c259_35 (rw_istore_n (pc' := 36) (z := z4346) (L' := [(3, vI z4346), (0, .ref r0), (1, vI a1), (2, vI a2)]) rfl rfl rfl ?_)
          refine wp_of e259 c259_36 (rw_iload_n (pc' := 37) (z := z4346) rfl rfl ?_)
          refine wp_of e259 c259_37 (rw_if_le (p1 := 46) (p2 := 40) (by decide) rfl ⟨Int.le_trans (by decide) b4347.1, Int.le_trans b4347.2 (by decide)⟩ (fun c4367 => ?_) (fun c4367 => ?_))
          · refine wp_of e259 c259_46 (rw_iconst (pc' := 47) rfl ?_)
            refine wp_of e259 c259_47 (rw_istore (pc' := 49) (z := 0) (L' := [(4, vI 0), (3, vI z4346), (0, .ref r0), (1, vI a1), (2, vI a2)]) rfl rfl rfl ?_)
            refine wp_of e259 c259_49 (rw_iconst (pc' := 50) rfl ?_)
            refine wp_of e259 c259_50 (rw_istore (pc' := 52) (z := 0) (L' := [(5, vI 0), (4, vI 0), (3, vI z4346), (0, .ref r0), (1, vI a1), (2, vI a2)]) rfl rfl rfl ?_)
            have lp4696 : ∀ (n4697 : Nat) (v4699 : Int) (v4700 : Int) (H4701 : wq_H), WT T H4701 → wfr [(51, 999)] T H4340 H4701 → (0 ≤ v4699 ∧ v4699 ≤ 20000) → ((-2147483648) ≤ v4700 ∧ v4700 ≤ 2147483647) → (20000 - v4699).toNat = n4697 → wp kt 7 259 52 [(5, vI v4699), (4, vI v4700), (0, .ref r0), (1, vI a1), (2, vI a2)] [] T H4701 (uq_259 r0 a1 a2 e d T H) := by
              intro n4697
              induction n4697 using Nat.strongRecOn with
              | _ n4697 ih4698 =>
                intro v4699 v4700 H4701 w4702 f4703 b4704 b4705 m4706
                have f4707 := f4365.tr f4703 rfl
                refine wp_of e259 c259_52 (rw_iload (pc' := 54) (z := v4699) rfl rfl ?_)
                refine wp_of e259 c259_54 (rw_aload_n (pc' := 55) (v := .ref r0) rfl rfl rfl ?_)
                have k4708 : H4701 r0 29 = H4340 r0 29 := (f4703 r0 29 _ g0 rfl)
                refine wp_of e259 c259_55 (xg_I (pc' := 58) lf_9_422 w4702 g0 sh_42 (by decide) (by decide) ty_42_29 rfl rfl (fun b4709 b4710 => ?_))
                refine wp_of e259 c259_58 (rw_icmp_ge (p1 := 116) (p2 := 61) (by decide) rfl ⟨Int.le_trans (by decide) b4704.1, Int.le_trans b4704.2 (by decide)⟩ ⟨Int.le_trans (by decide) b4709, Int.le_trans b4710 (by decide)⟩ (fun c4711 => ?_) (fun c4711 => ?_))
                · refine wp_of e259 c259_116 (rw_aload_n (pc' := 117) (v := .ref r0) rfl rfl rfl ?_)
                  refine wp_of e259 c259_117 (rw_iload (pc' := 119) (z := v4700) rfl rfl ?_)
                  refine wp_of e259 c259_119 (xc_V (pc' := 122) (r := r0) (as := [vI v4700]) (st := []) (lm_9_58) rfl rfl (Nat.le_of_ble_eq_true rfl) w4702 g0 sh_42 (by decide) rfl (by decide) (s_209 w4702 g0 ⟨b4705.1, b4705.2⟩) (fun R4712 T4713 H4714 p4715 => ?_))
                  obtain ⟨e4716, w4718, f4719, z4720, e4717, b4721⟩ := p4715
                  subst e4716
                  subst e4717
                  have f4722 := f4707.tr f4719 rfl
                  show wp _ _ 259 122 [(5, vI v4699), (4, vI v4700), (0, .ref r0), (1, vI a1), (2, vI a2)] [vI z4720] _ H4714 _
                  have k4723 : wKI H4714 r0 = wKI H4340 r0 := ((wKI_fr w4702 g0 f4719 rfl).trans (wKI_fr w4344 g0 f4703 rfl))
                  have h4724 : KNN T H4714 r0 e d := (KNN_fr w4702 g0 f4719 rfl (KNN_fr w4344 g0 f4703 rfl a4356))
                  exact wp_ireturn e259 c259_122 rfl ⟨rfl, w4718, f4722, z4720, rfl, ⟨b4721.1, b4721.2⟩, ⟨by omega, h4724⟩⟩
                · refine wp_of e259 c259_61 (rw_aload_n (pc' := 62) (v := .ref r0) rfl rfl rfl ?_)
                  refine wp_of e259 c259_62 (rw_aload_n (pc' := 63) (v := .ref r0) rfl rfl rfl ?_)
                  refine wp_of e259 c259_63 (xg_R (pc' := 66) lf_9_42 w4702 g0 sh_42 (by decide) (by decide) ty_42_30 rfl rfl (fun r4725 q4726 g4727 => ?_))
                  refine wp_of e259 c259_66 (rw_iload (pc' := 68) (z := v4699) rfl rfl ?_)
                  refine wp_of e259 c259_68 (xa_I (so := 0) (pc' := 69) w4702 g4727 sh_52 (by decide) (ty_52 _) (b4704.1) (by omega) rfl (fun b4728 b4729 => ?_))
                  have k4730 : wLM H4701 r0 = wLM H4340 r0 := (wLM_fr w4344 g0 f4703 rfl)
                  have k4731 : H4701 r0 3 = H2845 r0 3 := ((f4703 r0 3 _ g0 rfl).trans (f4345 r0 3 _ g0 rfl))
                  obtain ⟨r4732, q4733, g4734⟩ := (w4702.opt g0 (t' := 54) (n := 33) (j := 3) (p := 0) (q := 0) rfl (by decide) rfl).resolve_left (by omega)
                  refine wp_of e259 c259_69 (xc_V (pc' := 72) (r := r0) (as := [vI (H4701 r4725 (v4699.toNat))]) (st := []) (lm_9_425) rfl rfl (Nat.le_of_ble_eq_true rfl) w4702 g0 sh_42 (by decide) rfl (by decide) (s_243 w4702 g0 ⟨b4728, Int.le_trans b4729 (by decide)⟩ q4733 g4734 (by omega)) (fun R4735 T4736 H4737 p4738 => ?_))
                  obtain ⟨e4739, w4741, f4742, e4740⟩ := p4738
                  subst e4739
                  subst e4740
                  have f4743 := f4707.tr f4742 rfl
                  have f4744 := f4703.tr f4742 rfl
                  show wp _ _ 259 72 [(5, vI v4699), (4, vI v4700), (0, .ref r0), (1, vI a1), (2, vI a2)] [] _ H4737 _
                  refine wp_of e259 c259_72 (rw_iload (pc' := 74) (z := v4700) rfl rfl ?_)
                  refine wp_of e259 c259_74 (rw_aload_n (pc' := 75) (v := .ref r0) rfl rfl rfl ?_)
                  refine wp_of e259 c259_75 (xg_R (pc' := 78) lf_9_33 w4741 g0 sh_42 (by decide) (by decide) ty_42_25 rfl rfl (fun r4745 q4746 g4747 => ?_))
                  refine wp_of e259 c259_78 (rw_bipush (pc' := 80) (z := 40) rfl (by decide) ?_)
                  refine wp_of e259 c259_80 (rw_iload_n (pc' := 81) (z := a1) rfl rfl ?_)
                  refine wp_of e259 c259_81 (rw_imul (pc' := 82) rfl ?_)
                  refine wp_of e259 c259_82 (rw_aload_n (pc' := 83) (v := .ref r0) rfl rfl rfl ?_)
                  refine wp_of e259 c259_83 (xg_R (pc' := 86) lf_9_39 w4741 g0 sh_42 (by decide) (by decide) ty_42_27 rfl rfl (fun r4748 q4749 g4750 => ?_))
                  refine wp_of e259 c259_86 (rw_iload_n (pc' := 87) (z := a1) rfl rfl ?_)
                  refine wp_of e259 c259_87 (xa_I (so := 0) (pc' := 88) w4741 g4750 sh_51 (by decide) (ty_51 _) (by omega) (by omega) rfl (fun b4751 b4752 => ?_))
                  refine wp_of e259 c259_88 (rw_iadd (pc' := 89) rfl ?_)
                  refine wp_of e259 c259_89 (xa_I (so := 0) (pc' := 90) w4741 g4747 sh_49 (by decide) (ty_49 _) (by omega) (by omega) rfl (fun b4753 b4754 => ?_))
                  refine wp_of e259 c259_90 (rw_aload_n (pc' := 91) (v := .ref r0) rfl rfl rfl ?_)
                  refine wp_of e259 c259_91 (xg_K (pc' := 94) lf_9_33 w4741 g0 sh_42 (by decide) (by decide) rfl q4746 rfl ?_)
                  refine wp_of e259 c259_94 (rw_bipush (pc' := 96) (z := 40) rfl (by decide) ?_)
                  refine wp_of e259 c259_96 (rw_iload_n (pc' := 97) (z := a2) rfl rfl ?_)
                  refine wp_of e259 c259_97 (rw_imul (pc' := 98) rfl ?_)
                  refine wp_of e259 c259_98 (rw_aload_n (pc' := 99) (v := .ref r0) rfl rfl rfl ?_)
                  refine wp_of e259 c259_99 (xg_K (pc' := 102) lf_9_39 w4741 g0 sh_42 (by decide) (by decide) rfl q4749 rfl ?_)
                  refine wp_of e259 c259_102 (rw_iload_n (pc' := 103) (z := a2) rfl rfl ?_)
                  refine wp_of e259 c259_103 (xa_I (so := 0) (pc' := 104) w4741 g4750 sh_51 (by decide) (ty_51 _) (by omega) (by omega) rfl (fun b4755 b4756 => ?_))
                  refine wp_of e259 c259_104 (rw_iadd (pc' := 105) rfl ?_)
                  refine wp_of e259 c259_105 (xa_I (so := 0) (pc' := 106) w4741 g4747 sh_49 (by decide) (ty_49 _) (by omega) (by omega) rfl (fun b4757 b4758 => ?_))
                  refine wp_of e259 c259_106 (rw_iand (pc' := 107) rfl ?_)
                  obtain ⟨v4759, e4760⟩ : ∃ x : Int, x = wq_and (H4737 r4745 (((40 * a1) + (H4737 r4748 (a1.toNat))).toNat)) (H4737 r4745 (((40 * a2) + (H4737 r4748 (a2.toNat))).toNat)) := ⟨_, rfl⟩
                  rw [← e4760]
                  have b4761 : -2147483648 ≤ v4759 ∧ v4759 ≤ 2147483647 := by
                    rw [e4760]
                    exact wI_and _ _
                  refine wp_of e259 c259_107 (rw_ior (pc' := 108) rfl ?_)
                  obtain ⟨v4762, e4763⟩ : ∃ x : Int, x = wq_or v4700 v4759 := ⟨_, rfl⟩
                  rw [← e4763]
                  have b4764 : -2147483648 ≤ v4762 ∧ v4762 ≤ 2147483647 := by
                    rw [e4763]
                    exact wI_or _ _
                  refine wp_of e259 c259_108 (rw_istore (pc' := 110) (z := v4762) (L' := [(4, vI v4762), (5, vI v4699), (0, .ref r0), (1, vI a1), (2, vI a2)]) rfl rfl rfl ?_)
                  refine wp_of e259 c259_110 (rw_iinc (pc' := 113) (z := v4699) (L' := [(5, vI (v4699 + 1)), (4, vI v4762), (0, .ref r0), (1, vI a1), (2, vI a2)]) rfl rfl rfl rfl ?_)
                  refine wp_of e259 c259_113 (rw_goto (p1 := 52) (by decide) ?_)
                  exact wp_lc (ks := [5, 4, 0, 1, 2]) (wl_c rfl (wl_c rfl (wl_c rfl (wl_c rfl (wl_c rfl wl_n))))) rfl (by decide) (ih4698 _ (by omega) (v4699 + 1) v4762 H4737 w4741 f4744 ⟨by omega, by omega⟩ ⟨b4764.1, b4764.2⟩ rfl)
            exact wp_lc (ks := [5, 4, 3, 0, 1, 2]) (wl_c rfl (wl_c rfl (wl_c rfl (wl_c rfl (wl_c rfl wl_n))))) rfl (by decide) (lp4696 _ 0 0 H4340 w4344 wfr.rf ⟨by decide, by decide⟩ ⟨by decide, by decide⟩ rfl)
          · exfalso
            omega
        · have f4765 := f2848.tr f4345 rfl
          show wp _ _ 259 35 [(0, .ref r0), (1, vI a1), (2, vI a2)] [vI z4346] _ H4340 _
          have k4766 : wLM H4340 r0 = wLM H r0 := ((wLM_fr w2847 g0 f4345 rfl).trans (wLM_fr hW g0 ((wfr.rf (l := [(42, 0)])).put' e2846 g0 rfl) rfl))
          refine wp_of e259 c259_35 (rw_istore_n (pc' := 36) (z := z4346) (L' := [(3, vI z4346), (0, .ref r0), (1, vI a1), (2, vI a2)]) rfl rfl rfl ?_)
          refine wp_of e259 c259_36 (rw_iload_n (pc' := 37) (z := z4346) rfl rfl ?_)
          refine wp_of e259 c259_37 (rw_if_le (p1 := 46) (p2 := 40) (by decide) rfl ⟨Int.le_trans (by decide) b4347.1, Int.le_trans b4347.2 (by decide)⟩ (fun c4767 => ?_) (fun c4767 => ?_))
          · exfalso
            omega
          · refine wp_of e259 c259_40 (rw_aload_n (pc' := 41) (v := .ref r0) rfl rfl rfl ?_)
            refine wp_of e259 c259_41 (rw_iload_n (pc' := 42) (z := z4346) rfl rfl ?_)
            refine wp_of e259 c259_42 (xc_V (pc' := 45) (r := r0) (as := [vI z4346]) (st := []) (lm_9_54) rfl rfl (Nat.le_of_ble_eq_true rfl) w4344 g0 sh_42 (by decide) rfl (by decide) (s_170 w4344 g0 ⟨Int.le_trans (by decide) b4347.1, Int.le_trans b4347.2 (by decide)⟩) (fun R4768 T4769 H4770 p4771 => ?_))
            obtain ⟨e4772, w4774, f4775, z4776, e4773, b4777⟩ := p4771
            subst e4772
            subst e4773
            have f4778 := f4765.tr f4775 rfl
            show wp _ _ 259 45 [(3, vI z4346), (0, .ref r0), (1, vI a1), (2, vI a2)] [vI z4776] _ H4770 _
            have k4779 : wKI H4770 r0 = wKI H4340 r0 := (wKI_fr w4344 g0 f4775 rfl)
            have h4780 : KNN T H4770 r0 e d := (KNN_fr w4344 g0 f4775 rfl a4364)
            exact wp_ireturn e259 c259_45 rfl ⟨rfl, w4774, f4778, z4776, rfl, ⟨b4777.1, b4777.2⟩, ⟨by omega, h4780⟩⟩
/-! StrikeAwakeModel.possible(I)J  -/
abbrev uq_260 (r0 : Nat) (a1 : Int) (e : xD) (d : xD) (T : wq_T) (H : wq_H) : Option Value → wq_T → wq_H → Prop := fun r T' H' => T = T' ∧ WT T H' ∧ wfr [(42, 0), (42, 1), (42, 2), (42, 28), (42, 29), (51, 999), (52, 999)] T H H' ∧ ∃ z : Int, some (vL z) = r ∧ ((-9223372036854775808) ≤ z ∧ z ≤ 9223372036854775807) ∧ (((wKI H' r0 = 1) ∧ KNN T H' r0 e d))
set_option maxHeartbeats 4000000 in
theorem u_260 {kt : Nat → Option mc_E} {T : wq_T} {H : wq_H} {r0 : Nat} {a1 : Int} {e : xD} {d : xD} (hW : WT T H) (g0 : T.2.2.2 r0 = some 42) (i1 : (-2147483648) ≤ a1 ∧ a1 ≤ 2147483647) (p0 : wKI H r0 = 1) (p1 : XW d) (p2 : ∀ h : Nat, d 0 0 ≤ (h : Int) → h < 24 → e 13 h = 0) (p3 : XN d) (p4 : ∀ h : Nat, h < 24 → 0 ≤ e 13 h ∧ e 13 h ≤ 100) (hRB_r0 : RB T H r0 e d) (hKNN_r0 : KNN T H r0 e d) : wpc kt 8 260 [.ref r0, vI a1] T H (uq_260 r0 a1 e d T H) := by
  refine wp_enter e260 (Nat.le_of_ble_eq_true rfl) rfl ?_
  have f0 : wfr [(42, 0), (42, 1), (42, 2), (42, 28), (42, 29), (51, 999), (52, 999)] T H H := wfr.rf
  show wp _ _ 260 0 [(0, .ref r0), (1, vI a1)] [] _ H _
  have _b := RB_b hW hRB_r0
  have _nu := RB_n3 hRB_r0
  have _lm := RB_lm hRB_r0
  refine wp_of e260 c260_0 (rw_aload_n (pc' := 1) (v := .ref r0) rfl rfl rfl ?_)
  refine wp_of e260 c260_1 (rw_iconst (pc' := 2) rfl ?_)
  refine wp_of e260 c260_2 (xp_I (pc' := 5) lf_9_48 hW g0 sh_42 (by decide) (by decide) ty_42_0 rfl rfl (by decide) (by decide) ⟨by decide, by decide⟩ rfl (fun H1362 e1363 w1364 => ?_))
  have f1365 := f0.put' e1363 g0 rfl
  have k1366 : H1362 r0 0 = 0 := wq_u_s e1363
  refine wp_of e260 c260_5 (rw_aload_n (pc' := 6) (v := .ref r0) rfl rfl rfl ?_)
  refine wp_of e260 c260_6 (rw_aload_n (pc' := 7) (v := .ref r0) rfl rfl rfl ?_)
  refine wp_of e260 c260_7 (rw_iload_n (pc' := 8) (z := a1) rfl rfl ?_)
  refine wp_of e260 c260_8 (xc_V (pc' := 11) (r := r0) (as := [vI a1]) (st := [.ref r0]) (lm_9_364) rfl rfl (Nat.le_of_ble_eq_true rfl) w1364 g0 sh_42 (by decide) rfl (by decide) (s_213 w1364 g0 ⟨i1.1, i1.2⟩) (fun R1367 T1368 H1369 p1370 => ?_))
  obtain ⟨e1371, e1373, z1375, e1372, b1376, p1374⟩ := p1370
  subst e1371
  subst e1372
  subst e1373
  show wp _ _ 260 11 [(0, .ref r0), (1, vI a1)] [vI z1375, .ref r0] _ H1362 _
  have k1377 : H1362 r0 3 = H r0 3 := (wq_u_j e1363 rfl)
  have k1378 : wKI H1362 r0 = wKI H r0 := (wKI_fr hW g0 ((wfr.rf (l := [(42, 0)])).put' e1363 g0 rfl) rfl)
  have h1379 : RB T H1362 r0 e d := (RB_fr hW g0 ((wfr.rf (l := [(42, 0)])).put' e1363 g0 rfl) rfl hRB_r0)
  have h1380 : KNN T H1362 r0 e d := (KNN_fr hW g0 ((wfr.rf (l := [(42, 0)])).put' e1363 g0 rfl) rfl hKNN_r0)
  refine wp_of e260 c260_11 (xc_V (pc' := 14) (r := r0) (as := [vI z1375]) (st := []) (lm_9_433) rfl rfl (Nat.le_of_ble_eq_true rfl) w1364 g0 sh_42 (by decide) rfl (by decide) (u_241 (e := e) (d := d) w1364 g0 ⟨b1376.1, b1376.2⟩ (by omega) (by omega) (by assumption) (by assumption) (by assumption) (by assumption) h1379 h1380) (fun R1381 T1382 H1383 p1384 => ?_))
  obtain ⟨e1385, w1387, f1388, z1389, e1386, b1390, p1391⟩ := p1384
  subst e1385
  subst e1386
  rcases p1391 with ⟨a1392, a1393, a1394, a1395, a1396, a1397, a1398, a1399, a1400⟩ | ⟨a1401, a1402, a1403, a1404, a1405, a1406, a1407⟩
  · have f1408 := f1365.tr f1388 rfl
    show wp _ _ 260 14 [(0, .ref r0), (1, vI a1)] [vI z1389] _ H1383 _
    have k1409 : wLM H1383 r0 = wLM H r0 := ((wLM_fr w1364 g0 f1388 rfl).trans (wLM_fr hW g0 ((wfr.rf (l := [(42, 0)])).put' e1363 g0 rfl) rfl))
    refine wp_of e260 c260_14 (rw_istore_n (pc' := 15) (z := z1389) (L' := [(2, vI z1389), (0, .ref r0), (1, vI a1)]) rfl rfl rfl ?_)
    refine wp_of e260 c260_15 (rw_iload_n (pc' := 16) (z := z1389) rfl rfl ?_)
    refine wp_of e260 c260_16 (rw_if_le (p1 := 26) (p2 := 19) (by decide) rfl ⟨Int.le_trans (by decide) b1390.1, Int.le_trans b1390.2 (by decide)⟩ (fun c1410 => ?_) (fun c1410 => ?_))
    · refine wp_of e260 c260_26 (rw_lconst (pc' := 27) (z := 0) rfl rfl ?_)
      refine wp_of e260 c260_27 (rw_lstore_n (pc' := 28) (z := 0) (L' := [(3, vL 0), (2, vI z1389), (0, .ref r0), (1, vI a1)]) rfl rfl rfl ?_)
      refine wp_of e260 c260_28 (rw_iconst (pc' := 29) rfl ?_)
      refine wp_of e260 c260_29 (rw_istore (pc' := 31) (z := 0) (L' := [(5, vI 0), (3, vL 0), (2, vI z1389), (0, .ref r0), (1, vI a1)]) rfl rfl rfl ?_)
      have lp1667 : ∀ (n1668 : Nat) (v1670 : Int) (v1671 : Int) (H1672 : wq_H), WT T H1672 → wfr [(51, 999)] T H1383 H1672 → (0 ≤ v1670 ∧ v1670 ≤ 20000) → ((-9223372036854775808) ≤ v1671 ∧ v1671 ≤ 9223372036854775807) → (20000 - v1670).toNat = n1668 → wp kt 7 260 31 [(5, vI v1670), (3, vL v1671), (0, .ref r0), (1, vI a1)] [] T H1672 (uq_260 r0 a1 e d T H) := by
        intro n1668
        induction n1668 using Nat.strongRecOn with
        | _ n1668 ih1669 =>
          intro v1670 v1671 H1672 w1673 f1674 b1675 b1676 m1677
          have f1678 := f1408.tr f1674 rfl
          refine wp_of e260 c260_31 (rw_iload (pc' := 33) (z := v1670) rfl rfl ?_)
          refine wp_of e260 c260_33 (rw_aload_n (pc' := 34) (v := .ref r0) rfl rfl rfl ?_)
          have k1679 : H1672 r0 29 = H1383 r0 29 := (f1674 r0 29 _ g0 rfl)
          refine wp_of e260 c260_34 (xg_I (pc' := 37) lf_9_422 w1673 g0 sh_42 (by decide) (by decide) ty_42_29 rfl rfl (fun b1680 b1681 => ?_))
          refine wp_of e260 c260_37 (rw_icmp_ge (p1 := 68) (p2 := 40) (by decide) rfl ⟨Int.le_trans (by decide) b1675.1, Int.le_trans b1675.2 (by decide)⟩ ⟨Int.le_trans (by decide) b1680, Int.le_trans b1681 (by decide)⟩ (fun c1682 => ?_) (fun c1682 => ?_))
          · refine wp_of e260 c260_68 (rw_aload_n (pc' := 69) (v := .ref r0) rfl rfl rfl ?_)
            refine wp_of e260 c260_69 (rw_lload_n (pc' := 70) (z := v1671) rfl rfl ?_)
            refine wp_of e260 c260_70 (xc_V (pc' := 73) (r := r0) (as := [vL v1671]) (st := []) (lm_9_380) rfl rfl (Nat.le_of_ble_eq_true rfl) w1673 g0 sh_42 (by decide) rfl (by decide) (s_221 w1673 g0 ⟨b1676.1, b1676.2⟩) (fun R1683 T1684 H1685 p1686 => ?_))
            obtain ⟨e1687, w1689, f1690, z1691, e1688, b1692⟩ := p1686
            subst e1687
            subst e1688
            have f1693 := f1678.tr f1690 rfl
            show wp _ _ 260 73 [(5, vI v1670), (3, vL v1671), (0, .ref r0), (1, vI a1)] [vL z1691] _ H1685 _
            have k1694 : wKI H1685 r0 = wKI H1383 r0 := ((wKI_fr w1673 g0 f1690 rfl).trans (wKI_fr w1387 g0 f1674 rfl))
            have h1695 : KNN T H1685 r0 e d := (KNN_fr w1673 g0 f1690 rfl (KNN_fr w1387 g0 f1674 rfl a1399))
            exact wp_lreturn e260 c260_73 rfl ⟨rfl, w1689, f1693, z1691, rfl, ⟨b1692.1, b1692.2⟩, ⟨by omega, h1695⟩⟩
          · refine wp_of e260 c260_40 (rw_aload_n (pc' := 41) (v := .ref r0) rfl rfl rfl ?_)
            refine wp_of e260 c260_41 (rw_aload_n (pc' := 42) (v := .ref r0) rfl rfl rfl ?_)
            refine wp_of e260 c260_42 (xg_R (pc' := 45) lf_9_42 w1673 g0 sh_42 (by decide) (by decide) ty_42_30 rfl rfl (fun r1696 q1697 g1698 => ?_))
            refine wp_of e260 c260_45 (rw_iload (pc' := 47) (z := v1670) rfl rfl ?_)
            refine wp_of e260 c260_47 (xa_I (so := 0) (pc' := 48) w1673 g1698 sh_52 (by decide) (ty_52 _) (b1675.1) (by omega) rfl (fun b1699 b1700 => ?_))
            have k1701 : wLM H1672 r0 = wLM H1383 r0 := (wLM_fr w1387 g0 f1674 rfl)
            have k1702 : H1672 r0 3 = H1362 r0 3 := ((f1674 r0 3 _ g0 rfl).trans (f1388 r0 3 _ g0 rfl))
            obtain ⟨r1703, q1704, g1705⟩ := (w1673.opt g0 (t' := 54) (n := 33) (j := 3) (p := 0) (q := 0) rfl (by decide) rfl).resolve_left (by omega)
            refine wp_of e260 c260_48 (xc_V (pc' := 51) (r := r0) (as := [vI (H1672 r1696 (v1670.toNat))]) (st := []) (lm_9_425) rfl rfl (Nat.le_of_ble_eq_true rfl) w1673 g0 sh_42 (by decide) rfl (by decide) (s_243 w1673 g0 ⟨b1699, Int.le_trans b1700 (by decide)⟩ q1704 g1705 (by omega)) (fun R1706 T1707 H1708 p1709 => ?_))
            obtain ⟨e1710, w1712, f1713, e1711⟩ := p1709
            subst e1710
            subst e1711
            have f1714 := f1678.tr f1713 rfl
            have f1715 := f1674.tr f1713 rfl
            show wp _ _ 260 51 [(5, vI v1670), (3, vL v1671), (0, .ref r0), (1, vI a1)] [] _ H1708 _
            refine wp_of e260 c260_51 (rw_lload_n (pc' := 52) (z := v1671) rfl rfl ?_)
            refine wp_of e260 c260_52 (rw_lconst (pc' := 53) (z := 1) rfl rfl ?_)
            refine wp_of e260 c260_53 (rw_aload_n (pc' := 54) (v := .ref r0) rfl rfl rfl ?_)
            refine wp_of e260 c260_54 (xg_R (pc' := 57) lf_9_39 w1712 g0 sh_42 (by decide) (by decide) ty_42_27 rfl rfl (fun r1716 q1717 g1718 => ?_))
            refine wp_of e260 c260_57 (rw_iload_n (pc' := 58) (z := a1) rfl rfl ?_)
            refine wp_of e260 c260_58 (xa_I (so := 0) (pc' := 59) w1712 g1718 sh_51 (by decide) (ty_51 _) (by omega) (by omega) rfl (fun b1719 b1720 => ?_))
            refine wp_of e260 c260_59 (rw_lshl (pc' := 60) rfl ?_)
            obtain ⟨v1721, e1722⟩ : ∃ x : Int, x = wl_shl 1 (H1708 r1716 (a1.toNat)) := ⟨_, rfl⟩
            rw [← e1722]
            have b1723 : -9223372036854775808 ≤ v1721 ∧ v1721 ≤ 9223372036854775807 := by
              rw [e1722]
              exact wL_shl _ _
            refine wp_of e260 c260_60 (rw_lor (pc' := 61) rfl ?_)
            obtain ⟨v1724, e1725⟩ : ∃ x : Int, x = wl_or v1671 v1721 := ⟨_, rfl⟩
            rw [← e1725]
            have b1726 : -9223372036854775808 ≤ v1724 ∧ v1724 ≤ 9223372036854775807 := by
              rw [e1725]
              exact wL_or _ _
            refine wp_of e260 c260_61 (rw_lstore_n (pc' := 62) (z := v1724) (L' := [(3, vL v1724), (5, vI v1670), (0, .ref r0), (1, vI a1)]) rfl rfl rfl ?_)
            refine wp_of e260 c260_62 (rw_iinc (pc' := 65) (z := v1670) (L' := [(5, vI (v1670 + 1)), (3, vL v1724), (0, .ref r0), (1, vI a1)]) rfl rfl rfl rfl ?_)
            refine wp_of e260 c260_65 (rw_goto (p1 := 31) (by decide) ?_)
            exact wp_lc (ks := [5, 3, 0, 1]) (wl_c rfl (wl_c rfl (wl_c rfl (wl_c rfl wl_n)))) rfl (by decide) (ih1669 _ (by omega) (v1670 + 1) v1724 H1708 w1712 f1715 ⟨by omega, by omega⟩ ⟨b1726.1, b1726.2⟩ rfl)
      exact wp_lc (ks := [5, 3, 2, 0, 1]) (wl_c rfl (wl_c rfl (wl_c rfl (wl_c rfl wl_n)))) rfl (by decide) (lp1667 _ 0 0 H1383 w1387 wfr.rf ⟨by decide, by decide⟩ ⟨by decide, by decide⟩ rfl)
    · exfalso
      omega
  · have f1727 := f1365.tr f1388 rfl
    show wp _ _ 260 14 [(0, .ref r0), (1, vI a1)] [vI z1389] _ H1383 _
    have k1728 : wLM H1383 r0 = wLM H r0 := ((wLM_fr w1364 g0 f1388 rfl).trans (wLM_fr hW g0 ((wfr.rf (l := [(42, 0)])).put' e1363 g0 rfl) rfl))
    refine wp_of e260 c260_14 (rw_istore_n (pc' := 15) (z := z1389) (L' := [(2, vI z1389), (0, .ref r0), (1, vI a1)]) rfl rfl rfl ?_)
    refine wp_of e260 c260_15 (rw_iload_n (pc' := 16) (z := z1389) rfl rfl ?_)
    refine wp_of e260 c260_16 (rw_if_le (p1 := 26) (p2 := 19) (by decide) rfl ⟨Int.le_trans (by decide) b1390.1, Int.le_trans b1390.2 (by decide)⟩ (fun c1729 => ?_) (fun c1729 => ?_))
    · exfalso
      omega
    · refine wp_of e260 c260_19 (rw_aload_n (pc' := 20) (v := .ref r0) rfl rfl rfl ?_)
      refine wp_of e260 c260_20 (rw_iload_n (pc' := 21) (z := z1389) rfl rfl ?_)
      refine wp_of e260 c260_21 (xc_V (pc' := 24) (r := r0) (as := [vI z1389]) (st := []) (lm_9_54) rfl rfl (Nat.le_of_ble_eq_true rfl) w1387 g0 sh_42 (by decide) rfl (by decide) (s_170 w1387 g0 ⟨Int.le_trans (by decide) b1390.1, Int.le_trans b1390.2 (by decide)⟩) (fun R1730 T1731 H1732 p1733 => ?_))
      obtain ⟨e1734, w1736, f1737, z1738, e1735, b1739⟩ := p1733
      subst e1734
      subst e1735
      have f1740 := f1727.tr f1737 rfl
      show wp _ _ 260 24 [(2, vI z1389), (0, .ref r0), (1, vI a1)] [vI z1738] _ H1732 _
      refine wp_of e260 c260_24 (rw_i2l (pc' := 25) rfl ⟨b1739.1, b1739.2⟩ ?_)
      have k1741 : wKI H1732 r0 = wKI H1383 r0 := (wKI_fr w1387 g0 f1737 rfl)
      have h1742 : KNN T H1732 r0 e d := (KNN_fr w1387 g0 f1737 rfl a1407)
      exact wp_lreturn e260 c260_25 rfl ⟨rfl, w1736, f1740, z1738, rfl, ⟨Int.le_trans (by decide) b1739.1, Int.le_trans b1739.2 (by decide)⟩, ⟨by omega, h1742⟩⟩
