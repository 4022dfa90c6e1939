/-! what methods do (own work, written by wip/gen3/sx3.py) -/
/-! StrikeAwakeModel.world(II)I  -/
abbrev uq_245 (r0 : Nat) (a1 : Int) (a2 : Int) (e : xD) (d : xD) (T : wq_T) (H : wq_H) : Option Value → wq_T → wq_H → Prop := fun r T' H' => T = T' ∧ WT T H' ∧ wfr [(42, 0), (42, 1), (42, 2), (42, 28), (42, 29), (51, 999), (52, 999)] T H H' ∧ ∃ z : Int, some (vI z) = r ∧ ((-2147483648) ≤ z ∧ z ≤ 2147483647) ∧ (((wKI H' r0 = 1) ∧ KNN T H' r0 e d))
set_option maxHeartbeats 4000000 in
theorem u_245 {kt : Nat → Option mc_E} {T : wq_T} {H : wq_H} {r0 : Nat} {a1 : Int} {a2 : Int} {e : xD} {d : xD} (hW : WT T H) (g0 : T.2.2.2 r0 = some 42) (i1 : (-2147483648) ≤ a1 ∧ a1 ≤ 2147483647) (i2 : (-2147483648) ≤ a2 ∧ a2 ≤ 2147483647) (p0 : wKI H r0 = 1) (p1 : XW d) (p2 : ∀ h : Nat, d 0 0 ≤ (h : Int) → h < 24 → e 13 h = 0) (p3 : XN d) (p4 : ∀ h : Nat, h < 24 → 0 ≤ e 13 h ∧ e 13 h ≤ 100) (hRB_r0 : RB T H r0 e d) (hKNN_r0 : KNN T H r0 e d) : wpc kt 8 245 [.ref r0, vI a1, vI a2] T H (uq_245 r0 a1 a2 e d T H) := by
  refine wp_enter e245 (Nat.le_of_ble_eq_true rfl) rfl ?_
  have f0 : wfr [(42, 0), (42, 1), (42, 2), (42, 28), (42, 29), (51, 999), (52, 999)] T H H := wfr.rf
  show wp _ _ 245 0 [(0, .ref r0), (1, vI a1), (2, vI a2)] [] _ H _
  have _b := RB_b hW hRB_r0
  have _nu := RB_n3 hRB_r0
  have _lm := RB_lm hRB_r0
  refine wp_of e245 c245_0 (rw_aload_n (pc' := 1) (v := .ref r0) rfl rfl rfl ?_)
  refine wp_of e245 c245_1 (rw_iconst (pc' := 2) rfl ?_)
  refine wp_of e245 c245_2 (xp_I (pc' := 5) lf_9_48 hW g0 sh_42 (by decide) (by decide) ty_42_0 rfl rfl (by decide) (by decide) ⟨by decide, by decide⟩ rfl (fun H1291 e1292 w1293 => ?_))
  have f1294 := f0.put' e1292 g0 rfl
  have k1295 : H1291 r0 0 = 0 := wq_u_s e1292
  refine wp_of e245 c245_5 (rw_aload_n (pc' := 6) (v := .ref r0) rfl rfl rfl ?_)
  refine wp_of e245 c245_6 (rw_aload_n (pc' := 7) (v := .ref r0) rfl rfl rfl ?_)
  refine wp_of e245 c245_7 (rw_iload_n (pc' := 8) (z := a2) rfl rfl ?_)
  refine wp_of e245 c245_8 (xc_V (pc' := 11) (r := r0) (as := [vI a2]) (st := [.ref r0]) (lm_9_364) rfl rfl (Nat.le_of_ble_eq_true rfl) w1293 g0 sh_42 (by decide) rfl (by decide) (s_213 w1293 g0 ⟨i2.1, i2.2⟩) (fun R1296 T1297 H1298 p1299 => ?_))
  obtain ⟨e1300, e1302, z1304, e1301, b1305, p1303⟩ := p1299
  subst e1300
  subst e1301
  subst e1302
  show wp _ _ 245 11 [(0, .ref r0), (1, vI a1), (2, vI a2)] [vI z1304, .ref r0] _ H1291 _
  refine wp_of e245 c245_11 (rw_if_eq (p1 := 22) (p2 := 14) (by decide) rfl ⟨Int.le_trans (by decide) b1305.1, Int.le_trans b1305.2 (by decide)⟩ (fun c1306 => ?_) (fun c1306 => ?_))
  · refine wp_of e245 c245_22 (rw_iconst (pc' := 23) rfl ?_)
    have k1307 : H1291 r0 3 = H r0 3 := (wq_u_j e1292 rfl)
    have k1308 : wKI H1291 r0 = wKI H r0 := (wKI_fr hW g0 ((wfr.rf (l := [(42, 0)])).put' e1292 g0 rfl) rfl)
    have h1309 : RB T H1291 r0 e d := (RB_fr hW g0 ((wfr.rf (l := [(42, 0)])).put' e1292 g0 rfl) rfl hRB_r0)
    have h1310 : KNN T H1291 r0 e d := (KNN_fr hW g0 ((wfr.rf (l := [(42, 0)])).put' e1292 g0 rfl) rfl hKNN_r0)
    refine wp_of e245 c245_23 (xc_V (pc' := 26) (r := r0) (as := [vI 0]) (st := []) (lm_9_433) rfl rfl (Nat.le_of_ble_eq_true rfl) w1293 g0 sh_42 (by decide) rfl (by decide) (u_241 (e := e) (d := d) w1293 g0 ⟨by decide, by decide⟩ (by omega) (by omega) (by assumption) (by assumption) (by assumption) (by assumption) h1309 h1310) (fun R1311 T1312 H1313 p1314 => ?_))
    obtain ⟨e1315, w1317, f1318, z1319, e1316, b1320, p1321⟩ := p1314
    subst e1315
    subst e1316
    rcases p1321 with ⟨a1322, a1323, a1324, a1325, a1326, a1327, a1328, a1329, a1330⟩ | ⟨a1331, a1332, a1333, a1334, a1335, a1336, a1337⟩
    · have f1338 := f1294.tr f1318 rfl
      show wp _ _ 245 26 [(0, .ref r0), (1, vI a1), (2, vI a2)] [vI z1319] _ H1313 _
      refine wp_of e245 c245_26 (rw_istore_n (pc' := 27) (z := z1319) (L' := [(3, vI z1319), (0, .ref r0), (1, vI a1), (2, vI a2)]) rfl rfl rfl ?_)
      refine wp_of e245 c245_27 (rw_iload_n (pc' := 28) (z := z1319) rfl rfl ?_)
      refine wp_of e245 c245_28 (rw_if_ne (p1 := 41) (p2 := 31) (by decide) rfl ⟨Int.le_trans (by decide) b1320.1, Int.le_trans b1320.2 (by decide)⟩ (fun c1339 => ?_) (fun c1339 => ?_))
      · exfalso
        omega
      · refine wp_of e245 c245_31 (rw_iload_n (pc' := 32) (z := a1) rfl rfl ?_)
        refine wp_of e245 c245_32 (rw_aload_n (pc' := 33) (v := .ref r0) rfl rfl rfl ?_)
        refine wp_of e245 c245_33 (xg_I (pc' := 36) lf_9_422 w1317 g0 sh_42 (by decide) (by decide) ty_42_29 rfl rfl (fun b1340 b1341 => ?_))
        refine wp_of e245 c245_36 (rw_icmp_lt (p1 := 41) (p2 := 39) (by decide) rfl ⟨i1.1, i1.2⟩ ⟨Int.le_trans (by decide) b1340, Int.le_trans b1341 (by decide)⟩ (fun c1342 => ?_) (fun c1342 => ?_))
        · refine wp_of e245 c245_41 (rw_iload_n (pc' := 42) (z := z1319) rfl rfl ?_)
          refine wp_of e245 c245_42 (rw_if_le (p1 := 51) (p2 := 45) (by decide) rfl ⟨Int.le_trans (by decide) b1320.1, Int.le_trans b1320.2 (by decide)⟩ (fun c1343 => ?_) (fun c1343 => ?_))
          · refine wp_of e245 c245_51 (rw_aload_n (pc' := 52) (v := .ref r0) rfl rfl rfl ?_)
            refine wp_of e245 c245_52 (rw_aload_n (pc' := 53) (v := .ref r0) rfl rfl rfl ?_)
            refine wp_of e245 c245_53 (xg_R (pc' := 56) lf_9_42 w1317 g0 sh_42 (by decide) (by decide) ty_42_30 rfl rfl (fun r1344 q1345 g1346 => ?_))
            refine wp_of e245 c245_56 (rw_iload_n (pc' := 57) (z := a1) rfl rfl ?_)
            refine wp_of e245 c245_57 (xa_I (so := 0) (pc' := 58) w1317 g1346 sh_52 (by decide) (ty_52 _) (by omega) (by omega) rfl (fun b1347 b1348 => ?_))
            have k1349 : H1313 r0 3 = H1291 r0 3 := (f1318 r0 3 _ g0 rfl)
            obtain ⟨r1350, q1351, g1352⟩ := (w1317.opt g0 (t' := 54) (n := 33) (j := 3) (p := 0) (q := 0) rfl (by decide) rfl).resolve_left (by omega)
            refine wp_of e245 c245_58 (xc_V (pc' := 61) (r := r0) (as := [vI (H1313 r1344 (a1.toNat))]) (st := []) (lm_9_425) rfl rfl (Nat.le_of_ble_eq_true rfl) w1317 g0 sh_42 (by decide) rfl (by decide) (s_243 w1317 g0 ⟨b1347, Int.le_trans b1348 (by decide)⟩ q1351 g1352 (by omega)) (fun R1353 T1354 H1355 p1356 => ?_))
            obtain ⟨e1357, w1359, f1360, e1358⟩ := p1356
            subst e1357
            subst e1358
            have f1361 := f1338.tr f1360 rfl
            show wp _ _ 245 61 [(3, vI z1319), (0, .ref r0), (1, vI a1), (2, vI a2)] [] _ H1355 _
            refine wp_of e245 c245_61 (rw_aload_n (pc' := 62) (v := .ref r0) rfl rfl rfl ?_)
            refine wp_of e245 c245_62 (rw_aload_n (pc' := 63) (v := .ref r0) rfl rfl rfl ?_)
            refine wp_of e245 c245_63 (xg_R (pc' := 66) lf_9_39 w1359 g0 sh_42 (by decide) (by decide) ty_42_27 rfl rfl (fun r1362 q1363 g1364 => ?_))
            refine wp_of e245 c245_66 (rw_iload_n (pc' := 67) (z := a2) rfl rfl ?_)
            refine wp_of e245 c245_67 (xa_I (so := 0) (pc' := 68) w1359 g1364 sh_51 (by decide) (ty_51 _) (by omega) (by omega) rfl (fun b1365 b1366 => ?_))
            refine wp_of e245 c245_68 (xc_V (pc' := 71) (r := r0) (as := [vI (H1355 r1362 (a2.toNat))]) (st := []) (lm_9_58) rfl rfl (Nat.le_of_ble_eq_true rfl) w1359 g0 sh_42 (by decide) rfl (by decide) (s_209 w1359 g0 ⟨Int.le_trans (by decide) b1365, Int.le_trans b1366 (by decide)⟩) (fun R1367 T1368 H1369 p1370 => ?_))
            obtain ⟨e1371, w1373, f1374, z1375, e1372, b1376⟩ := p1370
            subst e1371
            subst e1372
            have f1377 := f1361.tr f1374 rfl
            show wp _ _ 245 71 [(3, vI z1319), (0, .ref r0), (1, vI a1), (2, vI a2)] [vI z1375] _ H1369 _
            have k1378 : wKI H1369 r0 = wKI H1313 r0 := ((wKI_fr w1359 g0 f1374 rfl).trans (wKI_fr w1317 g0 f1360 rfl))
            have h1379 : KNN T H1369 r0 e d := (KNN_fr w1359 g0 f1374 rfl (KNN_fr w1317 g0 f1360 rfl a1329))
            exact wp_ireturn e245 c245_71 rfl ⟨rfl, w1373, f1377, z1375, rfl, ⟨b1376.1, b1376.2⟩, ⟨by omega, h1379⟩⟩
          · exfalso
            omega
        · refine wp_of e245 c245_39 (rw_iconst (pc' := 40) rfl ?_)
          refine wp_of e245 c245_40 (rw_istore_n (pc' := 41) (z := 1) (L' := [(3, vI 1), (0, .ref r0), (1, vI a1), (2, vI a2)]) rfl rfl rfl ?_)
          refine wp_of e245 c245_41 (rw_iload_n (pc' := 42) (z := 1) rfl rfl ?_)
          refine wp_of e245 c245_42 (rw_if_le (p1 := 51) (p2 := 45) (by decide) rfl ⟨by decide, by decide⟩ (fun c1380 => ?_) (fun c1380 => ?_))
          · exfalso
            omega
          · refine wp_of e245 c245_45 (rw_aload_n (pc' := 46) (v := .ref r0) rfl rfl rfl ?_)
            refine wp_of e245 c245_46 (rw_iload_n (pc' := 47) (z := 1) rfl rfl ?_)
            refine wp_of e245 c245_47 (xc_V (pc' := 50) (r := r0) (as := [vI 1]) (st := []) (lm_9_54) rfl rfl (Nat.le_of_ble_eq_true rfl) w1317 g0 sh_42 (by decide) rfl (by decide) (s_170 w1317 g0 ⟨by decide, by decide⟩) (fun R1381 T1382 H1383 p1384 => ?_))
            obtain ⟨e1385, w1387, f1388, z1389, e1386, b1390⟩ := p1384
            subst e1385
            subst e1386
            have f1391 := f1338.tr f1388 rfl
            show wp _ _ 245 50 [(3, vI 1), (0, .ref r0), (1, vI a1), (2, vI a2)] [vI z1389] _ H1383 _
            have k1392 : wKI H1383 r0 = wKI H1313 r0 := (wKI_fr w1317 g0 f1388 rfl)
            have h1393 : KNN T H1383 r0 e d := (KNN_fr w1317 g0 f1388 rfl a1329)
            exact wp_ireturn e245 c245_50 rfl ⟨rfl, w1387, f1391, z1389, rfl, ⟨b1390.1, b1390.2⟩, ⟨by omega, h1393⟩⟩
    · have f1394 := f1294.tr f1318 rfl
      show wp _ _ 245 26 [(0, .ref r0), (1, vI a1), (2, vI a2)] [vI z1319] _ H1313 _
      refine wp_of e245 c245_26 (rw_istore_n (pc' := 27) (z := z1319) (L' := [(3, vI z1319), (0, .ref r0), (1, vI a1), (2, vI a2)]) rfl rfl rfl ?_)
      refine wp_of e245 c245_27 (rw_iload_n (pc' := 28) (z := z1319) rfl rfl ?_)
      refine wp_of e245 c245_28 (rw_if_ne (p1 := 41) (p2 := 31) (by decide) rfl ⟨Int.le_trans (by decide) b1320.1, Int.le_trans b1320.2 (by decide)⟩ (fun c1395 => ?_) (fun c1395 => ?_))
      · refine wp_of e245 c245_41 (rw_iload_n (pc' := 42) (z := z1319) rfl rfl ?_)
        refine wp_of e245 c245_42 (rw_if_le (p1 := 51) (p2 := 45) (by decide) rfl ⟨Int.le_trans (by decide) b1320.1, Int.le_trans b1320.2 (by decide)⟩ (fun c1396 => ?_) (fun c1396 => ?_))
        · exfalso
          omega
        · refine wp_of e245 c245_45 (rw_aload_n (pc' := 46) (v := .ref r0) rfl rfl rfl ?_)
          refine wp_of e245 c245_46 (rw_iload_n (pc' := 47) (z := z1319) rfl rfl ?_)
          refine wp_of e245 c245_47 (xc_V (pc' := 50) (r := r0) (as := [vI z1319]) (st := []) (lm_9_54) rfl rfl (Nat.le_of_ble_eq_true rfl) w1317 g0 sh_42 (by decide) rfl (by decide) (s_170 w1317 g0 ⟨Int.le_trans (by decide) b1320.1, Int.le_trans b1320.2 (by decide)⟩) (fun R1397 T1398 H1399 p1400 => ?_))
          obtain ⟨e1401, w1403, f1404, z1405, e1402, b1406⟩ := p1400
          subst e1401
          subst e1402
          have f1407 := f1394.tr f1404 rfl
          show wp _ _ 245 50 [(3, vI z1319), (0, .ref r0), (1, vI a1), (2, vI a2)] [vI z1405] _ H1399 _
          have k1408 : wKI H1399 r0 = wKI H1313 r0 := (wKI_fr w1317 g0 f1404 rfl)
          have h1409 : KNN T H1399 r0 e d := (KNN_fr w1317 g0 f1404 rfl a1337)
          exact wp_ireturn e245 c245_50 rfl ⟨rfl, w1403, f1407, z1405, rfl, ⟨b1406.1, b1406.2⟩, ⟨by omega, h1409⟩⟩
      · exfalso
        omega
  · refine wp_of e245 c245_14 (rw_iload_n (pc' := 15) (z := a1) rfl rfl ?_)
    refine wp_of e245 c245_15 (rw_if_lt (p1 := 22) (p2 := 18) (by decide) rfl ⟨i1.1, i1.2⟩ (fun c1410 => ?_) (fun c1410 => ?_))
    · refine wp_of e245 c245_22 (rw_iconst (pc' := 23) rfl ?_)
      have k1411 : H1291 r0 3 = H r0 3 := (wq_u_j e1292 rfl)
      have k1412 : wKI H1291 r0 = wKI H r0 := (wKI_fr hW g0 ((wfr.rf (l := [(42, 0)])).put' e1292 g0 rfl) rfl)
      have h1413 : RB T H1291 r0 e d := (RB_fr hW g0 ((wfr.rf (l := [(42, 0)])).put' e1292 g0 rfl) rfl hRB_r0)
      have h1414 : KNN T H1291 r0 e d := (KNN_fr hW g0 ((wfr.rf (l := [(42, 0)])).put' e1292 g0 rfl) rfl hKNN_r0)
      refine wp_of e245 c245_23 (xc_V (pc' := 26) (r := r0) (as := [vI 0]) (st := []) (lm_9_433) rfl rfl (Nat.le_of_ble_eq_true rfl) w1293 g0 sh_42 (by decide) rfl (by decide) (u_241 (e := e) (d := d) w1293 g0 ⟨by decide, by decide⟩ (by omega) (by omega) (by assumption) (by assumption) (by assumption) (by assumption) h1413 h1414) (fun R1415 T1416 H1417 p1418 => ?_))
      obtain ⟨e1419, w1421, f1422, z1423, e1420, b1424, p1425⟩ := p1418
      subst e1419
      subst e1420
      rcases p1425 with ⟨a1426, a1427, a1428, a1429, a1430, a1431, a1432, a1433, a1434⟩ | ⟨a1435, a1436, a1437, a1438, a1439, a1440, a1441⟩
      · have f1442 := f1294.tr f1422 rfl
        show wp _ _ 245 26 [(0, .ref r0), (1, vI a1), (2, vI a2)] [vI z1423] _ H1417 _
        refine wp_of e245 c245_26 (rw_istore_n (pc' := 27) (z := z1423) (L' := [(3, vI z1423), (0, .ref r0), (1, vI a1), (2, vI a2)]) rfl rfl rfl ?_)
        refine wp_of e245 c245_27 (rw_iload_n (pc' := 28) (z := z1423) rfl rfl ?_)
        refine wp_of e245 c245_28 (rw_if_ne (p1 := 41) (p2 := 31) (by decide) rfl ⟨Int.le_trans (by decide) b1424.1, Int.le_trans b1424.2 (by decide)⟩ (fun c1443 => ?_) (fun c1443 => ?_))
        · exfalso
          omega
        · refine wp_of e245 c245_31 (rw_iload_n (pc' := 32) (z := a1) rfl rfl ?_)
          refine wp_of e245 c245_32 (rw_aload_n (pc' := 33) (v := .ref r0) rfl rfl rfl ?_)
          refine wp_of e245 c245_33 (xg_I (pc' := 36) lf_9_422 w1421 g0 sh_42 (by decide) (by decide) ty_42_29 rfl rfl (fun b1444 b1445 => ?_))
          refine wp_of e245 c245_36 (rw_icmp_lt (p1 := 41) (p2 := 39) (by decide) rfl ⟨i1.1, i1.2⟩ ⟨Int.le_trans (by decide) b1444, Int.le_trans b1445 (by decide)⟩ (fun c1446 => ?_) (fun c1446 => ?_))
          · refine wp_of e245 c245_41 (rw_iload_n (pc' := 42) (z := z1423) rfl rfl ?_)
            refine wp_of e245 c245_42 (rw_if_le (p1 := 51) (p2 := 45) (by decide) rfl ⟨Int.le_trans (by decide) b1424.1, Int.le_trans b1424.2 (by decide)⟩ (fun c1447 => ?_) (fun c1447 => ?_))
            · refine wp_of e245 c245_51 (rw_aload_n (pc' := 52) (v := .ref r0) rfl rfl rfl ?_)
              refine wp_of e245 c245_52 (rw_aload_n (pc' := 53) (v := .ref r0) rfl rfl rfl ?_)
              refine wp_of e245 c245_53 (xg_R (pc' := 56) lf_9_42 w1421 g0 sh_42 (by decide) (by decide) ty_42_30 rfl rfl (fun r1448 q1449 g1450 => ?_))
              refine wp_of e245 c245_56 (rw_iload_n (pc' := 57) (z := a1) rfl rfl ?_)
              refine wp_of e245 c245_57 (xa_I (so := 0) (pc' := 58) w1421 g1450 sh_52 (by decide) (ty_52 _) (by omega) (by omega) rfl (fun b1451 b1452 => ?_))
              have k1453 : H1417 r0 3 = H1291 r0 3 := (f1422 r0 3 _ g0 rfl)
              obtain ⟨r1454, q1455, g1456⟩ := (w1421.opt g0 (t' := 54) (n := 33) (j := 3) (p := 0) (q := 0) rfl (by decide) rfl).resolve_left (by omega)
              refine wp_of e245 c245_58 (xc_V (pc' := 61) (r := r0) (as := [vI (H1417 r1448 (a1.toNat))]) (st := []) (lm_9_425) rfl rfl (Nat.le_of_ble_eq_true rfl) w1421 g0 sh_42 (by decide) rfl (by decide) (s_243 w1421 g0 ⟨b1451, Int.le_trans b1452 (by decide)⟩ q1455 g1456 (by omega)) (fun R1457 T1458 H1459 p1460 => ?_))
              obtain ⟨e1461, w1463, f1464, e1462⟩ := p1460
              subst e1461
              subst e1462
              have f1465 := f1442.tr f1464 rfl
              show wp _ _ 245 61 [(3, vI z1423), (0, .ref r0), (1, vI a1), (2, vI a2)] [] _ H1459 _
              refine wp_of e245 c245_61 (rw_aload_n (pc' := 62) (v := .ref r0) rfl rfl rfl ?_)
              refine wp_of e245 c245_62 (rw_aload_n (pc' := 63) (v := .ref r0) rfl rfl rfl ?_)
              refine wp_of e245 c245_63 (xg_R (pc' := 66) lf_9_39 w1463 g0 sh_42 (by decide) (by decide) ty_42_27 rfl rfl (fun r1466 q1467 g1468 => ?_))
              refine wp_of e245 c245_66 (rw_iload_n (pc' := 67) (z := a2) rfl rfl ?_)
              refine wp_of e245 c245_67 (xa_I (so := 0) (pc' := 68) w1463 g1468 sh_51 (by decide) (ty_51 _) (by omega) (by omega) rfl (fun b1469 b1470 => ?_))
              refine wp_of e245 c245_68 (xc_V (pc' := 71) (r := r0) (as := [vI (H1459 r1466 (a2.toNat))]) (st := []) (lm_9_58) rfl rfl (Nat.le_of_ble_eq_true rfl) w1463 g0 sh_42 (by decide) rfl (by decide) (s_209 w1463 g0 ⟨Int.le_trans (by decide) b1469, Int.le_trans b1470 (by decide)⟩) (fun R1471 T1472 H1473 p1474 => ?_))
              obtain ⟨e1475, w1477, f1478, z1479, e1476, b1480⟩ := p1474
              subst e1475
              subst e1476
              have f1481 := f1465.tr f1478 rfl
              show wp _ _ 245 71 [(3, vI z1423), (0, .ref r0), (1, vI a1), (2, vI a2)] [vI z1479] _ H1473 _
              have k1482 : wKI H1473 r0 = wKI H1417 r0 := ((wKI_fr w1463 g0 f1478 rfl).trans (wKI_fr w1421 g0 f1464 rfl))
              have h1483 : KNN T H1473 r0 e d := (KNN_fr w1463 g0 f1478 rfl (KNN_fr w1421 g0 f1464 rfl a1433))
              exact wp_ireturn e245 c245_71 rfl ⟨rfl, w1477, f1481, z1479, rfl, ⟨b1480.1, b1480.2⟩, ⟨by omega, h1483⟩⟩
            · exfalso
              omega
          · exfalso
            omega
      · have f1484 := f1294.tr f1422 rfl
        show wp _ _ 245 26 [(0, .ref r0), (1, vI a1), (2, vI a2)] [vI z1423] _ H1417 _
        refine wp_of e245 c245_26 (rw_istore_n (pc' := 27) (z := z1423) (L' := [(3, vI z1423), (0, .ref r0), (1, vI a1), (2, vI a2)]) rfl rfl rfl ?_)
        refine wp_of e245 c245_27 (rw_iload_n (pc' := 28) (z := z1423) rfl rfl ?_)
        refine wp_of e245 c245_28 (rw_if_ne (p1 := 41) (p2 := 31) (by decide) rfl ⟨Int.le_trans (by decide) b1424.1, Int.le_trans b1424.2 (by decide)⟩ (fun c1485 => ?_) (fun c1485 => ?_))
        · refine wp_of e245 c245_41 (rw_iload_n (pc' := 42) (z := z1423) rfl rfl ?_)
          refine wp_of e245 c245_42 (rw_if_le (p1 := 51) (p2 := 45) (by decide) rfl ⟨Int.le_trans (by decide) b1424.1, Int.le_trans b1424.2 (by decide)⟩ (fun c1486 => ?_) (fun c1486 => ?_))
          · exfalso
            omega
          · refine wp_of e245 c245_45 (rw_aload_n (pc' := 46) (v := .ref r0) rfl rfl rfl ?_)
            refine wp_of e245 c245_46 (rw_iload_n (pc' := 47) (z := z1423) rfl rfl ?_)
            refine wp_of e245 c245_47 (xc_V (pc' := 50) (r := r0) (as := [vI z1423]) (st := []) (lm_9_54) rfl rfl (Nat.le_of_ble_eq_true rfl) w1421 g0 sh_42 (by decide) rfl (by decide) (s_170 w1421 g0 ⟨Int.le_trans (by decide) b1424.1, Int.le_trans b1424.2 (by decide)⟩) (fun R1487 T1488 H1489 p1490 => ?_))
            obtain ⟨e1491, w1493, f1494, z1495, e1492, b1496⟩ := p1490
            subst e1491
            subst e1492
            have f1497 := f1484.tr f1494 rfl
            show wp _ _ 245 50 [(3, vI z1423), (0, .ref r0), (1, vI a1), (2, vI a2)] [vI z1495] _ H1489 _
            have k1498 : wKI H1489 r0 = wKI H1417 r0 := (wKI_fr w1421 g0 f1494 rfl)
            have h1499 : KNN T H1489 r0 e d := (KNN_fr w1421 g0 f1494 rfl a1441)
            exact wp_ireturn e245 c245_50 rfl ⟨rfl, w1493, f1497, z1495, rfl, ⟨b1496.1, b1496.2⟩, ⟨by omega, h1499⟩⟩
        · exfalso
          omega
    · refine wp_of e245 c245_18 (rw_iconst (pc' := 19) rfl ?_)
      refine wp_of e245 c245_19 (rw_goto (p1 := 23) (by decide) ?_)
      have k1500 : H1291 r0 3 = H r0 3 := (wq_u_j e1292 rfl)
      have k1501 : wKI H1291 r0 = wKI H r0 := (wKI_fr hW g0 ((wfr.rf (l := [(42, 0)])).put' e1292 g0 rfl) rfl)
      have h1502 : RB T H1291 r0 e d := (RB_fr hW g0 ((wfr.rf (l := [(42, 0)])).put' e1292 g0 rfl) rfl hRB_r0)
      have h1503 : KNN T H1291 r0 e d := (KNN_fr hW g0 ((wfr.rf (l := [(42, 0)])).put' e1292 g0 rfl) rfl hKNN_r0)
      refine wp_of e245 c245_23 (xc_V (pc' := 26) (r := r0) (as := [vI 1]) (st := []) (lm_9_433) rfl rfl (Nat.le_of_ble_eq_true rfl) w1293 g0 sh_42 (by decide) rfl (by decide) (u_241 (e := e) (d := d) w1293 g0 ⟨by decide, by decide⟩ (by omega) (by omega) (by assumption) (by assumption) (by assumption) (by assumption) h1502 h1503) (fun R1504 T1505 H1506 p1507 => ?_))
      obtain ⟨e1508, w1510, f1511, z1512, e1509, b1513, p1514⟩ := p1507
      subst e1508
      subst e1509
      rcases p1514 with ⟨a1515, a1516, a1517, a1518, a1519, a1520, a1521, a1522, a1523⟩ | ⟨a1524, a1525, a1526, a1527, a1528, a1529, a1530⟩
      · have f1531 := f1294.tr f1511 rfl
        show wp _ _ 245 26 [(0, .ref r0), (1, vI a1), (2, vI a2)] [vI z1512] _ H1506 _
        refine wp_of e245 c245_26 (rw_istore_n (pc' := 27) (z := z1512) (L' := [(3, vI z1512), (0, .ref r0), (1, vI a1), (2, vI a2)]) rfl rfl rfl ?_)
        refine wp_of e245 c245_27 (rw_iload_n (pc' := 28) (z := z1512) rfl rfl ?_)
        refine wp_of e245 c245_28 (rw_if_ne (p1 := 41) (p2 := 31) (by decide) rfl ⟨Int.le_trans (by decide) b1513.1, Int.le_trans b1513.2 (by decide)⟩ (fun c1532 => ?_) (fun c1532 => ?_))
        · exfalso
          omega
        · refine wp_of e245 c245_31 (rw_iload_n (pc' := 32) (z := a1) rfl rfl ?_)
          refine wp_of e245 c245_32 (rw_aload_n (pc' := 33) (v := .ref r0) rfl rfl rfl ?_)
          refine wp_of e245 c245_33 (xg_I (pc' := 36) lf_9_422 w1510 g0 sh_42 (by decide) (by decide) ty_42_29 rfl rfl (fun b1533 b1534 => ?_))
          refine wp_of e245 c245_36 (rw_icmp_lt (p1 := 41) (p2 := 39) (by decide) rfl ⟨i1.1, i1.2⟩ ⟨Int.le_trans (by decide) b1533, Int.le_trans b1534 (by decide)⟩ (fun c1535 => ?_) (fun c1535 => ?_))
          · refine wp_of e245 c245_41 (rw_iload_n (pc' := 42) (z := z1512) rfl rfl ?_)
            refine wp_of e245 c245_42 (rw_if_le (p1 := 51) (p2 := 45) (by decide) rfl ⟨Int.le_trans (by decide) b1513.1, Int.le_trans b1513.2 (by decide)⟩ (fun c1536 => ?_) (fun c1536 => ?_))
            · refine wp_of e245 c245_51 (rw_aload_n (pc' := 52) (v := .ref r0) rfl rfl rfl ?_)
              refine wp_of e245 c245_52 (rw_aload_n (pc' := 53) (v := .ref r0) rfl rfl rfl ?_)
              refine wp_of e245 c245_53 (xg_R (pc' := 56) lf_9_42 w1510 g0 sh_42 (by decide) (by decide) ty_42_30 rfl rfl (fun r1537 q1538 g1539 => ?_))
              refine wp_of e245 c245_56 (rw_iload_n (pc' := 57) (z := a1) rfl rfl ?_)
              refine wp_of e245 c245_57 (xa_I (so := 0) (pc' := 58) w1510 g1539 sh_52 (by decide) (ty_52 _) (by omega) (by omega) rfl (fun b1540 b1541 => ?_))
              have k1542 : H1506 r0 3 = H1291 r0 3 := (f1511 r0 3 _ g0 rfl)
              obtain ⟨r1543, q1544, g1545⟩ := (w1510.opt g0 (t' := 54) (n := 33) (j := 3) (p := 0) (q := 0) rfl (by decide) rfl).resolve_left (by omega)
              refine wp_of e245 c245_58 (xc_V (pc' := 61) (r := r0) (as := [vI (H1506 r1537 (a1.toNat))]) (st := []) (lm_9_425) rfl rfl (Nat.le_of_ble_eq_true rfl) w1510 g0 sh_42 (by decide) rfl (by decide) (s_243 w1510 g0 ⟨b1540, Int.le_trans b1541 (by decide)⟩ q1544 g1545 (by omega)) (fun R1546 T1547 H1548 p1549 => ?_))
              obtain ⟨e1550, w1552, f1553, e1551⟩ := p1549
              subst e1550
              subst e1551
              have f1554 := f1531.tr f1553 rfl
              show wp _ _ 245 61 [(3, vI z1512), (0, .ref r0), (1, vI a1), (2, vI a2)] [] _ H1548 _
              refine wp_of e245 c245_61 (rw_aload_n (pc' := 62) (v := .ref r0) rfl rfl rfl ?_)
              refine wp_of e245 c245_62 (rw_aload_n (pc' := 63) (v := .ref r0) rfl rfl rfl ?_)
              refine wp_of e245 c245_63 (xg_R (pc' := 66) lf_9_39 w1552 g0 sh_42 (by decide) (by decide) ty_42_27 rfl rfl (fun r1555 q1556 g1557 => ?_))
              refine wp_of e245 c245_66 (rw_iload_n (pc' := 67) (z := a2) rfl rfl ?_)
              refine wp_of e245 c245_67 (xa_I (so := 0) (pc' := 68) w1552 g1557 sh_51 (by decide) (ty_51 _) (by omega) (by omega) rfl (fun b1558 b1559 => ?_))
              refine wp_of e245 c245_68 (xc_V (pc' := 71) (r := r0) (as := [vI (H1548 r1555 (a2.toNat))]) (st := []) (lm_9_58) rfl rfl (Nat.le_of_ble_eq_true rfl) w1552 g0 sh_42 (by decide) rfl (by decide) (s_209 w1552 g0 ⟨Int.le_trans (by decide) b1558, Int.le_trans b1559 (by decide)⟩) (fun R1560 T1561 H1562 p1563 => ?_))
              obtain ⟨e1564, w1566, f1567, z1568, e1565, b1569⟩ := p1563
              subst e1564
              subst e1565
              have f1570 := f1554.tr f1567 rfl
              show wp _ _ 245 71 [(3, vI z1512), (0, .ref r0), (1, vI a1), (2, vI a2)] [vI z1568] _ H1562 _
              have k1571 : wKI H1562 r0 = wKI H1506 r0 := ((wKI_fr w1552 g0 f1567 rfl).trans (wKI_fr w1510 g0 f1553 rfl))
              have h1572 : KNN T H1562 r0 e d := (KNN_fr w1552 g0 f1567 rfl (KNN_fr w1510 g0 f1553 rfl a1522))
              exact wp_ireturn e245 c245_71 rfl ⟨rfl, w1566, f1570, z1568, rfl, ⟨b1569.1, b1569.2⟩, ⟨by omega, h1572⟩⟩
            · exfalso
              omega
          · refine wp_of e245 c245_39 (rw_iconst (pc' := 40) rfl ?_)
            refine wp_of e245 c245_40 (rw_istore_n (pc' := 41) (z := 1) (L' := [(3, vI 1), (0, .ref r0), (1, vI a1), (2, vI a2)]) rfl rfl rfl ?_)
            refine wp_of e245 c245_41 (rw_iload_n (pc' := 42) (z := 1) rfl rfl ?_)
            refine wp_of e245 c245_42 (rw_if_le (p1 := 51) (p2 := 45) (by decide) rfl ⟨by decide, by decide⟩ (fun c1573 => ?_) (fun c1573 => ?_))
            · exfalso
              omega
            · refine wp_of e245 c245_45 (rw_aload_n (pc' := 46) (v := .ref r0) rfl rfl rfl ?_)
              refine wp_of e245 c245_46 (rw_iload_n (pc' := 47) (z := 1) rfl rfl ?_)
              refine wp_of e245 c245_47 (xc_V (pc' := 50) (r := r0) (as := [vI 1]) (st := []) (lm_9_54) rfl rfl (Nat.le_of_ble_eq_true rfl) w1510 g0 sh_42 (by decide) rfl (by decide) (s_170 w1510 g0 ⟨by decide, by decide⟩) (fun R1574 T1575 H1576 p1577 => ?_))
              obtain ⟨e1578, w1580, f1581, z1582, e1579, b1583⟩ := p1577
              subst e1578
              subst e1579
              have f1584 := f1531.tr f1581 rfl
              show wp _ _ 245 50 [(3, vI 1), (0, .ref r0), (1, vI a1), (2, vI a2)] [vI z1582] _ H1576 _
              have k1585 : wKI H1576 r0 = wKI H1506 r0 := (wKI_fr w1510 g0 f1581 rfl)
              have h1586 : KNN T H1576 r0 e d := (KNN_fr w1510 g0 f1581 rfl a1522)
              exact wp_ireturn e245 c245_50 rfl ⟨rfl, w1580, f1584, z1582, rfl, ⟨b1583.1, b1583.2⟩, ⟨by omega, h1586⟩⟩
      · have f1587 := f1294.tr f1511 rfl
        show wp _ _ 245 26 [(0, .ref r0), (1, vI a1), (2, vI a2)] [vI z1512] _ H1506 _
        refine wp_of e245 c245_26 (rw_istore_n (pc' := 27) (z := z1512) (L' := [(3, vI z1512), (0, .ref r0), (1, vI a1), (2, vI a2)]) rfl rfl rfl ?_)
        refine wp_of e245 c245_27 (rw_iload_n (pc' := 28) (z := z1512) rfl rfl ?_)
        refine wp_of e245 c245_28 (rw_if_ne (p1 := 41) (p2 := 31) (by decide) rfl ⟨Int.le_trans (by decide) b1513.1, Int.le_trans b1513.2 (by decide)⟩ (fun c1588 => ?_) (fun c1588 => ?_))
        · refine wp_of e245 c245_41 (rw_iload_n (pc' := 42) (z := z1512) rfl rfl ?_)
          refine wp_of e245 c245_42 (rw_if_le (p1 := 51) (p2 := 45) (by decide) rfl ⟨Int.le_trans (by decide) b1513.1, Int.le_trans b1513.2 (by decide)⟩ (fun c1589 => ?_) (fun c1589 => ?_))
          · exfalso
            omega
          · refine wp_of e245 c245_45 (rw_aload_n (pc' := 46) (v := .ref r0) rfl rfl rfl ?_)
            refine wp_of e245 c245_46 (rw_iload_n (pc' := 47) (z := z1512) rfl rfl ?_)
            refine wp_of e245 c245_47 (xc_V (pc' := 50) (r := r0) (as := [vI z1512]) (st := []) (lm_9_54) rfl rfl (Nat.le_of_ble_eq_true rfl) w1510 g0 sh_42 (by decide) rfl (by decide) (s_170 w1510 g0 ⟨Int.le_trans (by decide) b1513.1, Int.le_trans b1513.2 (by decide)⟩) (fun R1590 T1591 H1592 p1593 => ?_))
            obtain ⟨e1594, w1596, f1597, z1598, e1595, b1599⟩ := p1593
            subst e1594
            subst e1595
            have f1600 := f1587.tr f1597 rfl
            show wp _ _ 245 50 [(3, vI z1512), (0, .ref r0), (1, vI a1), (2, vI a2)] [vI z1598] _ H1592 _
            have k1601 : wKI H1592 r0 = wKI H1506 r0 := (wKI_fr w1510 g0 f1597 rfl)
            have h1602 : KNN T H1592 r0 e d := (KNN_fr w1510 g0 f1597 rfl a1530)
            exact wp_ireturn e245 c245_50 rfl ⟨rfl, w1596, f1600, z1598, rfl, ⟨b1599.1, b1599.2⟩, ⟨by omega, h1602⟩⟩
        · exfalso
          omega
/-! StrikeAwakeModel.weights()J  -/
abbrev uq_246 (r0 : Nat) (e : xD) (d : xD) (T : wq_T) (H : wq_H) : Option Value → wq_T → wq_H → Prop := fun r T' H' => T = T' ∧ WT T H' ∧ wfr [(42, 0), (42, 1), (42, 2), (42, 28), (42, 29), (51, 999), (52, 999)] T H H' ∧ ∃ z : Int, some (vL z) = r ∧ ((-9223372036854775808) ≤ z ∧ z ≤ 9223372036854775807) ∧ (((wKI H' r0 = 1) ∧ KNN T H' r0 e d))
set_option maxHeartbeats 4000000 in
theorem u_246 {kt : Nat → Option mc_E} {T : wq_T} {H : wq_H} {r0 : Nat} {e : xD} {d : xD} (hW : WT T H) (g0 : T.2.2.2 r0 = some 42) (p0 : wKI H r0 = 1) (p1 : XW d) (p2 : ∀ h : Nat, d 0 0 ≤ (h : Int) → h < 24 → e 13 h = 0) (p3 : XN d) (p4 : ∀ h : Nat, h < 24 → 0 ≤ e 13 h ∧ e 13 h ≤ 100) (hRB_r0 : RB T H r0 e d) (hKNN_r0 : KNN T H r0 e d) : wpc kt 8 246 [.ref r0] T H (uq_246 r0 e d T H) := by
  refine wp_enter e246 (Nat.le_of_ble_eq_true rfl) rfl ?_
  have f0 : wfr [(42, 0), (42, 1), (42, 2), (42, 28), (42, 29), (51, 999), (52, 999)] T H H := wfr.rf
  show wp _ _ 246 0 [(0, .ref r0)] [] _ H _
  have _b := RB_b hW hRB_r0
  have _nu := RB_n3 hRB_r0
  have _lm := RB_lm hRB_r0
  refine wp_of e246 c246_0 (rw_aload_n (pc' := 1) (v := .ref r0) rfl rfl rfl ?_)
  refine wp_of e246 c246_1 (rw_iconst (pc' := 2) rfl ?_)
  refine wp_of e246 c246_2 (xp_I (pc' := 5) lf_9_48 hW g0 sh_42 (by decide) (by decide) ty_42_0 rfl rfl (by decide) (by decide) ⟨by decide, by decide⟩ rfl (fun H1149 e1150 w1151 => ?_))
  have f1152 := f0.put' e1150 g0 rfl
  have k1153 : H1149 r0 0 = 0 := wq_u_s e1150
  refine wp_of e246 c246_5 (rw_aload_n (pc' := 6) (v := .ref r0) rfl rfl rfl ?_)
  refine wp_of e246 c246_6 (rw_aload_n (pc' := 7) (v := .ref r0) rfl rfl rfl ?_)
  have k1154 : H1149 r0 3 = H r0 3 := (wq_u_j e1150 rfl)
  refine wp_of e246 c246_7 (xg_O (pc' := 10) lf_9_337 w1151 g0 sh_42 (by decide) (by decide) ty_42_3 rfl rfl (fun q1156 => ?_) (fun r1155 q1156 g1157 => ?_))
  · refine wp_of e246 c246_10 (rw_ifnull_n (p1 := 17) (p2 := 13) (by decide) rfl ?_)
    refine wp_of e246 c246_17 (rw_iconst (pc' := 18) rfl ?_)
    have k1158 : wKI H1149 r0 = wKI H r0 := (wKI_fr hW g0 ((wfr.rf (l := [(42, 0)])).put' e1150 g0 rfl) rfl)
    have h1159 : RB T H1149 r0 e d := (RB_fr hW g0 ((wfr.rf (l := [(42, 0)])).put' e1150 g0 rfl) rfl hRB_r0)
    have h1160 : KNN T H1149 r0 e d := (KNN_fr hW g0 ((wfr.rf (l := [(42, 0)])).put' e1150 g0 rfl) rfl hKNN_r0)
    refine wp_of e246 c246_18 (xc_V (pc' := 21) (r := r0) (as := [vI 0]) (st := []) (lm_9_433) rfl rfl (Nat.le_of_ble_eq_true rfl) w1151 g0 sh_42 (by decide) rfl (by decide) (u_241 (e := e) (d := d) w1151 g0 ⟨by decide, by decide⟩ (by omega) (by omega) (by assumption) (by assumption) (by assumption) (by assumption) h1159 h1160) (fun R1161 T1162 H1163 p1164 => ?_))
    obtain ⟨e1165, w1167, f1168, z1169, e1166, b1170, p1171⟩ := p1164
    subst e1165
    subst e1166
    rcases p1171 with ⟨a1172, a1173, a1174, a1175, a1176, a1177, a1178, a1179, a1180⟩ | ⟨a1181, a1182, a1183, a1184, a1185, a1186, a1187⟩
    · have f1188 := f1152.tr f1168 rfl
      show wp _ _ 246 21 [(0, .ref r0)] [vI z1169] _ H1163 _
      refine wp_of e246 c246_21 (rw_istore_n (pc' := 22) (z := z1169) (L' := [(1, vI z1169), (0, .ref r0)]) rfl rfl rfl ?_)
      refine wp_of e246 c246_22 (rw_iload_n (pc' := 23) (z := z1169) rfl rfl ?_)
      refine wp_of e246 c246_23 (rw_if_le (p1 := 35) (p2 := 26) (by decide) rfl ⟨Int.le_trans (by decide) b1170.1, Int.le_trans b1170.2 (by decide)⟩ (fun c1189 => ?_) (fun c1189 => ?_))
      · refine wp_of e246 c246_35 (rw_aload_n (pc' := 36) (v := .ref r0) rfl rfl rfl ?_)
        refine wp_of e246 c246_36 (rw_aload_n (pc' := 37) (v := .ref r0) rfl rfl rfl ?_)
        refine wp_of e246 c246_37 (rw_iconst (pc' := 38) rfl ?_)
        refine wp_of e246 c246_38 (rw_iconst (pc' := 39) rfl ?_)
        have k1190 : H1163 r0 3 = H1149 r0 3 := (f1168 r0 3 _ g0 rfl)
        have q1191 : H1163 r0 3 = -1 := k1190.trans q1156
        obtain ⟨r1192, q1193, g1194⟩ := (w1167.opt g0 (t' := 54) (n := 33) (j := 3) (p := 0) (q := 0) rfl (by decide) rfl).resolve_left (by omega)
        refine wp_of e246 c246_39 (xc_V (pc' := 42) (r := r0) (as := [vI (-1), vI 0]) (st := [.ref r0]) (lm_9_440) rfl rfl (Nat.le_of_ble_eq_true rfl) w1167 g0 sh_42 (by decide) rfl (by decide) (s_247 w1167 g0 ⟨by decide, by decide⟩ ⟨by decide, by decide⟩ q1193 g1194 (by omega)) (fun R1195 T1196 H1197 p1198 => ?_))
        obtain ⟨e1199, w1201, f1202, z1204, e1200, b1205, p1203⟩ := p1198
        subst e1199
        subst e1200
        have f1206 := f1188.tr f1202 rfl
        show wp _ _ 246 42 [(1, vI z1169), (0, .ref r0)] [vL z1204, .ref r0] _ H1197 _
        refine wp_of e246 c246_42 (xc_V (pc' := 45) (r := r0) (as := [vL z1204]) (st := []) (lm_9_380) rfl rfl (Nat.le_of_ble_eq_true rfl) w1201 g0 sh_42 (by decide) rfl (by decide) (s_221 w1201 g0 ⟨Int.le_trans (by decide) b1205.1, Int.le_trans b1205.2 (by decide)⟩) (fun R1207 T1208 H1209 p1210 => ?_))
        obtain ⟨e1211, w1213, f1214, z1215, e1212, b1216⟩ := p1210
        subst e1211
        subst e1212
        have f1217 := f1206.tr f1214 rfl
        show wp _ _ 246 45 [(1, vI z1169), (0, .ref r0)] [vL z1215] _ H1209 _
        have k1218 : wKI H1209 r0 = wKI H1163 r0 := ((wKI_fr w1201 g0 f1214 rfl).trans (wKI_fr w1167 g0 f1202 rfl))
        have h1219 : KNN T H1209 r0 e d := (KNN_fr w1201 g0 f1214 rfl (KNN_fr w1167 g0 f1202 rfl a1179))
        exact wp_lreturn e246 c246_45 rfl ⟨rfl, w1213, f1217, z1215, rfl, ⟨b1216.1, b1216.2⟩, ⟨by omega, h1219⟩⟩
      · exfalso
        omega
    · have f1220 := f1152.tr f1168 rfl
      show wp _ _ 246 21 [(0, .ref r0)] [vI z1169] _ H1163 _
      refine wp_of e246 c246_21 (rw_istore_n (pc' := 22) (z := z1169) (L' := [(1, vI z1169), (0, .ref r0)]) rfl rfl rfl ?_)
      refine wp_of e246 c246_22 (rw_iload_n (pc' := 23) (z := z1169) rfl rfl ?_)
      refine wp_of e246 c246_23 (rw_if_le (p1 := 35) (p2 := 26) (by decide) rfl ⟨Int.le_trans (by decide) b1170.1, Int.le_trans b1170.2 (by decide)⟩ (fun c1221 => ?_) (fun c1221 => ?_))
      · exfalso
        omega
      · refine wp_of e246 c246_26 (rw_aload_n (pc' := 27) (v := .ref r0) rfl rfl rfl ?_)
        refine wp_of e246 c246_27 (rw_iload_n (pc' := 28) (z := z1169) rfl rfl ?_)
        refine wp_of e246 c246_28 (xc_V (pc' := 31) (r := r0) (as := [vI z1169]) (st := []) (lm_9_54) rfl rfl (Nat.le_of_ble_eq_true rfl) w1167 g0 sh_42 (by decide) rfl (by decide) (s_170 w1167 g0 ⟨Int.le_trans (by decide) b1170.1, Int.le_trans b1170.2 (by decide)⟩) (fun R1222 T1223 H1224 p1225 => ?_))
        obtain ⟨e1226, w1228, f1229, z1230, e1227, b1231⟩ := p1225
        subst e1226
        subst e1227
        have f1232 := f1220.tr f1229 rfl
        show wp _ _ 246 31 [(1, vI z1169), (0, .ref r0)] [vI z1230] _ H1224 _
        refine wp_of e246 c246_31 (rw_i2l (pc' := 32) rfl ⟨b1231.1, b1231.2⟩ ?_)
        refine wp_of e246 c246_32 (rw_goto (p1 := 45) (by decide) ?_)
        have k1233 : wKI H1224 r0 = wKI H1163 r0 := (wKI_fr w1167 g0 f1229 rfl)
        have h1234 : KNN T H1224 r0 e d := (KNN_fr w1167 g0 f1229 rfl a1187)
        exact wp_lreturn e246 c246_45 rfl ⟨rfl, w1228, f1232, z1230, rfl, ⟨Int.le_trans (by decide) b1231.1, Int.le_trans b1231.2 (by decide)⟩, ⟨by omega, h1234⟩⟩
  · refine wp_of e246 c246_10 (rw_ifnull_r (p1 := 17) (p2 := 13) (by decide) rfl ?_)
    refine wp_of e246 c246_13 (rw_iconst (pc' := 14) rfl ?_)
    refine wp_of e246 c246_14 (rw_goto (p1 := 18) (by decide) ?_)
    have k1235 : wKI H1149 r0 = wKI H r0 := (wKI_fr hW g0 ((wfr.rf (l := [(42, 0)])).put' e1150 g0 rfl) rfl)
    have h1236 : RB T H1149 r0 e d := (RB_fr hW g0 ((wfr.rf (l := [(42, 0)])).put' e1150 g0 rfl) rfl hRB_r0)
    have h1237 : KNN T H1149 r0 e d := (KNN_fr hW g0 ((wfr.rf (l := [(42, 0)])).put' e1150 g0 rfl) rfl hKNN_r0)
    refine wp_of e246 c246_18 (xc_V (pc' := 21) (r := r0) (as := [vI 1]) (st := []) (lm_9_433) rfl rfl (Nat.le_of_ble_eq_true rfl) w1151 g0 sh_42 (by decide) rfl (by decide) (u_241 (e := e) (d := d) w1151 g0 ⟨by decide, by decide⟩ (by omega) (by omega) (by assumption) (by assumption) (by assumption) (by assumption) h1236 h1237) (fun R1238 T1239 H1240 p1241 => ?_))
    obtain ⟨e1242, w1244, f1245, z1246, e1243, b1247, p1248⟩ := p1241
    subst e1242
    subst e1243
    rcases p1248 with ⟨a1249, a1250, a1251, a1252, a1253, a1254, a1255, a1256, a1257⟩ | ⟨a1258, a1259, a1260, a1261, a1262, a1263, a1264⟩
    · have f1265 := f1152.tr f1245 rfl
      show wp _ _ 246 21 [(0, .ref r0)] [vI z1246] _ H1240 _
      refine wp_of e246 c246_21 (rw_istore_n (pc' := 22) (z := z1246) (L' := [(1, vI z1246), (0, .ref r0)]) rfl rfl rfl ?_)
      refine wp_of e246 c246_22 (rw_iload_n (pc' := 23) (z := z1246) rfl rfl ?_)
      refine wp_of e246 c246_23 (rw_if_le (p1 := 35) (p2 := 26) (by decide) rfl ⟨Int.le_trans (by decide) b1247.1, Int.le_trans b1247.2 (by decide)⟩ (fun c1266 => ?_) (fun c1266 => ?_))
      · refine wp_of e246 c246_35 (rw_aload_n (pc' := 36) (v := .ref r0) rfl rfl rfl ?_)
        refine wp_of e246 c246_36 (rw_aload_n (pc' := 37) (v := .ref r0) rfl rfl rfl ?_)
        refine wp_of e246 c246_37 (rw_iconst (pc' := 38) rfl ?_)
        refine wp_of e246 c246_38 (rw_iconst (pc' := 39) rfl ?_)
        have k1267 : H1240 r0 3 = H1149 r0 3 := (f1245 r0 3 _ g0 rfl)
        have q1268 : H1240 r0 3 = (r1155 : Int) := k1267.trans q1156
        refine wp_of e246 c246_39 (xc_V (pc' := 42) (r := r0) (as := [vI (-1), vI 0]) (st := [.ref r0]) (lm_9_440) rfl rfl (Nat.le_of_ble_eq_true rfl) w1244 g0 sh_42 (by decide) rfl (by decide) (s_247 w1244 g0 ⟨by decide, by decide⟩ ⟨by decide, by decide⟩ q1268 g1157 (by omega)) (fun R1269 T1270 H1271 p1272 => ?_))
        obtain ⟨e1273, w1275, f1276, z1278, e1274, b1279, p1277⟩ := p1272
        subst e1273
        subst e1274
        have f1280 := f1265.tr f1276 rfl
        show wp _ _ 246 42 [(1, vI z1246), (0, .ref r0)] [vL z1278, .ref r0] _ H1271 _
        refine wp_of e246 c246_42 (xc_V (pc' := 45) (r := r0) (as := [vL z1278]) (st := []) (lm_9_380) rfl rfl (Nat.le_of_ble_eq_true rfl) w1275 g0 sh_42 (by decide) rfl (by decide) (s_221 w1275 g0 ⟨Int.le_trans (by decide) b1279.1, Int.le_trans b1279.2 (by decide)⟩) (fun R1281 T1282 H1283 p1284 => ?_))
        obtain ⟨e1285, w1287, f1288, z1289, e1286, b1290⟩ := p1284
        subst e1285
        subst e1286
        have f1291 := f1280.tr f1288 rfl
        show wp _ _ 246 45 [(1, vI z1246), (0, .ref r0)] [vL z1289] _ H1283 _
        have k1292 : wKI H1283 r0 = wKI H1240 r0 := ((wKI_fr w1275 g0 f1288 rfl).trans (wKI_fr w1244 g0 f1276 rfl))
        have h1293 : KNN T H1283 r0 e d := (KNN_fr w1275 g0 f1288 rfl (KNN_fr w1244 g0 f1276 rfl a1256))
        exact wp_lreturn e246 c246_45 rfl ⟨rfl, w1287, f1291, z1289, rfl, ⟨b1290.1, b1290.2⟩, ⟨by omega, h1293⟩⟩
      · exfalso
        omega
    · have f1294 := f1152.tr f1245 rfl
      show wp _ _ 246 21 [(0, .ref r0)] [vI z1246] _ H1240 _
      refine wp_of e246 c246_21 (rw_istore_n (pc' := 22) (z := z1246) (L' := [(1, vI z1246), (0, .ref r0)]) rfl rfl rfl ?_)
      refine wp_of e246 c246_22 (rw_iload_n (pc' := 23) (z := z1246) rfl rfl ?_)
      refine wp_of e246 c246_23 (rw_if_le (p1 := 35) (p2 := 26) (by decide) rfl ⟨Int.le_trans (by decide) b1247.1, Int.le_trans b1247.2 (by decide)⟩ (fun c1295 => ?_) (fun c1295 => ?_))
      · exfalso
        omega
      · refine wp_of e246 c246_26 (rw_aload_n (pc' := 27) (v := .ref r0) rfl rfl rfl ?_)
        refine wp_of e246 c246_27 (rw_iload_n (pc' := 28) (z := z1246) rfl rfl ?_)
        refine wp_of e246 c246_28 (xc_V (pc' := 31) (r := r0) (as := [vI z1246]) (st := []) (lm_9_54) rfl rfl (Nat.le_of_ble_eq_true rfl) w1244 g0 sh_42 (by decide) rfl (by decide) (s_170 w1244 g0 ⟨Int.le_trans (by decide) b1247.1, Int.le_trans b1247.2 (by decide)⟩) (fun R1296 T1297 H1298 p1299 => ?_))
        obtain ⟨e1300, w1302, f1303, z1304, e1301, b1305⟩ := p1299
        subst e1300
        subst e1301
        have f1306 := f1294.tr f1303 rfl
        show wp _ _ 246 31 [(1, vI z1246), (0, .ref r0)] [vI z1304] _ H1298 _
        refine wp_of e246 c246_31 (rw_i2l (pc' := 32) rfl ⟨b1305.1, b1305.2⟩ ?_)
        refine wp_of e246 c246_32 (rw_goto (p1 := 45) (by decide) ?_)
        have k1307 : wKI H1298 r0 = wKI H1240 r0 := (wKI_fr w1244 g0 f1303 rfl)
        have h1308 : KNN T H1298 r0 e d := (KNN_fr w1244 g0 f1303 rfl a1264)
        exact wp_lreturn e246 c246_45 rfl ⟨rfl, w1302, f1306, z1304, rfl, ⟨Int.le_trans (by decide) b1305.1, Int.le_trans b1305.2 (by decide)⟩, ⟨by omega, h1308⟩⟩
/-! StrikeAwakeModel.having(II)I  -/
abbrev uq_249 (r0 : Nat) (a1 : Int) (a2 : Int) (e : xD) (d : xD) (T : wq_T) (H : wq_H) : Option Value → wq_T → wq_H → Prop := fun r T' H' => T = T' ∧ WT T H' ∧ wfr [(42, 0), (42, 1), (42, 2), (42, 28), (42, 29), (51, 999), (52, 999)] T H H' ∧ ∃ z : Int, some (vI z) = r ∧ ((-2147483648) ≤ z ∧ z ≤ 2147483647) ∧ (((z = -1) ∧ (wKI H' r0 = 1) ∧ ((a1 < 0 ∨ d 0 3 ≤ a1) ∨ a2 < 0 ∨ ((xsp d (a1).toNat).length : Int) ≤ a2 ∨ 20000 < xlots d) ∧ KNN T H' r0 e d) ∨ ((wKI H' r0 = 1) ∧ (((0 ≤ a1 ∧ a1 < d 0 3) ∧ 0 ≤ a2 ∧ a2 < ((xsp d (a1).toNat).length : Int)) ∧ xlots d ≤ 20000) ∧ (z = xhc e d (a1).toNat (a2).toNat (xlots d).toNat) ∧ KNN T H' r0 e d))
set_option maxHeartbeats 4000000 in
theorem u_249 {kt : Nat → Option mc_E} {T : wq_T} {H : wq_H} {r0 : Nat} {a1 : Int} {a2 : Int} {e : xD} {d : xD} (hW : WT T H) (g0 : T.2.2.2 r0 = some 42) (i1 : (-2147483648) ≤ a1 ∧ a1 ≤ 2147483647) (i2 : (-2147483648) ≤ a2 ∧ a2 ≤ 2147483647) (p0 : wKI H r0 = 1) (p1 : XW d) (p2 : ∀ h : Nat, d 0 0 ≤ (h : Int) → h < 24 → e 13 h = 0) (p3 : XN d) (p4 : ∀ h : Nat, h < 24 → 0 ≤ e 13 h ∧ e 13 h ≤ 100) (hRB_r0 : RB T H r0 e d) (hKNN_r0 : KNN T H r0 e d) : wpc kt 8 249 [.ref r0, vI a1, vI a2] T H (uq_249 r0 a1 a2 e d T H) := by
  refine wp_enter e249 (Nat.le_of_ble_eq_true rfl) rfl ?_
  have f0 : wfr [(42, 0), (42, 1), (42, 2), (42, 28), (42, 29), (51, 999), (52, 999)] T H H := wfr.rf
  show wp _ _ 249 0 [(0, .ref r0), (1, vI a1), (2, vI a2)] [] _ H _
  have _b := RB_b hW hRB_r0
  have _nu := RB_n3 hRB_r0
  have _lm := RB_lm hRB_r0
  have _xw := (by assumption : XW d)
  refine wp_of e249 c249_0 (rw_aload_n (pc' := 1) (v := .ref r0) rfl rfl rfl ?_)
  refine wp_of e249 c249_1 (rw_iconst (pc' := 2) rfl ?_)
  refine wp_of e249 c249_2 (xp_I (pc' := 5) lf_9_48 hW g0 sh_42 (by decide) (by decide) ty_42_0 rfl rfl (by decide) (by decide) ⟨by decide, by decide⟩ rfl (fun H1642 e1643 w1644 => ?_))
  have f1645 := f0.put' e1643 g0 rfl
  have k1646 : H1642 r0 0 = 0 := wq_u_s e1643
  refine wp_of e249 c249_5 (rw_aload_n (pc' := 6) (v := .ref r0) rfl rfl rfl ?_)
  refine wp_of e249 c249_6 (rw_aload_n (pc' := 7) (v := .ref r0) rfl rfl rfl ?_)
  refine wp_of e249 c249_7 (rw_iload_n (pc' := 8) (z := a1) rfl rfl ?_)
  refine wp_of e249 c249_8 (rw_iload_n (pc' := 9) (z := a2) rfl rfl ?_)
  have h1647 : RB T H1642 r0 e d := (RB_fr hW g0 ((wfr.rf (l := [(42, 0)])).put' e1643 g0 rfl) rfl hRB_r0)
  refine wp_of e249 c249_9 (xc_V (pc' := 12) (r := r0) (as := [vI a1, vI a2]) (st := [.ref r0]) (lm_9_367) rfl rfl (Nat.le_of_ble_eq_true rfl) w1644 g0 sh_42 (by decide) rfl (by decide) (u_215 (e := e) (d := d) w1644 g0 ⟨i1.1, i1.2⟩ ⟨i2.1, i2.2⟩ h1647) (fun R1648 T1649 H1650 p1651 => ?_))
  obtain ⟨e1652, e1654, z1655, e1653, b1656, p1657⟩ := p1651
  subst e1652
  subst e1653
  subst e1654
  rcases p1657 with ⟨a1658, a1659⟩ | ⟨a1660, a1661⟩
  · show wp _ _ 249 12 [(0, .ref r0), (1, vI a1), (2, vI a2)] [vI z1655, .ref r0] _ H1642 _
    have k1662 : H1642 r0 3 = H r0 3 := (wq_u_j e1643 rfl)
    have k1663 : wKI H1642 r0 = wKI H r0 := (wKI_fr hW g0 ((wfr.rf (l := [(42, 0)])).put' e1643 g0 rfl) rfl)
    have h1664 : KNN T H1642 r0 e d := (KNN_fr hW g0 ((wfr.rf (l := [(42, 0)])).put' e1643 g0 rfl) rfl hKNN_r0)
    refine wp_of e249 c249_12 (xc_V (pc' := 15) (r := r0) (as := [vI z1655]) (st := []) (lm_9_433) rfl rfl (Nat.le_of_ble_eq_true rfl) w1644 g0 sh_42 (by decide) rfl (by decide) (u_241 (e := e) (d := d) w1644 g0 ⟨b1656.1, b1656.2⟩ (by omega) (by omega) (by assumption) (by assumption) (by assumption) (by assumption) h1647 h1664) (fun R1665 T1666 H1667 p1668 => ?_))
    obtain ⟨e1669, w1671, f1672, z1673, e1670, b1674, p1675⟩ := p1668
    subst e1669
    subst e1670
    rcases p1675 with ⟨a1676, a1677, a1678, a1679, a1680, a1681, a1682, a1683, a1684⟩ | ⟨a1685, a1686, a1687, a1688, a1689, a1690, a1691⟩
    · have f1692 := f1645.tr f1672 rfl
      show wp _ _ 249 15 [(0, .ref r0), (1, vI a1), (2, vI a2)] [vI z1673] _ H1667 _
      refine wp_of e249 c249_15 (rw_istore_n (pc' := 16) (z := z1673) (L' := [(3, vI z1673), (0, .ref r0), (1, vI a1), (2, vI a2)]) rfl rfl rfl ?_)
      refine wp_of e249 c249_16 (rw_iload_n (pc' := 17) (z := z1673) rfl rfl ?_)
      have k1693 : H1667 r0 3 = H1642 r0 3 := (f1672 r0 3 _ g0 rfl)
      obtain ⟨r1694, q1695, g1696⟩ := (w1671.opt g0 (t' := 54) (n := 33) (j := 3) (p := 0) (q := 0) rfl (by decide) rfl).resolve_left (by omega)
      have h1697 : RB T H1667 r0 e d := (RB_fr w1644 g0 f1672 rfl h1647)
      have _kbb := a1684
      have _kb := _kbb.1
      have _n3 : H1667 r0 3 ≠ -1 := by omega
      have _rp := RB_at h1697 q1695
      have _k := RP_k _rp
      have _nb := xcn_b (f := xwf e d) (xlots d).toNat
      have h1698 : KL T H1667 r0 (xwf e d) (xlots d).toNat := _kbb.2
      refine wp_of e249 c249_17 (rw_if_le (p1 := 26) (p2 := 20) (by decide) rfl ⟨Int.le_trans (by decide) b1674.1, Int.le_trans b1674.2 (by decide)⟩ (fun c1699 => ?_) (fun c1699 => ?_))
      · refine wp_of e249 c249_26 (rw_iconst (pc' := 27) rfl ?_)
        refine wp_of e249 c249_27 (rw_istore (pc' := 29) (z := 0) (L' := [(4, vI 0), (3, vI z1673), (0, .ref r0), (1, vI a1), (2, vI a2)]) rfl rfl rfl ?_)
        refine wp_of e249 c249_29 (rw_iconst (pc' := 30) rfl ?_)
        refine wp_of e249 c249_30 (rw_istore (pc' := 32) (z := 0) (L' := [(5, vI 0), (4, vI 0), (3, vI z1673), (0, .ref r0), (1, vI a1), (2, vI a2)]) rfl rfl rfl ?_)
        have b1923 : 0 ≤ H1667 r0 29 ∧ H1667 r0 29 ≤ 20000 := w1671.box g0 (n := 33) rfl (by decide) rfl
        have lp1916 : ∀ (n1917 : Nat) (v1919 : Int) (v1920 : Int) (H1921 : wq_H) (u1922 : Nat), WT T H1921 → wfr [(51, 999)] T H1667 H1921 → (0 ≤ v1919 ∧ v1919 ≤ 20000) → (0 ≤ v1920 ∧ v1920 ≤ 20000) → KL T H1921 r0 (xwf e d) (xlots d).toNat → (v1919 ≤ H1921 r0 29) → (u1922 ≤ (xlots d).toNat) → (xcn (xwf e d) u1922 = v1919) → (v1920 ≤ v1919) → (v1920 = wsm (xwf e d) (fun n => if (xlot d ((n : Nat) : Int) (a1).toNat).toNat = (a2).toNat then (1 : Int) else 0) u1922) → (20000 - v1919).toNat = n1917 → wp kt 7 249 32 [(5, vI v1919), (4, vI v1920), (0, .ref r0), (1, vI a1), (2, vI a2)] [] T H1921 (uq_249 r0 a1 a2 e d T H) := by
          intro n1917
          induction n1917 using Nat.strongRecOn with
          | _ n1917 ih1918 =>
            intro v1919 v1920 H1921 u1922 w1924 f1925 b1926 b1927 h1929 x1930 x1931 x1932 x1933 x1934 m1928
            have f1935 := f1692.tr f1925 rfl
            have k1936 : H1921 r0 29 = H1667 r0 29 := (f1925 r0 29 _ g0 rfl)
            refine wp_of e249 c249_32 (rw_iload (pc' := 34) (z := v1919) rfl rfl ?_)
            refine wp_of e249 c249_34 (rw_aload_n (pc' := 35) (v := .ref r0) rfl rfl rfl ?_)
            refine wp_of e249 c249_35 (xg_I (pc' := 38) lf_9_422 w1924 g0 sh_42 (by decide) (by decide) ty_42_29 rfl rfl (fun b1937 b1938 => ?_))
            refine wp_of e249 c249_38 (rw_icmp_ge (p1 := 78) (p2 := 41) (by decide) rfl ⟨Int.le_trans (by decide) b1926.1, Int.le_trans b1926.2 (by decide)⟩ ⟨Int.le_trans (by decide) b1937, Int.le_trans b1938 (by decide)⟩ (fun c1939 => ?_) (fun c1939 => ?_))
            · refine wp_of e249 c249_78 (rw_aload_n (pc' := 79) (v := .ref r0) rfl rfl rfl ?_)
              refine wp_of e249 c249_79 (rw_iload (pc' := 81) (z := v1920) rfl rfl ?_)
              refine wp_of e249 c249_81 (xc_V (pc' := 84) (r := r0) (as := [vI v1920]) (st := []) (lm_9_58) rfl rfl (Nat.le_of_ble_eq_true rfl) w1924 g0 sh_42 (by decide) rfl (by decide) (u_209  w1924 g0 ⟨Int.le_trans (by decide) b1927.1, Int.le_trans b1927.2 (by decide)⟩) (fun R1940 T1941 H1942 p1943 => ?_))
              obtain ⟨e1944, w1946, f1947, z1948, e1945, b1949, p1950⟩ := p1943
              subst e1944
              subst e1945
              obtain ⟨a1951, a1952, a1953⟩ := p1950
              have f1954 := f1935.tr f1947 rfl
              show wp _ _ 249 84 [(5, vI v1919), (4, vI v1920), (0, .ref r0), (1, vI a1), (2, vI a2)] [vI z1948] _ H1942 _
              have k1955 : wKI H1942 r0 = wKI H1667 r0 := ((wKI_fr w1924 g0 f1947 rfl).trans (wKI_fr w1671 g0 f1925 rfl))
              have h1956 : KNN T H1942 r0 e d := (KNN_fr w1924 g0 f1947 rfl (KNN_fr w1671 g0 f1925 rfl a1683))
              exact wp_ireturn e249 c249_84 rfl ⟨rfl, w1946, f1954, z1948, rfl, ⟨b1949.1, b1949.2⟩, (Or.inr ⟨by omega, by omega, by
                show _ = wsm (xwf e d) (fun n => if (xlot d ((n : Nat) : Int) (a1).toNat).toNat = (a2).toNat then (1 : Int) else 0) (xlots d).toNat
                rw [wsm_end (u := u1922) (by omega) (by omega)]
                first | assumption | omega, h1956⟩)⟩
            · obtain ⟨h9, _a, _b, _c, _e, _f⟩ := xcn_nx (f := xwf e d) (u := u1922) (xlots d).toNat (by omega) (by omega)
              have _n9 : xcn (xwf e d) (h9 + 1) = xcn (xwf e d) h9 + 1 := by
                show xcn (xwf e d) h9 + (if xwf e d h9 > 0 then 1 else 0) = _
                rw [if_pos _c]
              refine wp_of e249 c249_41 (rw_aload_n (pc' := 42) (v := .ref r0) rfl rfl rfl ?_)
              refine wp_of e249 c249_42 (rw_aload_n (pc' := 43) (v := .ref r0) rfl rfl rfl ?_)
              refine wp_of e249 c249_43 (xg_R (pc' := 46) lf_9_42 w1924 g0 sh_42 (by decide) (by decide) ty_42_30 rfl rfl (fun r1957 q1958 g1959 => ?_))
              refine wp_of e249 c249_46 (rw_iload (pc' := 48) (z := v1919) rfl rfl ?_)
              refine wp_of e249 c249_48 (xa_I (so := 0) (pc' := 49) w1924 g1959 sh_52 (by decide) (ty_52 _) (b1926.1) (by omega) rfl (fun b1960 b1961 => ?_))
              have _kl := KL_at h1929 q1958 (n := h9) (s := (v1919).toNat) (by omega) _c (by omega)
              have _t9 : H1921 r1957 (v1919.toNat) = ((h9 : Nat) : Int) := by omega
              have _slw : SL d (xlot d ((h9 : Nat) : Int)) := SL_lot _xw.1 (by omega) (by omega)
              have k1962 : H1921 r0 3 = H1667 r0 3 := (f1925 r0 3 _ g0 rfl)
              have q1963 : H1921 r0 3 = (r1694 : Int) := k1962.trans q1695
              have h1964 : RB T H1921 r0 e d := (RB_fr w1671 g0 f1925 rfl h1697)
              refine wp_of e249 c249_49 (xc_V (pc' := 52) (r := r0) (as := [vI (H1921 r1957 (v1919.toNat))]) (st := []) (lm_9_425) rfl rfl (Nat.le_of_ble_eq_true rfl) w1924 g0 sh_42 (by decide) rfl (by decide) (u_243 (e := e) (d := d) w1924 g0 ⟨b1960, Int.le_trans b1961 (by decide)⟩ q1963 g1696 (by omega) h1964) (fun R1965 T1966 H1967 p1968 => ?_))
              obtain ⟨e1969, w1971, f1972, e1970, p1973⟩ := p1968
              subst e1969
              subst e1970
              have f1975 := f1935.tr f1972 rfl
              have f1976 := f1925.tr f1972 rfl
              show wp _ _ 249 52 [(5, vI v1919), (4, vI v1920), (0, .ref r0), (1, vI a1), (2, vI a2)] [] _ H1967 _
              have h1977 : LQ27 T H1967 r0 0 (d 0 3) (xlot d ((h9 : Nat) : Int)) := by rw [← _t9]; exact p1973
              refine wp_of e249 c249_52 (rw_iload (pc' := 54) (z := v1920) rfl rfl ?_)
              refine wp_of e249 c249_54 (rw_aload_n (pc' := 55) (v := .ref r0) rfl rfl rfl ?_)
              refine wp_of e249 c249_55 (xg_R (pc' := 58) lf_9_39 w1971 g0 sh_42 (by decide) (by decide) ty_42_27 rfl rfl (fun r1978 q1979 g1980 => ?_))
              refine wp_of e249 c249_58 (rw_iload_n (pc' := 59) (z := a1) rfl rfl ?_)
              refine wp_of e249 c249_59 (xa_I (so := 0) (pc' := 60) w1971 g1980 sh_51 (by decide) (ty_51 _) (by omega) (by omega) rfl (fun b1981 b1982 => ?_))
              have := LR_at h1977 q1979 (k := (a1.toNat)) (by omega) (by omega)
              refine wp_of e249 c249_60 (rw_iload_n (pc' := 61) (z := a2) rfl rfl ?_)
              refine wp_of e249 c249_61 (rw_icmp_ne (p1 := 68) (p2 := 64) (by decide) rfl ⟨Int.le_trans (by decide) b1981, Int.le_trans b1982 (by decide)⟩ ⟨i2.1, i2.2⟩ (fun c1983 => ?_) (fun c1983 => ?_))
              · refine wp_of e249 c249_68 (rw_iconst (pc' := 69) rfl ?_)
                refine wp_of e249 c249_69 (rw_iadd (pc' := 70) rfl ?_)
                refine wp_of e249 c249_70 (rw_istore (pc' := 72) (z := v1920 + 0) (L' := [(4, vI (v1920 + 0)), (5, vI v1919), (0, .ref r0), (1, vI a1), (2, vI a2)]) rfl rfl rfl ?_)
                have _gp : wsm (xwf e d) (fun n => if (xlot d ((n : Nat) : Int) (a1).toNat).toNat = (a2).toNat then (1 : Int) else 0) h9 = v1920 := by
                  rw [wsm_gap _a _f]
                  exact (‹v1920 = wsm (xwf e d) (fun n => if (xlot d ((n : Nat) : Int) (a1).toNat).toNat = (a2).toNat then (1 : Int) else 0) u1922›).symm
                have _q : (v1920 + 0) = wsm (xwf e d) (fun n => if (xlot d ((n : Nat) : Int) (a1).toNat).toNat = (a2).toNat then (1 : Int) else 0) (h9 + 1) := by
                  rw [wsm_y _c, _gp]
                  have _sx := _slw (a1).toNat (by omega)
                  show (v1920 + 0) = v1920 + (if (xlot d ((h9 : Nat) : Int) (a1).toNat).toNat = (a2).toNat then (1 : Int) else 0)
                  first
                  | (rw [if_pos (by omega)] <;> omega)
                  | (rw [if_neg (by omega)] <;> omega)
                refine wp_of e249 c249_72 (rw_iinc (pc' := 75) (z := v1919) (L' := [(5, vI (v1919 + 1)), (4, vI (v1920 + 0)), (0, .ref r0), (1, vI a1), (2, vI a2)]) rfl rfl rfl rfl ?_)
                refine wp_of e249 c249_75 (rw_goto (p1 := 32) (by decide) ?_)
                have k1984 : H1967 r0 29 = H1921 r0 29 := (f1972 r0 29 _ g0 rfl)
                have h1985 : KL T H1967 r0 (xwf e d) (xlots d).toNat := (KL_fr w1924 g0 f1972 rfl h1929)
                exact wp_lc (ks := [5, 4, 0, 1, 2]) (wl_c rfl (wl_c rfl (wl_c rfl (wl_c rfl (wl_c rfl wl_n))))) rfl (by decide) (ih1918 _ (by omega) (v1919 + 1) (v1920 + 0) H1967 ((h9 + 1)) w1971 f1976 ⟨by omega, by omega⟩ ⟨by omega, by omega⟩ h1985 (by omega) (by omega) (by omega) (by omega) (_q) rfl)
              · refine wp_of e249 c249_64 (rw_iconst (pc' := 65) rfl ?_)
                refine wp_of e249 c249_65 (rw_goto (p1 := 69) (by decide) ?_)
                refine wp_of e249 c249_69 (rw_iadd (pc' := 70) rfl ?_)
                refine wp_of e249 c249_70 (rw_istore (pc' := 72) (z := v1920 + 1) (L' := [(4, vI (v1920 + 1)), (5, vI v1919), (0, .ref r0), (1, vI a1), (2, vI a2)]) rfl rfl rfl ?_)
                have _gp : wsm (xwf e d) (fun n => if (xlot d ((n : Nat) : Int) (a1).toNat).toNat = (a2).toNat then (1 : Int) else 0) h9 = v1920 := by
                  rw [wsm_gap _a _f]
                  exact (‹v1920 = wsm (xwf e d) (fun n => if (xlot d ((n : Nat) : Int) (a1).toNat).toNat = (a2).toNat then (1 : Int) else 0) u1922›).symm
                have _q : (v1920 + 1) = wsm (xwf e d) (fun n => if (xlot d ((n : Nat) : Int) (a1).toNat).toNat = (a2).toNat then (1 : Int) else 0) (h9 + 1) := by
                  rw [wsm_y _c, _gp]
                  have _sx := _slw (a1).toNat (by omega)
                  show (v1920 + 1) = v1920 + (if (xlot d ((h9 : Nat) : Int) (a1).toNat).toNat = (a2).toNat then (1 : Int) else 0)
                  first
                  | (rw [if_pos (by omega)] <;> omega)
                  | (rw [if_neg (by omega)] <;> omega)
                refine wp_of e249 c249_72 (rw_iinc (pc' := 75) (z := v1919) (L' := [(5, vI (v1919 + 1)), (4, vI (v1920 + 1)), (0, .ref r0), (1, vI a1), (2, vI a2)]) rfl rfl rfl rfl ?_)
                refine wp_of e249 c249_75 (rw_goto (p1 := 32) (by decide) ?_)
                have k1986 : H1967 r0 29 = H1921 r0 29 := (f1972 r0 29 _ g0 rfl)
                have h1987 : KL T H1967 r0 (xwf e d) (xlots d).toNat := (KL_fr w1924 g0 f1972 rfl h1929)
                exact wp_lc (ks := [5, 4, 0, 1, 2]) (wl_c rfl (wl_c rfl (wl_c rfl (wl_c rfl (wl_c rfl wl_n))))) rfl (by decide) (ih1918 _ (by omega) (v1919 + 1) (v1920 + 1) H1967 ((h9 + 1)) w1971 f1976 ⟨by omega, by omega⟩ ⟨by omega, by omega⟩ h1987 (by omega) (by omega) (by omega) (by omega) (_q) rfl)
        exact wp_lc (ks := [5, 4, 3, 0, 1, 2]) (wl_c rfl (wl_c rfl (wl_c rfl (wl_c rfl (wl_c rfl wl_n))))) rfl (by decide) (lp1916 _ 0 0 H1667 0 w1671 wfr.rf ⟨by decide, by decide⟩ ⟨by decide, by decide⟩ h1698 (by omega) (by omega) (rfl) (by omega) (rfl) rfl)
      · exfalso
        omega
    · have f1988 := f1645.tr f1672 rfl
      show wp _ _ 249 15 [(0, .ref r0), (1, vI a1), (2, vI a2)] [vI z1673] _ H1667 _
      refine wp_of e249 c249_15 (rw_istore_n (pc' := 16) (z := z1673) (L' := [(3, vI z1673), (0, .ref r0), (1, vI a1), (2, vI a2)]) rfl rfl rfl ?_)
      refine wp_of e249 c249_16 (rw_iload_n (pc' := 17) (z := z1673) rfl rfl ?_)
      refine wp_of e249 c249_17 (rw_if_le (p1 := 26) (p2 := 20) (by decide) rfl ⟨Int.le_trans (by decide) b1674.1, Int.le_trans b1674.2 (by decide)⟩ (fun c1989 => ?_) (fun c1989 => ?_))
      · exfalso
        omega
      · refine wp_of e249 c249_20 (rw_aload_n (pc' := 21) (v := .ref r0) rfl rfl rfl ?_)
        refine wp_of e249 c249_21 (rw_iload_n (pc' := 22) (z := z1673) rfl rfl ?_)
        refine wp_of e249 c249_22 (xc_V (pc' := 25) (r := r0) (as := [vI z1673]) (st := []) (lm_9_54) rfl rfl (Nat.le_of_ble_eq_true rfl) w1671 g0 sh_42 (by decide) rfl (by decide) (u_170  w1671 g0 ⟨Int.le_trans (by decide) b1674.1, Int.le_trans b1674.2 (by decide)⟩) (fun R1990 T1991 H1992 p1993 => ?_))
        obtain ⟨e1994, w1996, f1997, z1998, e1995, b1999, p2000⟩ := p1993
        subst e1994
        subst e1995
        obtain ⟨a2001, a2002, a2003⟩ := p2000
        have f2004 := f1988.tr f1997 rfl
        show wp _ _ 249 25 [(3, vI z1673), (0, .ref r0), (1, vI a1), (2, vI a2)] [vI z1998] _ H1992 _
        have k2005 : wKI H1992 r0 = wKI H1667 r0 := (wKI_fr w1671 g0 f1997 rfl)
        have h2006 : KNN T H1992 r0 e d := (KNN_fr w1671 g0 f1997 rfl a1691)
        exact wp_ireturn e249 c249_25 rfl ⟨rfl, w1996, f2004, z1998, rfl, ⟨b1999.1, b1999.2⟩, (Or.inl ⟨by omega, by omega, by omega, h2006⟩)⟩
  · show wp _ _ 249 12 [(0, .ref r0), (1, vI a1), (2, vI a2)] [vI z1655, .ref r0] _ H1642 _
    have k2007 : H1642 r0 3 = H r0 3 := (wq_u_j e1643 rfl)
    have k2008 : wKI H1642 r0 = wKI H r0 := (wKI_fr hW g0 ((wfr.rf (l := [(42, 0)])).put' e1643 g0 rfl) rfl)
    have h2009 : KNN T H1642 r0 e d := (KNN_fr hW g0 ((wfr.rf (l := [(42, 0)])).put' e1643 g0 rfl) rfl hKNN_r0)
    refine wp_of e249 c249_12 (xc_V (pc' := 15) (r := r0) (as := [vI z1655]) (st := []) (lm_9_433) rfl rfl (Nat.le_of_ble_eq_true rfl) w1644 g0 sh_42 (by decide) rfl (by decide) (u_241 (e := e) (d := d) w1644 g0 ⟨b1656.1, b1656.2⟩ (by omega) (by omega) (by assumption) (by assumption) (by assumption) (by assumption) h1647 h2009) (fun R2010 T2011 H2012 p2013 => ?_))
    obtain ⟨e2014, w2016, f2017, z2018, e2015, b2019, p2020⟩ := p2013
    subst e2014
    subst e2015
    rcases p2020 with ⟨a2021, a2022, a2023, a2024, a2025, a2026, a2027, a2028, a2029⟩ | ⟨a2030, a2031, a2032, a2033, a2034, a2035, a2036⟩
    · have f2037 := f1645.tr f2017 rfl
      show wp _ _ 249 15 [(0, .ref r0), (1, vI a1), (2, vI a2)] [vI z2018] _ H2012 _
      refine wp_of e249 c249_15 (rw_istore_n (pc' := 16) (z := z2018) (L' := [(3, vI z2018), (0, .ref r0), (1, vI a1), (2, vI a2)]) rfl rfl rfl ?_)
      refine wp_of e249 c249_16 (rw_iload_n (pc' := 17) (z := z2018) rfl rfl ?_)
      have k2038 : H2012 r0 3 = H1642 r0 3 := (f2017 r0 3 _ g0 rfl)
      obtain ⟨r2039, q2040, g2041⟩ := (w2016.opt g0 (t' := 54) (n := 33) (j := 3) (p := 0) (q := 0) rfl (by decide) rfl).resolve_left (by omega)
      have h2042 : RB T H2012 r0 e d := (RB_fr w1644 g0 f2017 rfl h1647)
      have _kbb := a2029
      have _kb := _kbb.1
      have _n3 : H2012 r0 3 ≠ -1 := by omega
      have _rp := RB_at h2042 q2040
      have _k := RP_k _rp
      have _nb := xcn_b (f := xwf e d) (xlots d).toNat
      have h2043 : KL T H2012 r0 (xwf e d) (xlots d).toNat := _kbb.2
      refine wp_of e249 c249_17 (rw_if_le (p1 := 26) (p2 := 20) (by decide) rfl ⟨Int.le_trans (by decide) b2019.1, Int.le_trans b2019.2 (by decide)⟩ (fun c2044 => ?_) (fun c2044 => ?_))
      · refine wp_of e249 c249_26 (rw_iconst (pc' := 27) rfl ?_)
        refine wp_of e249 c249_27 (rw_istore (pc' := 29) (z := 0) (L' := [(4, vI 0), (3, vI z2018), (0, .ref r0), (1, vI a1), (2, vI a2)]) rfl rfl rfl ?_)
        refine wp_of e249 c249_29 (rw_iconst (pc' := 30) rfl ?_)
        refine wp_of e249 c249_30 (rw_istore (pc' := 32) (z := 0) (L' := [(5, vI 0), (4, vI 0), (3, vI z2018), (0, .ref r0), (1, vI a1), (2, vI a2)]) rfl rfl rfl ?_)
        have b2268 : 0 ≤ H2012 r0 29 ∧ H2012 r0 29 ≤ 20000 := w2016.box g0 (n := 33) rfl (by decide) rfl
        have lp2261 : ∀ (n2262 : Nat) (v2264 : Int) (v2265 : Int) (H2266 : wq_H) (u2267 : Nat), WT T H2266 → wfr [(51, 999)] T H2012 H2266 → (0 ≤ v2264 ∧ v2264 ≤ 20000) → (0 ≤ v2265 ∧ v2265 ≤ 20000) → KL T H2266 r0 (xwf e d) (xlots d).toNat → (v2264 ≤ H2266 r0 29) → (u2267 ≤ (xlots d).toNat) → (xcn (xwf e d) u2267 = v2264) → (v2265 ≤ v2264) → (v2265 = wsm (xwf e d) (fun n => if (xlot d ((n : Nat) : Int) (a1).toNat).toNat = (a2).toNat then (1 : Int) else 0) u2267) → (20000 - v2264).toNat = n2262 → wp kt 7 249 32 [(5, vI v2264), (4, vI v2265), (0, .ref r0), (1, vI a1), (2, vI a2)] [] T H2266 (uq_249 r0 a1 a2 e d T H) := by
          intro n2262
          induction n2262 using Nat.strongRecOn with
          | _ n2262 ih2263 =>
            intro v2264 v2265 H2266 u2267 w2269 f2270 b2271 b2272 h2274 x2275 x2276 x2277 x2278 x2279 m2273
            have f2280 := f2037.tr f2270 rfl
            have k2281 : H2266 r0 29 = H2012 r0 29 := (f2270 r0 29 _ g0 rfl)
            refine wp_of e249 c249_32 (rw_iload (pc' := 34) (z := v2264) rfl rfl ?_)
            refine wp_of e249 c249_34 (rw_aload_n (pc' := 35) (v := .ref r0) rfl rfl rfl ?_)
            refine wp_of e249 c249_35 (xg_I (pc' := 38) lf_9_422 w2269 g0 sh_42 (by decide) (by decide) ty_42_29 rfl rfl (fun b2282 b2283 => ?_))
            refine wp_of e249 c249_38 (rw_icmp_ge (p1 := 78) (p2 := 41) (by decide) rfl ⟨Int.le_trans (by decide) b2271.1, Int.le_trans b2271.2 (by decide)⟩ ⟨Int.le_trans (by decide) b2282, Int.le_trans b2283 (by decide)⟩ (fun c2284 => ?_) (fun c2284 => ?_))
            · refine wp_of e249 c249_78 (rw_aload_n (pc' := 79) (v := .ref r0) rfl rfl rfl ?_)
              refine wp_of e249 c249_79 (rw_iload (pc' := 81) (z := v2265) rfl rfl ?_)
              refine wp_of e249 c249_81 (xc_V (pc' := 84) (r := r0) (as := [vI v2265]) (st := []) (lm_9_58) rfl rfl (Nat.le_of_ble_eq_true rfl) w2269 g0 sh_42 (by decide) rfl (by decide) (u_209  w2269 g0 ⟨Int.le_trans (by decide) b2272.1, Int.le_trans b2272.2 (by decide)⟩) (fun R2285 T2286 H2287 p2288 => ?_))
              obtain ⟨e2289, w2291, f2292, z2293, e2290, b2294, p2295⟩ := p2288
              subst e2289
              subst e2290
              obtain ⟨a2296, a2297, a2298⟩ := p2295
              have f2299 := f2280.tr f2292 rfl
              show wp _ _ 249 84 [(5, vI v2264), (4, vI v2265), (0, .ref r0), (1, vI a1), (2, vI a2)] [vI z2293] _ H2287 _
              have k2300 : wKI H2287 r0 = wKI H2012 r0 := ((wKI_fr w2269 g0 f2292 rfl).trans (wKI_fr w2016 g0 f2270 rfl))
              have h2301 : KNN T H2287 r0 e d := (KNN_fr w2269 g0 f2292 rfl (KNN_fr w2016 g0 f2270 rfl a2028))
              exact wp_ireturn e249 c249_84 rfl ⟨rfl, w2291, f2299, z2293, rfl, ⟨b2294.1, b2294.2⟩, (Or.inr ⟨by omega, by omega, by
                show _ = wsm (xwf e d) (fun n => if (xlot d ((n : Nat) : Int) (a1).toNat).toNat = (a2).toNat then (1 : Int) else 0) (xlots d).toNat
                rw [wsm_end (u := u2267) (by omega) (by omega)]
                first | assumption | omega, h2301⟩)⟩
            · obtain ⟨h9, _a, _b, _c, _e, _f⟩ := xcn_nx (f := xwf e d) (u := u2267) (xlots d).toNat (by omega) (by omega)
              have _n9 : xcn (xwf e d) (h9 + 1) = xcn (xwf e d) h9 + 1 := by
                show xcn (xwf e d) h9 + (if xwf e d h9 > 0 then 1 else 0) = _
                rw [if_pos _c]
              refine wp_of e249 c249_41 (rw_aload_n (pc' := 42) (v := .ref r0) rfl rfl rfl ?_)
              refine wp_of e249 c249_42 (rw_aload_n (pc' := 43) (v := .ref r0) rfl rfl rfl ?_)
              refine wp_of e249 c249_43 (xg_R (pc' := 46) lf_9_42 w2269 g0 sh_42 (by decide) (by decide) ty_42_30 rfl rfl (fun r2302 q2303 g2304 => ?_))
              refine wp_of e249 c249_46 (rw_iload (pc' := 48) (z := v2264) rfl rfl ?_)
              refine wp_of e249 c249_48 (xa_I (so := 0) (pc' := 49) w2269 g2304 sh_52 (by decide) (ty_52 _) (b2271.1) (by omega) rfl (fun b2305 b2306 => ?_))
              have _kl := KL_at h2274 q2303 (n := h9) (s := (v2264).toNat) (by omega) _c (by omega)
              have _t9 : H2266 r2302 (v2264.toNat) = ((h9 : Nat) : Int) := by omega
              have _slw : SL d (xlot d ((h9 : Nat) : Int)) := SL_lot _xw.1 (by omega) (by omega)
              have k2307 : H2266 r0 3 = H2012 r0 3 := (f2270 r0 3 _ g0 rfl)
              have q2308 : H2266 r0 3 = (r2039 : Int) := k2307.trans q2040
              have h2309 : RB T H2266 r0 e d := (RB_fr w2016 g0 f2270 rfl h2042)
              refine wp_of e249 c249_49 (xc_V (pc' := 52) (r := r0) (as := [vI (H2266 r2302 (v2264.toNat))]) (st := []) (lm_9_425) rfl rfl (Nat.le_of_ble_eq_true rfl) w2269 g0 sh_42 (by decide) rfl (by decide) (u_243 (e := e) (d := d) w2269 g0 ⟨b2305, Int.le_trans b2306 (by decide)⟩ q2308 g2041 (by omega) h2309) (fun R2310 T2311 H2312 p2313 => ?_))
              obtain ⟨e2314, w2316, f2317, e2315, p2318⟩ := p2313
              subst e2314
              subst e2315
              have f2320 := f2280.tr f2317 rfl
              have f2321 := f2270.tr f2317 rfl
              show wp _ _ 249 52 [(5, vI v2264), (4, vI v2265), (0, .ref r0), (1, vI a1), (2, vI a2)] [] _ H2312 _
              have h2322 : LQ27 T H2312 r0 0 (d 0 3) (xlot d ((h9 : Nat) : Int)) := by rw [← _t9]; exact p2318
              refine wp_of e249 c249_52 (rw_iload (pc' := 54) (z := v2265) rfl rfl ?_)
              refine wp_of e249 c249_54 (rw_aload_n (pc' := 55) (v := .ref r0) rfl rfl rfl ?_)
              refine wp_of e249 c249_55 (xg_R (pc' := 58) lf_9_39 w2316 g0 sh_42 (by decide) (by decide) ty_42_27 rfl rfl (fun r2323 q2324 g2325 => ?_))
              refine wp_of e249 c249_58 (rw_iload_n (pc' := 59) (z := a1) rfl rfl ?_)
              refine wp_of e249 c249_59 (xa_I (so := 0) (pc' := 60) w2316 g2325 sh_51 (by decide) (ty_51 _) (by omega) (by omega) rfl (fun b2326 b2327 => ?_))
              have := LR_at h2322 q2324 (k := (a1.toNat)) (by omega) (by omega)
              refine wp_of e249 c249_60 (rw_iload_n (pc' := 61) (z := a2) rfl rfl ?_)
              refine wp_of e249 c249_61 (rw_icmp_ne (p1 := 68) (p2 := 64) (by decide) rfl ⟨Int.le_trans (by decide) b2326, Int.le_trans b2327 (by decide)⟩ ⟨i2.1, i2.2⟩ (fun c2328 => ?_) (fun c2328 => ?_))
              · refine wp_of e249 c249_68 (rw_iconst (pc' := 69) rfl ?_)
                refine wp_of e249 c249_69 (rw_iadd (pc' := 70) rfl ?_)
                refine wp_of e249 c249_70 (rw_istore (pc' := 72) (z := v2265 + 0) (L' := [(4, vI (v2265 + 0)), (5, vI v2264), (0, .ref r0), (1, vI a1), (2, vI a2)]) rfl rfl rfl ?_)
                have _gp : wsm (xwf e d) (fun n => if (xlot d ((n : Nat) : Int) (a1).toNat).toNat = (a2).toNat then (1 : Int) else 0) h9 = v2265 := by
                  rw [wsm_gap _a _f]
                  exact (‹v2265 = wsm (xwf e d) (fun n => if (xlot d ((n : Nat) : Int) (a1).toNat).toNat = (a2).toNat then (1 : Int) else 0) u2267›).symm
                have _q : (v2265 + 0) = wsm (xwf e d) (fun n => if (xlot d ((n : Nat) : Int) (a1).toNat).toNat = (a2).toNat then (1 : Int) else 0) (h9 + 1) := by
                  rw [wsm_y _c, _gp]
                  have _sx := _slw (a1).toNat (by omega)
                  show (v2265 + 0) = v2265 + (if (xlot d ((h9 : Nat) : Int) (a1).toNat).toNat = (a2).toNat then (1 : Int) else 0)
                  first
                  | (rw [if_pos (by omega)] <;> omega)
                  | (rw [if_neg (by omega)] <;> omega)
                refine wp_of e249 c249_72 (rw_iinc (pc' := 75) (z := v2264) (L' := [(5, vI (v2264 + 1)), (4, vI (v2265 + 0)), (0, .ref r0), (1, vI a1), (2, vI a2)]) rfl rfl rfl rfl ?_)
                refine wp_of e249 c249_75 (rw_goto (p1 := 32) (by decide) ?_)
                have k2329 : H2312 r0 29 = H2266 r0 29 := (f2317 r0 29 _ g0 rfl)
                have h2330 : KL T H2312 r0 (xwf e d) (xlots d).toNat := (KL_fr w2269 g0 f2317 rfl h2274)
                exact wp_lc (ks := [5, 4, 0, 1, 2]) (wl_c rfl (wl_c rfl (wl_c rfl (wl_c rfl (wl_c rfl wl_n))))) rfl (by decide) (ih2263 _ (by omega) (v2264 + 1) (v2265 + 0) H2312 ((h9 + 1)) w2316 f2321 ⟨by omega, by omega⟩ ⟨by omega, by omega⟩ h2330 (by omega) (by omega) (by omega) (by omega) (_q) rfl)
              · refine wp_of e249 c249_64 (rw_iconst (pc' := 65) rfl ?_)
                refine wp_of e249 c249_65 (rw_goto (p1 := 69) (by decide) ?_)
                refine wp_of e249 c249_69 (rw_iadd (pc' := 70) rfl ?_)
                refine wp_of e249 c249_70 (rw_istore (pc' := 72) (z := v2265 + 1) (L' := [(4, vI (v2265 + 1)), (5, vI v2264), (0, .ref r0), (1, vI a1), (2, vI a2)]) rfl rfl rfl ?_)
                have _gp : wsm (xwf e d) (fun n => if (xlot d ((n : Nat) : Int) (a1).toNat).toNat = (a2).toNat then (1 : Int) else 0) h9 = v2265 := by
                  rw [wsm_gap _a _f]
                  exact (‹v2265 = wsm (xwf e d) (fun n => if (xlot d ((n : Nat) : Int) (a1).toNat).toNat = (a2).toNat then (1 : Int) else 0) u2267›).symm
                have _q : (v2265 + 1) = wsm (xwf e d) (fun n => if (xlot d ((n : Nat) : Int) (a1).toNat).toNat = (a2).toNat then (1 : Int) else 0) (h9 + 1) := by
                  rw [wsm_y _c, _gp]
                  have _sx := _slw (a1).toNat (by omega)
                  show (v2265 + 1) = v2265 + (if (xlot d ((h9 : Nat) : Int) (a1).toNat).toNat = (a2).toNat then (1 : Int) else 0)
                  first
                  | (rw [if_pos (by omega)] <;> omega)
                  | (rw [if_neg (by omega)] <;> omega)
                refine wp_of e249 c249_72 (rw_iinc (pc' := 75) (z := v2264) (L' := [(5, vI (v2264 + 1)), (4, vI (v2265 + 1)), (0, .ref r0), (1, vI a1), (2, vI a2)]) rfl rfl rfl rfl ?_)
                refine wp_of e249 c249_75 (rw_goto (p1 := 32) (by decide) ?_)
                have k2331 : H2312 r0 29 = H2266 r0 29 := (f2317 r0 29 _ g0 rfl)
                have h2332 : KL T H2312 r0 (xwf e d) (xlots d).toNat := (KL_fr w2269 g0 f2317 rfl h2274)
                exact wp_lc (ks := [5, 4, 0, 1, 2]) (wl_c rfl (wl_c rfl (wl_c rfl (wl_c rfl (wl_c rfl wl_n))))) rfl (by decide) (ih2263 _ (by omega) (v2264 + 1) (v2265 + 1) H2312 ((h9 + 1)) w2316 f2321 ⟨by omega, by omega⟩ ⟨by omega, by omega⟩ h2332 (by omega) (by omega) (by omega) (by omega) (_q) rfl)
        exact wp_lc (ks := [5, 4, 3, 0, 1, 2]) (wl_c rfl (wl_c rfl (wl_c rfl (wl_c rfl (wl_c rfl wl_n))))) rfl (by decide) (lp2261 _ 0 0 H2012 0 w2016 wfr.rf ⟨by decide, by decide⟩ ⟨by decide, by decide⟩ h2043 (by omega) (by omega) (rfl) (by omega) (rfl) rfl)
      · exfalso
        omega
    · have f2333 := f1645.tr f2017 rfl
      show wp _ _ 249 15 [(0, .ref r0), (1, vI a1), (2, vI a2)] [vI z2018] _ H2012 _
      refine wp_of e249 c249_15 (rw_istore_n (pc' := 16) (z := z2018) (L' := [(3, vI z2018), (0, .ref r0), (1, vI a1), (2, vI a2)]) rfl rfl rfl ?_)
      refine wp_of e249 c249_16 (rw_iload_n (pc' := 17) (z := z2018) rfl rfl ?_)
      refine wp_of e249 c249_17 (rw_if_le (p1 := 26) (p2 := 20) (by decide) rfl ⟨Int.le_trans (by decide) b2019.1, Int.le_trans b2019.2 (by decide)⟩ (fun c2334 => ?_) (fun c2334 => ?_))
      · exfalso
        omega
      · refine wp_of e249 c249_20 (rw_aload_n (pc' := 21) (v := .ref r0) rfl rfl rfl ?_)
        refine wp_of e249 c249_21 (rw_iload_n (pc' := 22) (z := z2018) rfl rfl ?_)
        refine wp_of e249 c249_22 (xc_V (pc' := 25) (r := r0) (as := [vI z2018]) (st := []) (lm_9_54) rfl rfl (Nat.le_of_ble_eq_true rfl) w2016 g0 sh_42 (by decide) rfl (by decide) (u_170  w2016 g0 ⟨Int.le_trans (by decide) b2019.1, Int.le_trans b2019.2 (by decide)⟩) (fun R2335 T2336 H2337 p2338 => ?_))
        obtain ⟨e2339, w2341, f2342, z2343, e2340, b2344, p2345⟩ := p2338
        subst e2339
        subst e2340
        obtain ⟨a2346, a2347, a2348⟩ := p2345
        have f2349 := f2333.tr f2342 rfl
        show wp _ _ 249 25 [(3, vI z2018), (0, .ref r0), (1, vI a1), (2, vI a2)] [vI z2343] _ H2337 _
        have k2350 : wKI H2337 r0 = wKI H2012 r0 := (wKI_fr w2016 g0 f2342 rfl)
        have h2351 : KNN T H2337 r0 e d := (KNN_fr w2016 g0 f2342 rfl a2036)
        exact wp_ireturn e249 c249_25 rfl ⟨rfl, w2341, f2349, z2343, rfl, ⟨b2344.1, b2344.2⟩, (Or.inl ⟨by omega, by omega, by omega, h2351⟩)⟩
/-! StrikeAwakeModel.times(II)I  -/
abbrev uq_250 (r0 : Nat) (a1 : Int) (a2 : Int) (e : xD) (d : xD) (T : wq_T) (H : wq_H) : Option Value → wq_T → wq_H → Prop := fun r T' H' => T = T' ∧ WT T H' ∧ wfr [(42, 0), (42, 1), (42, 2), (42, 28), (42, 29), (51, 999), (52, 999)] T H H' ∧ ∃ z : Int, some (vI z) = r ∧ ((-2147483648) ≤ z ∧ z ≤ 2147483647) ∧ (((wKI H' r0 = 1) ∧ KNN T H' r0 e d))
set_option maxHeartbeats 4000000 in
theorem u_250 {kt : Nat → Option mc_E} {T : wq_T} {H : wq_H} {r0 : Nat} {a1 : Int} {a2 : Int} {e : xD} {d : xD} (hW : WT T H) (g0 : T.2.2.2 r0 = some 42) (i1 : (-2147483648) ≤ a1 ∧ a1 ≤ 2147483647) (i2 : (-2147483648) ≤ a2 ∧ a2 ≤ 2147483647) (p0 : wKI H r0 = 1) (p1 : XW d) (p2 : ∀ h : Nat, d 0 0 ≤ (h : Int) → h < 24 → e 13 h = 0) (p3 : XN d) (p4 : ∀ h : Nat, h < 24 → 0 ≤ e 13 h ∧ e 13 h ≤ 100) (hRB_r0 : RB T H r0 e d) (hKNN_r0 : KNN T H r0 e d) : wpc kt 8 250 [.ref r0, vI a1, vI a2] T H (uq_250 r0 a1 a2 e d T H) := by
  refine wp_enter e250 (Nat.le_of_ble_eq_true rfl) rfl ?_
  have f0 : wfr [(42, 0), (42, 1), (42, 2), (42, 28), (42, 29), (51, 999), (52, 999)] T H H := wfr.rf
  show wp _ _ 250 0 [(0, .ref r0), (1, vI a1), (2, vI a2)] [] _ H _
  have _b := RB_b hW hRB_r0
  have _nu := RB_n3 hRB_r0
  have _lm := RB_lm hRB_r0
  refine wp_of e250 c250_0 (rw_aload_n (pc' := 1) (v := .ref r0) rfl rfl rfl ?_)
  refine wp_of e250 c250_1 (rw_iconst (pc' := 2) rfl ?_)
  refine wp_of e250 c250_2 (xp_I (pc' := 5) lf_9_48 hW g0 sh_42 (by decide) (by decide) ty_42_0 rfl rfl (by decide) (by decide) ⟨by decide, by decide⟩ rfl (fun H1238 e1239 w1240 => ?_))
  have f1241 := f0.put' e1239 g0 rfl
  have k1242 : H1238 r0 0 = 0 := wq_u_s e1239
  refine wp_of e250 c250_5 (rw_aload_n (pc' := 6) (v := .ref r0) rfl rfl rfl ?_)
  refine wp_of e250 c250_6 (rw_aload_n (pc' := 7) (v := .ref r0) rfl rfl rfl ?_)
  refine wp_of e250 c250_7 (rw_iload_n (pc' := 8) (z := a1) rfl rfl ?_)
  refine wp_of e250 c250_8 (xc_V (pc' := 11) (r := r0) (as := [vI a1]) (st := [.ref r0]) (lm_9_364) rfl rfl (Nat.le_of_ble_eq_true rfl) w1240 g0 sh_42 (by decide) rfl (by decide) (s_213 w1240 g0 ⟨i1.1, i1.2⟩) (fun R1243 T1244 H1245 p1246 => ?_))
  obtain ⟨e1247, e1249, z1251, e1248, b1252, p1250⟩ := p1246
  subst e1247
  subst e1248
  subst e1249
  show wp _ _ 250 11 [(0, .ref r0), (1, vI a1), (2, vI a2)] [vI z1251, .ref r0] _ H1238 _
  refine wp_of e250 c250_11 (rw_if_eq (p1 := 26) (p2 := 14) (by decide) rfl ⟨Int.le_trans (by decide) b1252.1, Int.le_trans b1252.2 (by decide)⟩ (fun c1253 => ?_) (fun c1253 => ?_))
  · refine wp_of e250 c250_26 (rw_iconst (pc' := 27) rfl ?_)
    have k1254 : H1238 r0 3 = H r0 3 := (wq_u_j e1239 rfl)
    have k1255 : wKI H1238 r0 = wKI H r0 := (wKI_fr hW g0 ((wfr.rf (l := [(42, 0)])).put' e1239 g0 rfl) rfl)
    have h1256 : RB T H1238 r0 e d := (RB_fr hW g0 ((wfr.rf (l := [(42, 0)])).put' e1239 g0 rfl) rfl hRB_r0)
    have h1257 : KNN T H1238 r0 e d := (KNN_fr hW g0 ((wfr.rf (l := [(42, 0)])).put' e1239 g0 rfl) rfl hKNN_r0)
    refine wp_of e250 c250_27 (xc_V (pc' := 30) (r := r0) (as := [vI 0]) (st := []) (lm_9_433) rfl rfl (Nat.le_of_ble_eq_true rfl) w1240 g0 sh_42 (by decide) rfl (by decide) (u_241 (e := e) (d := d) w1240 g0 ⟨by decide, by decide⟩ (by omega) (by omega) (by assumption) (by assumption) (by assumption) (by assumption) h1256 h1257) (fun R1258 T1259 H1260 p1261 => ?_))
    obtain ⟨e1262, w1264, f1265, z1266, e1263, b1267, p1268⟩ := p1261
    subst e1262
    subst e1263
    rcases p1268 with ⟨a1269, a1270, a1271, a1272, a1273, a1274, a1275, a1276, a1277⟩ | ⟨a1278, a1279, a1280, a1281, a1282, a1283, a1284⟩
    · have f1285 := f1241.tr f1265 rfl
      show wp _ _ 250 30 [(0, .ref r0), (1, vI a1), (2, vI a2)] [vI z1266] _ H1260 _
      refine wp_of e250 c250_30 (rw_istore_n (pc' := 31) (z := z1266) (L' := [(3, vI z1266), (0, .ref r0), (1, vI a1), (2, vI a2)]) rfl rfl rfl ?_)
      refine wp_of e250 c250_31 (rw_iload_n (pc' := 32) (z := z1266) rfl rfl ?_)
      refine wp_of e250 c250_32 (rw_if_le (p1 := 43) (p2 := 35) (by decide) rfl ⟨Int.le_trans (by decide) b1267.1, Int.le_trans b1267.2 (by decide)⟩ (fun c1286 => ?_) (fun c1286 => ?_))
      · refine wp_of e250 c250_43 (rw_aload_n (pc' := 44) (v := .ref r0) rfl rfl rfl ?_)
        refine wp_of e250 c250_44 (rw_aload_n (pc' := 45) (v := .ref r0) rfl rfl rfl ?_)
        refine wp_of e250 c250_45 (rw_iload_n (pc' := 46) (z := a1) rfl rfl ?_)
        refine wp_of e250 c250_46 (rw_iload_n (pc' := 47) (z := a2) rfl rfl ?_)
        have k1287 : H1260 r0 3 = H1238 r0 3 := (f1265 r0 3 _ g0 rfl)
        obtain ⟨r1288, q1289, g1290⟩ := (w1264.opt g0 (t' := 54) (n := 33) (j := 3) (p := 0) (q := 0) rfl (by decide) rfl).resolve_left (by omega)
        refine wp_of e250 c250_47 (xc_V (pc' := 50) (r := r0) (as := [vI a1, vI a2]) (st := [.ref r0]) (lm_9_444) rfl rfl (Nat.le_of_ble_eq_true rfl) w1264 g0 sh_42 (by decide) rfl (by decide) (s_251 w1264 g0 ⟨by omega, by omega⟩ ⟨i2.1, i2.2⟩ q1289 g1290 (by omega)) (fun R1291 T1292 H1293 p1294 => ?_))
        obtain ⟨e1295, w1297, f1298, z1299, e1296, b1300⟩ := p1294
        subst e1295
        subst e1296
        have f1301 := f1285.tr f1298 rfl
        show wp _ _ 250 50 [(3, vI z1266), (0, .ref r0), (1, vI a1), (2, vI a2)] [vI z1299, .ref r0] _ H1293 _
        refine wp_of e250 c250_50 (xc_V (pc' := 53) (r := r0) (as := [vI z1299]) (st := []) (lm_9_58) rfl rfl (Nat.le_of_ble_eq_true rfl) w1297 g0 sh_42 (by decide) rfl (by decide) (s_209 w1297 g0 ⟨b1300.1, b1300.2⟩) (fun R1302 T1303 H1304 p1305 => ?_))
        obtain ⟨e1306, w1308, f1309, z1310, e1307, b1311⟩ := p1305
        subst e1306
        subst e1307
        have f1312 := f1301.tr f1309 rfl
        show wp _ _ 250 53 [(3, vI z1266), (0, .ref r0), (1, vI a1), (2, vI a2)] [vI z1310] _ H1304 _
        have k1313 : wKI H1304 r0 = wKI H1260 r0 := ((wKI_fr w1297 g0 f1309 rfl).trans (wKI_fr w1264 g0 f1298 rfl))
        have h1314 : KNN T H1304 r0 e d := (KNN_fr w1297 g0 f1309 rfl (KNN_fr w1264 g0 f1298 rfl a1276))
        exact wp_ireturn e250 c250_53 rfl ⟨rfl, w1308, f1312, z1310, rfl, ⟨b1311.1, b1311.2⟩, ⟨by omega, h1314⟩⟩
      · exfalso
        omega
    · have f1315 := f1241.tr f1265 rfl
      show wp _ _ 250 30 [(0, .ref r0), (1, vI a1), (2, vI a2)] [vI z1266] _ H1260 _
      refine wp_of e250 c250_30 (rw_istore_n (pc' := 31) (z := z1266) (L' := [(3, vI z1266), (0, .ref r0), (1, vI a1), (2, vI a2)]) rfl rfl rfl ?_)
      refine wp_of e250 c250_31 (rw_iload_n (pc' := 32) (z := z1266) rfl rfl ?_)
      refine wp_of e250 c250_32 (rw_if_le (p1 := 43) (p2 := 35) (by decide) rfl ⟨Int.le_trans (by decide) b1267.1, Int.le_trans b1267.2 (by decide)⟩ (fun c1316 => ?_) (fun c1316 => ?_))
      · exfalso
        omega
      · refine wp_of e250 c250_35 (rw_aload_n (pc' := 36) (v := .ref r0) rfl rfl rfl ?_)
        refine wp_of e250 c250_36 (rw_iload_n (pc' := 37) (z := z1266) rfl rfl ?_)
        refine wp_of e250 c250_37 (xc_V (pc' := 40) (r := r0) (as := [vI z1266]) (st := []) (lm_9_54) rfl rfl (Nat.le_of_ble_eq_true rfl) w1264 g0 sh_42 (by decide) rfl (by decide) (s_170 w1264 g0 ⟨Int.le_trans (by decide) b1267.1, Int.le_trans b1267.2 (by decide)⟩) (fun R1317 T1318 H1319 p1320 => ?_))
        obtain ⟨e1321, w1323, f1324, z1325, e1322, b1326⟩ := p1320
        subst e1321
        subst e1322
        have f1327 := f1315.tr f1324 rfl
        show wp _ _ 250 40 [(3, vI z1266), (0, .ref r0), (1, vI a1), (2, vI a2)] [vI z1325] _ H1319 _
        refine wp_of e250 c250_40 (rw_goto (p1 := 53) (by decide) ?_)
        have k1328 : wKI H1319 r0 = wKI H1260 r0 := (wKI_fr w1264 g0 f1324 rfl)
        have h1329 : KNN T H1319 r0 e d := (KNN_fr w1264 g0 f1324 rfl a1284)
        exact wp_ireturn e250 c250_53 rfl ⟨rfl, w1323, f1327, z1325, rfl, ⟨b1326.1, b1326.2⟩, ⟨by omega, h1329⟩⟩
  · refine wp_of e250 c250_14 (rw_aload_n (pc' := 15) (v := .ref r0) rfl rfl rfl ?_)
    refine wp_of e250 c250_15 (rw_iload_n (pc' := 16) (z := a2) rfl rfl ?_)
    refine wp_of e250 c250_16 (xc_V (pc' := 19) (r := r0) (as := [vI a2]) (st := [.ref r0]) (lm_9_373) rfl rfl (Nat.le_of_ble_eq_true rfl) w1240 g0 sh_42 (by decide) rfl (by decide) (s_218 w1240 g0 ⟨i2.1, i2.2⟩) (fun R1330 T1331 H1332 p1333 => ?_))
    obtain ⟨e1334, e1336, z1338, e1335, b1339, p1337⟩ := p1333
    subst e1334
    subst e1335
    subst e1336
    show wp _ _ 250 19 [(0, .ref r0), (1, vI a1), (2, vI a2)] [vI z1338, .ref r0] _ H1238 _
    refine wp_of e250 c250_19 (rw_if_eq (p1 := 26) (p2 := 22) (by decide) rfl ⟨Int.le_trans (by decide) b1339.1, Int.le_trans b1339.2 (by decide)⟩ (fun c1340 => ?_) (fun c1340 => ?_))
    · refine wp_of e250 c250_26 (rw_iconst (pc' := 27) rfl ?_)
      have k1341 : H1238 r0 3 = H r0 3 := (wq_u_j e1239 rfl)
      have k1342 : wKI H1238 r0 = wKI H r0 := (wKI_fr hW g0 ((wfr.rf (l := [(42, 0)])).put' e1239 g0 rfl) rfl)
      have h1343 : RB T H1238 r0 e d := (RB_fr hW g0 ((wfr.rf (l := [(42, 0)])).put' e1239 g0 rfl) rfl hRB_r0)
      have h1344 : KNN T H1238 r0 e d := (KNN_fr hW g0 ((wfr.rf (l := [(42, 0)])).put' e1239 g0 rfl) rfl hKNN_r0)
      refine wp_of e250 c250_27 (xc_V (pc' := 30) (r := r0) (as := [vI 0]) (st := []) (lm_9_433) rfl rfl (Nat.le_of_ble_eq_true rfl) w1240 g0 sh_42 (by decide) rfl (by decide) (u_241 (e := e) (d := d) w1240 g0 ⟨by decide, by decide⟩ (by omega) (by omega) (by assumption) (by assumption) (by assumption) (by assumption) h1343 h1344) (fun R1345 T1346 H1347 p1348 => ?_))
      obtain ⟨e1349, w1351, f1352, z1353, e1350, b1354, p1355⟩ := p1348
      subst e1349
      subst e1350
      rcases p1355 with ⟨a1356, a1357, a1358, a1359, a1360, a1361, a1362, a1363, a1364⟩ | ⟨a1365, a1366, a1367, a1368, a1369, a1370, a1371⟩
      · have f1372 := f1241.tr f1352 rfl
        show wp _ _ 250 30 [(0, .ref r0), (1, vI a1), (2, vI a2)] [vI z1353] _ H1347 _
        refine wp_of e250 c250_30 (rw_istore_n (pc' := 31) (z := z1353) (L' := [(3, vI z1353), (0, .ref r0), (1, vI a1), (2, vI a2)]) rfl rfl rfl ?_)
        refine wp_of e250 c250_31 (rw_iload_n (pc' := 32) (z := z1353) rfl rfl ?_)
        refine wp_of e250 c250_32 (rw_if_le (p1 := 43) (p2 := 35) (by decide) rfl ⟨Int.le_trans (by decide) b1354.1, Int.le_trans b1354.2 (by decide)⟩ (fun c1373 => ?_) (fun c1373 => ?_))
        · refine wp_of e250 c250_43 (rw_aload_n (pc' := 44) (v := .ref r0) rfl rfl rfl ?_)
          refine wp_of e250 c250_44 (rw_aload_n (pc' := 45) (v := .ref r0) rfl rfl rfl ?_)
          refine wp_of e250 c250_45 (rw_iload_n (pc' := 46) (z := a1) rfl rfl ?_)
          refine wp_of e250 c250_46 (rw_iload_n (pc' := 47) (z := a2) rfl rfl ?_)
          have k1374 : H1347 r0 3 = H1238 r0 3 := (f1352 r0 3 _ g0 rfl)
          obtain ⟨r1375, q1376, g1377⟩ := (w1351.opt g0 (t' := 54) (n := 33) (j := 3) (p := 0) (q := 0) rfl (by decide) rfl).resolve_left (by omega)
          refine wp_of e250 c250_47 (xc_V (pc' := 50) (r := r0) (as := [vI a1, vI a2]) (st := [.ref r0]) (lm_9_444) rfl rfl (Nat.le_of_ble_eq_true rfl) w1351 g0 sh_42 (by decide) rfl (by decide) (s_251 w1351 g0 ⟨by omega, by omega⟩ ⟨i2.1, i2.2⟩ q1376 g1377 (by omega)) (fun R1378 T1379 H1380 p1381 => ?_))
          obtain ⟨e1382, w1384, f1385, z1386, e1383, b1387⟩ := p1381
          subst e1382
          subst e1383
          have f1388 := f1372.tr f1385 rfl
          show wp _ _ 250 50 [(3, vI z1353), (0, .ref r0), (1, vI a1), (2, vI a2)] [vI z1386, .ref r0] _ H1380 _
          refine wp_of e250 c250_50 (xc_V (pc' := 53) (r := r0) (as := [vI z1386]) (st := []) (lm_9_58) rfl rfl (Nat.le_of_ble_eq_true rfl) w1384 g0 sh_42 (by decide) rfl (by decide) (s_209 w1384 g0 ⟨b1387.1, b1387.2⟩) (fun R1389 T1390 H1391 p1392 => ?_))
          obtain ⟨e1393, w1395, f1396, z1397, e1394, b1398⟩ := p1392
          subst e1393
          subst e1394
          have f1399 := f1388.tr f1396 rfl
          show wp _ _ 250 53 [(3, vI z1353), (0, .ref r0), (1, vI a1), (2, vI a2)] [vI z1397] _ H1391 _
          have k1400 : wKI H1391 r0 = wKI H1347 r0 := ((wKI_fr w1384 g0 f1396 rfl).trans (wKI_fr w1351 g0 f1385 rfl))
          have h1401 : KNN T H1391 r0 e d := (KNN_fr w1384 g0 f1396 rfl (KNN_fr w1351 g0 f1385 rfl a1363))
          exact wp_ireturn e250 c250_53 rfl ⟨rfl, w1395, f1399, z1397, rfl, ⟨b1398.1, b1398.2⟩, ⟨by omega, h1401⟩⟩
        · exfalso
          omega
      · have f1402 := f1241.tr f1352 rfl
        show wp _ _ 250 30 [(0, .ref r0), (1, vI a1), (2, vI a2)] [vI z1353] _ H1347 _
        refine wp_of e250 c250_30 (rw_istore_n (pc' := 31) (z := z1353) (L' := [(3, vI z1353), (0, .ref r0), (1, vI a1), (2, vI a2)]) rfl rfl rfl ?_)
        refine wp_of e250 c250_31 (rw_iload_n (pc' := 32) (z := z1353) rfl rfl ?_)
        refine wp_of e250 c250_32 (rw_if_le (p1 := 43) (p2 := 35) (by decide) rfl ⟨Int.le_trans (by decide) b1354.1, Int.le_trans b1354.2 (by decide)⟩ (fun c1403 => ?_) (fun c1403 => ?_))
        · exfalso
          omega
        · refine wp_of e250 c250_35 (rw_aload_n (pc' := 36) (v := .ref r0) rfl rfl rfl ?_)
          refine wp_of e250 c250_36 (rw_iload_n (pc' := 37) (z := z1353) rfl rfl ?_)
          refine wp_of e250 c250_37 (xc_V (pc' := 40) (r := r0) (as := [vI z1353]) (st := []) (lm_9_54) rfl rfl (Nat.le_of_ble_eq_true rfl) w1351 g0 sh_42 (by decide) rfl (by decide) (s_170 w1351 g0 ⟨Int.le_trans (by decide) b1354.1, Int.le_trans b1354.2 (by decide)⟩) (fun R1404 T1405 H1406 p1407 => ?_))
          obtain ⟨e1408, w1410, f1411, z1412, e1409, b1413⟩ := p1407
          subst e1408
          subst e1409
          have f1414 := f1402.tr f1411 rfl
          show wp _ _ 250 40 [(3, vI z1353), (0, .ref r0), (1, vI a1), (2, vI a2)] [vI z1412] _ H1406 _
          refine wp_of e250 c250_40 (rw_goto (p1 := 53) (by decide) ?_)
          have k1415 : wKI H1406 r0 = wKI H1347 r0 := (wKI_fr w1351 g0 f1411 rfl)
          have h1416 : KNN T H1406 r0 e d := (KNN_fr w1351 g0 f1411 rfl a1371)
          exact wp_ireturn e250 c250_53 rfl ⟨rfl, w1410, f1414, z1412, rfl, ⟨b1413.1, b1413.2⟩, ⟨by omega, h1416⟩⟩
    · refine wp_of e250 c250_22 (rw_iconst (pc' := 23) rfl ?_)
      refine wp_of e250 c250_23 (rw_goto (p1 := 27) (by decide) ?_)
      have k1417 : H1238 r0 3 = H r0 3 := (wq_u_j e1239 rfl)
      have k1418 : wKI H1238 r0 = wKI H r0 := (wKI_fr hW g0 ((wfr.rf (l := [(42, 0)])).put' e1239 g0 rfl) rfl)
      have h1419 : RB T H1238 r0 e d := (RB_fr hW g0 ((wfr.rf (l := [(42, 0)])).put' e1239 g0 rfl) rfl hRB_r0)
      have h1420 : KNN T H1238 r0 e d := (KNN_fr hW g0 ((wfr.rf (l := [(42, 0)])).put' e1239 g0 rfl) rfl hKNN_r0)
      refine wp_of e250 c250_27 (xc_V (pc' := 30) (r := r0) (as := [vI 1]) (st := []) (lm_9_433) rfl rfl (Nat.le_of_ble_eq_true rfl) w1240 g0 sh_42 (by decide) rfl (by decide) (u_241 (e := e) (d := d) w1240 g0 ⟨by decide, by decide⟩ (by omega) (by omega) (by assumption) (by assumption) (by assumption) (by assumption) h1419 h1420) (fun R1421 T1422 H1423 p1424 => ?_))
      obtain ⟨e1425, w1427, f1428, z1429, e1426, b1430, p1431⟩ := p1424
      subst e1425
      subst e1426
      rcases p1431 with ⟨a1432, a1433, a1434, a1435, a1436, a1437, a1438, a1439, a1440⟩ | ⟨a1441, a1442, a1443, a1444, a1445, a1446, a1447⟩
      · have f1448 := f1241.tr f1428 rfl
        show wp _ _ 250 30 [(0, .ref r0), (1, vI a1), (2, vI a2)] [vI z1429] _ H1423 _
        refine wp_of e250 c250_30 (rw_istore_n (pc' := 31) (z := z1429) (L' := [(3, vI z1429), (0, .ref r0), (1, vI a1), (2, vI a2)]) rfl rfl rfl ?_)
        refine wp_of e250 c250_31 (rw_iload_n (pc' := 32) (z := z1429) rfl rfl ?_)
        refine wp_of e250 c250_32 (rw_if_le (p1 := 43) (p2 := 35) (by decide) rfl ⟨Int.le_trans (by decide) b1430.1, Int.le_trans b1430.2 (by decide)⟩ (fun c1449 => ?_) (fun c1449 => ?_))
        · refine wp_of e250 c250_43 (rw_aload_n (pc' := 44) (v := .ref r0) rfl rfl rfl ?_)
          refine wp_of e250 c250_44 (rw_aload_n (pc' := 45) (v := .ref r0) rfl rfl rfl ?_)
          refine wp_of e250 c250_45 (rw_iload_n (pc' := 46) (z := a1) rfl rfl ?_)
          refine wp_of e250 c250_46 (rw_iload_n (pc' := 47) (z := a2) rfl rfl ?_)
          have k1450 : H1423 r0 3 = H1238 r0 3 := (f1428 r0 3 _ g0 rfl)
          obtain ⟨r1451, q1452, g1453⟩ := (w1427.opt g0 (t' := 54) (n := 33) (j := 3) (p := 0) (q := 0) rfl (by decide) rfl).resolve_left (by omega)
          refine wp_of e250 c250_47 (xc_V (pc' := 50) (r := r0) (as := [vI a1, vI a2]) (st := [.ref r0]) (lm_9_444) rfl rfl (Nat.le_of_ble_eq_true rfl) w1427 g0 sh_42 (by decide) rfl (by decide) (s_251 w1427 g0 ⟨by omega, by omega⟩ ⟨i2.1, i2.2⟩ q1452 g1453 (by omega)) (fun R1454 T1455 H1456 p1457 => ?_))
          obtain ⟨e1458, w1460, f1461, z1462, e1459, b1463⟩ := p1457
          subst e1458
          subst e1459
          have f1464 := f1448.tr f1461 rfl
          show wp _ _ 250 50 [(3, vI z1429), (0, .ref r0), (1, vI a1), (2, vI a2)] [vI z1462, .ref r0] _ H1456 _
          refine wp_of e250 c250_50 (xc_V (pc' := 53) (r := r0) (as := [vI z1462]) (st := []) (lm_9_58) rfl rfl (Nat.le_of_ble_eq_true rfl) w1460 g0 sh_42 (by decide) rfl (by decide) (s_209 w1460 g0 ⟨b1463.1, b1463.2⟩) (fun R1465 T1466 H1467 p1468 => ?_))
          obtain ⟨e1469, w1471, f1472, z1473, e1470, b1474⟩ := p1468
          subst e1469
          subst e1470
          have f1475 := f1464.tr f1472 rfl
          show wp _ _ 250 53 [(3, vI z1429), (0, .ref r0), (1, vI a1), (2, vI a2)] [vI z1473] _ H1467 _
          have k1476 : wKI H1467 r0 = wKI H1423 r0 := ((wKI_fr w1460 g0 f1472 rfl).trans (wKI_fr w1427 g0 f1461 rfl))
          have h1477 : KNN T H1467 r0 e d := (KNN_fr w1460 g0 f1472 rfl (KNN_fr w1427 g0 f1461 rfl a1439))
          exact wp_ireturn e250 c250_53 rfl ⟨rfl, w1471, f1475, z1473, rfl, ⟨b1474.1, b1474.2⟩, ⟨by omega, h1477⟩⟩
        · exfalso
          omega
      · have f1478 := f1241.tr f1428 rfl
        show wp _ _ 250 30 [(0, .ref r0), (1, vI a1), (2, vI a2)] [vI z1429] _ H1423 _
        refine wp_of e250 c250_30 (rw_istore_n (pc' := 31) (z := z1429) (L' := [(3, vI z1429), (0, .ref r0), (1, vI a1), (2, vI a2)]) rfl rfl rfl ?_)
        refine wp_of e250 c250_31 (rw_iload_n (pc' := 32) (z := z1429) rfl rfl ?_)
        refine wp_of e250 c250_32 (rw_if_le (p1 := 43) (p2 := 35) (by decide) rfl ⟨Int.le_trans (by decide) b1430.1, Int.le_trans b1430.2 (by decide)⟩ (fun c1479 => ?_) (fun c1479 => ?_))
        · exfalso
          omega
        · refine wp_of e250 c250_35 (rw_aload_n (pc' := 36) (v := .ref r0) rfl rfl rfl ?_)
          refine wp_of e250 c250_36 (rw_iload_n (pc' := 37) (z := z1429) rfl rfl ?_)
          refine wp_of e250 c250_37 (xc_V (pc' := 40) (r := r0) (as := [vI z1429]) (st := []) (lm_9_54) rfl rfl (Nat.le_of_ble_eq_true rfl) w1427 g0 sh_42 (by decide) rfl (by decide) (s_170 w1427 g0 ⟨Int.le_trans (by decide) b1430.1, Int.le_trans b1430.2 (by decide)⟩) (fun R1480 T1481 H1482 p1483 => ?_))
          obtain ⟨e1484, w1486, f1487, z1488, e1485, b1489⟩ := p1483
          subst e1484
          subst e1485
          have f1490 := f1478.tr f1487 rfl
          show wp _ _ 250 40 [(3, vI z1429), (0, .ref r0), (1, vI a1), (2, vI a2)] [vI z1488] _ H1482 _
          refine wp_of e250 c250_40 (rw_goto (p1 := 53) (by decide) ?_)
          have k1491 : wKI H1482 r0 = wKI H1423 r0 := (wKI_fr w1427 g0 f1487 rfl)
          have h1492 : KNN T H1482 r0 e d := (KNN_fr w1427 g0 f1487 rfl a1447)
          exact wp_ireturn e250 c250_53 rfl ⟨rfl, w1486, f1490, z1488, rfl, ⟨b1489.1, b1489.2⟩, ⟨by omega, h1492⟩⟩
/-! StrikeAwakeModel.sure(II)I  -/
abbrev uq_252 (r0 : Nat) (a1 : Int) (a2 : Int) (e : xD) (d : xD) (T : wq_T) (H : wq_H) : Option Value → wq_T → wq_H → Prop := fun r T' H' => T = T' ∧ WT T H' ∧ wfr [(42, 0), (42, 1), (42, 2), (42, 28), (42, 29), (51, 999), (52, 999)] T H H' ∧ ∃ z : Int, some (vI z) = r ∧ ((-2147483648) ≤ z ∧ z ≤ 2147483647) ∧ (((wKI H' r0 = 1) ∧ KNN T H' r0 e d))
set_option maxHeartbeats 4000000 in
theorem u_252 {kt : Nat → Option mc_E} {T : wq_T} {H : wq_H} {r0 : Nat} {a1 : Int} {a2 : Int} {e : xD} {d : xD} (hW : WT T H) (g0 : T.2.2.2 r0 = some 42) (i1 : (-2147483648) ≤ a1 ∧ a1 ≤ 2147483647) (i2 : (-2147483648) ≤ a2 ∧ a2 ≤ 2147483647) (p0 : wKI H r0 = 1) (p1 : XW d) (p2 : ∀ h : Nat, d 0 0 ≤ (h : Int) → h < 24 → e 13 h = 0) (p3 : XN d) (p4 : ∀ h : Nat, h < 24 → 0 ≤ e 13 h ∧ e 13 h ≤ 100) (hRB_r0 : RB T H r0 e d) (hKNN_r0 : KNN T H r0 e d) : wpc kt 9 252 [.ref r0, vI a1, vI a2] T H (uq_252 r0 a1 a2 e d T H) := by
  refine wp_enter e252 (Nat.le_of_ble_eq_true rfl) rfl ?_
  have f0 : wfr [(42, 0), (42, 1), (42, 2), (42, 28), (42, 29), (51, 999), (52, 999)] T H H := wfr.rf
  show wp _ _ 252 0 [(0, .ref r0), (1, vI a1), (2, vI a2)] [] _ H _
  have _b := RB_b hW hRB_r0
  have _nu := RB_n3 hRB_r0
  have _lm := RB_lm hRB_r0
  refine wp_of e252 c252_0 (rw_aload_n (pc' := 1) (v := .ref r0) rfl rfl rfl ?_)
  refine wp_of e252 c252_1 (rw_iconst (pc' := 2) rfl ?_)
  refine wp_of e252 c252_2 (xp_I (pc' := 5) lf_9_48 hW g0 sh_42 (by decide) (by decide) ty_42_0 rfl rfl (by decide) (by decide) ⟨by decide, by decide⟩ rfl (fun H1319 e1320 w1321 => ?_))
  have f1322 := f0.put' e1320 g0 rfl
  have k1323 : H1319 r0 0 = 0 := wq_u_s e1320
  refine wp_of e252 c252_5 (rw_aload_n (pc' := 6) (v := .ref r0) rfl rfl rfl ?_)
  refine wp_of e252 c252_6 (rw_aload_n (pc' := 7) (v := .ref r0) rfl rfl rfl ?_)
  refine wp_of e252 c252_7 (rw_iload_n (pc' := 8) (z := a1) rfl rfl ?_)
  refine wp_of e252 c252_8 (xc_V (pc' := 11) (r := r0) (as := [vI a1]) (st := [.ref r0]) (lm_9_364) rfl rfl (Nat.le_of_ble_eq_true rfl) w1321 g0 sh_42 (by decide) rfl (by decide) (s_213 w1321 g0 ⟨i1.1, i1.2⟩) (fun R1324 T1325 H1326 p1327 => ?_))
  obtain ⟨e1328, e1330, z1332, e1329, b1333, p1331⟩ := p1327
  subst e1328
  subst e1329
  subst e1330
  show wp _ _ 252 11 [(0, .ref r0), (1, vI a1), (2, vI a2)] [vI z1332, .ref r0] _ H1319 _
  refine wp_of e252 c252_11 (rw_if_eq (p1 := 26) (p2 := 14) (by decide) rfl ⟨Int.le_trans (by decide) b1333.1, Int.le_trans b1333.2 (by decide)⟩ (fun c1334 => ?_) (fun c1334 => ?_))
  · refine wp_of e252 c252_26 (rw_iconst (pc' := 27) rfl ?_)
    have k1335 : H1319 r0 3 = H r0 3 := (wq_u_j e1320 rfl)
    have k1336 : wKI H1319 r0 = wKI H r0 := (wKI_fr hW g0 ((wfr.rf (l := [(42, 0)])).put' e1320 g0 rfl) rfl)
    have h1337 : RB T H1319 r0 e d := (RB_fr hW g0 ((wfr.rf (l := [(42, 0)])).put' e1320 g0 rfl) rfl hRB_r0)
    have h1338 : KNN T H1319 r0 e d := (KNN_fr hW g0 ((wfr.rf (l := [(42, 0)])).put' e1320 g0 rfl) rfl hKNN_r0)
    refine wp_of e252 c252_27 (xc_V (pc' := 30) (r := r0) (as := [vI 0]) (st := []) (lm_9_447) rfl rfl (Nat.le_of_ble_eq_true rfl) w1321 g0 sh_42 (by decide) rfl (by decide) (u_253 (e := e) (d := d) w1321 g0 ⟨by decide, by decide⟩ (by omega) (by omega) (by assumption) (by assumption) (by assumption) (by assumption) h1337 h1338) (fun R1339 T1340 H1341 p1342 => ?_))
    obtain ⟨e1343, w1345, f1346, z1347, e1344, b1348, p1349⟩ := p1342
    subst e1343
    subst e1344
    rcases p1349 with ⟨a1350, a1351, a1352, a1353, a1354, a1355, a1356, a1357, a1358, a1359⟩ | ⟨a1360, a1361, a1362, a1363, a1364, a1365, a1366⟩
    · have f1367 := f1322.tr f1346 rfl
      show wp _ _ 252 30 [(0, .ref r0), (1, vI a1), (2, vI a2)] [vI z1347] _ H1341 _
      refine wp_of e252 c252_30 (rw_istore_n (pc' := 31) (z := z1347) (L' := [(3, vI z1347), (0, .ref r0), (1, vI a1), (2, vI a2)]) rfl rfl rfl ?_)
      refine wp_of e252 c252_31 (rw_iload_n (pc' := 32) (z := z1347) rfl rfl ?_)
      refine wp_of e252 c252_32 (rw_if_le (p1 := 41) (p2 := 35) (by decide) rfl ⟨Int.le_trans (by decide) b1348.1, Int.le_trans b1348.2 (by decide)⟩ (fun c1368 => ?_) (fun c1368 => ?_))
      · refine wp_of e252 c252_41 (rw_aload_n (pc' := 42) (v := .ref r0) rfl rfl rfl ?_)
        refine wp_of e252 c252_42 (rw_iload_n (pc' := 43) (z := a1) rfl rfl ?_)
        refine wp_of e252 c252_43 (rw_iload_n (pc' := 44) (z := a2) rfl rfl ?_)
        have k1369 : H1341 r0 3 = H1319 r0 3 := (f1346 r0 3 _ g0 rfl)
        obtain ⟨r1370, q1371, g1372⟩ := (w1345.opt g0 (t' := 54) (n := 33) (j := 3) (p := 0) (q := 0) rfl (by decide) rfl).resolve_left (by omega)
        refine wp_of e252 c252_44 (xc_V (pc' := 47) (r := r0) (as := [vI a1, vI a2]) (st := []) (lm_9_444) rfl rfl (Nat.le_of_ble_eq_true rfl) w1345 g0 sh_42 (by decide) rfl (by decide) (s_251 w1345 g0 ⟨by omega, by omega⟩ ⟨i2.1, i2.2⟩ q1371 g1372 (by omega)) (fun R1373 T1374 H1375 p1376 => ?_))
        obtain ⟨e1377, w1379, f1380, z1381, e1378, b1382⟩ := p1376
        subst e1377
        subst e1378
        have f1383 := f1367.tr f1380 rfl
        show wp _ _ 252 47 [(3, vI z1347), (0, .ref r0), (1, vI a1), (2, vI a2)] [vI z1381] _ H1375 _
        refine wp_of e252 c252_47 (rw_istore (pc' := 49) (z := z1381) (L' := [(4, vI z1381), (3, vI z1347), (0, .ref r0), (1, vI a1), (2, vI a2)]) rfl rfl rfl ?_)
        refine wp_of e252 c252_49 (rw_aload_n (pc' := 50) (v := .ref r0) rfl rfl rfl ?_)
        refine wp_of e252 c252_50 (rw_iload (pc' := 52) (z := z1381) rfl rfl ?_)
        refine wp_of e252 c252_52 (rw_aload_n (pc' := 53) (v := .ref r0) rfl rfl rfl ?_)
        refine wp_of e252 c252_53 (xg_I (pc' := 56) lf_9_422 w1379 g0 sh_42 (by decide) (by decide) ty_42_29 rfl rfl (fun b1384 b1385 => ?_))
        refine wp_of e252 c252_56 (rw_icmp_ne (p1 := 63) (p2 := 59) (by decide) rfl ⟨b1382.1, b1382.2⟩ ⟨Int.le_trans (by decide) b1384, Int.le_trans b1385 (by decide)⟩ (fun c1386 => ?_) (fun c1386 => ?_))
        · refine wp_of e252 c252_63 (rw_iload (pc' := 65) (z := z1381) rfl rfl ?_)
          refine wp_of e252 c252_65 (rw_if_ne (p1 := 72) (p2 := 68) (by decide) rfl ⟨b1382.1, b1382.2⟩ (fun c1387 => ?_) (fun c1387 => ?_))
          · refine wp_of e252 c252_72 (rw_iconst (pc' := 73) rfl ?_)
            refine wp_of e252 c252_73 (xc_V (pc' := 76) (r := r0) (as := [vI 1]) (st := []) (lm_9_58) rfl rfl (Nat.le_of_ble_eq_true rfl) w1379 g0 sh_42 (by decide) rfl (by decide) (s_209 w1379 g0 ⟨by decide, by decide⟩) (fun R1388 T1389 H1390 p1391 => ?_))
            obtain ⟨e1392, w1394, f1395, z1396, e1393, b1397⟩ := p1391
            subst e1392
            subst e1393
            have f1398 := f1383.tr f1395 rfl
            show wp _ _ 252 76 [(4, vI z1381), (3, vI z1347), (0, .ref r0), (1, vI a1), (2, vI a2)] [vI z1396] _ H1390 _
            have k1399 : wKI H1390 r0 = wKI H1341 r0 := ((wKI_fr w1379 g0 f1395 rfl).trans (wKI_fr w1345 g0 f1380 rfl))
            have h1400 : KNN T H1390 r0 e d := (KNN_fr w1379 g0 f1395 rfl (KNN_fr w1345 g0 f1380 rfl a1358))
            exact wp_ireturn e252 c252_76 rfl ⟨rfl, w1394, f1398, z1396, rfl, ⟨b1397.1, b1397.2⟩, ⟨by omega, h1400⟩⟩
          · refine wp_of e252 c252_68 (rw_iconst (pc' := 69) rfl ?_)
            refine wp_of e252 c252_69 (rw_goto (p1 := 73) (by decide) ?_)
            refine wp_of e252 c252_73 (xc_V (pc' := 76) (r := r0) (as := [vI 0]) (st := []) (lm_9_58) rfl rfl (Nat.le_of_ble_eq_true rfl) w1379 g0 sh_42 (by decide) rfl (by decide) (s_209 w1379 g0 ⟨by decide, by decide⟩) (fun R1401 T1402 H1403 p1404 => ?_))
            obtain ⟨e1405, w1407, f1408, z1409, e1406, b1410⟩ := p1404
            subst e1405
            subst e1406
            have f1411 := f1383.tr f1408 rfl
            show wp _ _ 252 76 [(4, vI z1381), (3, vI z1347), (0, .ref r0), (1, vI a1), (2, vI a2)] [vI z1409] _ H1403 _
            have k1412 : wKI H1403 r0 = wKI H1341 r0 := ((wKI_fr w1379 g0 f1408 rfl).trans (wKI_fr w1345 g0 f1380 rfl))
            have h1413 : KNN T H1403 r0 e d := (KNN_fr w1379 g0 f1408 rfl (KNN_fr w1345 g0 f1380 rfl a1358))
            exact wp_ireturn e252 c252_76 rfl ⟨rfl, w1407, f1411, z1409, rfl, ⟨b1410.1, b1410.2⟩, ⟨by omega, h1413⟩⟩
        · refine wp_of e252 c252_59 (rw_iconst (pc' := 60) rfl ?_)
          refine wp_of e252 c252_60 (rw_goto (p1 := 73) (by decide) ?_)
          refine wp_of e252 c252_73 (xc_V (pc' := 76) (r := r0) (as := [vI 2]) (st := []) (lm_9_58) rfl rfl (Nat.le_of_ble_eq_true rfl) w1379 g0 sh_42 (by decide) rfl (by decide) (s_209 w1379 g0 ⟨by decide, by decide⟩) (fun R1414 T1415 H1416 p1417 => ?_))
          obtain ⟨e1418, w1420, f1421, z1422, e1419, b1423⟩ := p1417
          subst e1418
          subst e1419
          have f1424 := f1383.tr f1421 rfl
          show wp _ _ 252 76 [(4, vI z1381), (3, vI z1347), (0, .ref r0), (1, vI a1), (2, vI a2)] [vI z1422] _ H1416 _
          have k1425 : wKI H1416 r0 = wKI H1341 r0 := ((wKI_fr w1379 g0 f1421 rfl).trans (wKI_fr w1345 g0 f1380 rfl))
          have h1426 : KNN T H1416 r0 e d := (KNN_fr w1379 g0 f1421 rfl (KNN_fr w1345 g0 f1380 rfl a1358))
          exact wp_ireturn e252 c252_76 rfl ⟨rfl, w1420, f1424, z1422, rfl, ⟨b1423.1, b1423.2⟩, ⟨by omega, h1426⟩⟩
      · exfalso
        omega
    · have f1427 := f1322.tr f1346 rfl
      show wp _ _ 252 30 [(0, .ref r0), (1, vI a1), (2, vI a2)] [vI z1347] _ H1341 _
      refine wp_of e252 c252_30 (rw_istore_n (pc' := 31) (z := z1347) (L' := [(3, vI z1347), (0, .ref r0), (1, vI a1), (2, vI a2)]) rfl rfl rfl ?_)
      refine wp_of e252 c252_31 (rw_iload_n (pc' := 32) (z := z1347) rfl rfl ?_)
      refine wp_of e252 c252_32 (rw_if_le (p1 := 41) (p2 := 35) (by decide) rfl ⟨Int.le_trans (by decide) b1348.1, Int.le_trans b1348.2 (by decide)⟩ (fun c1428 => ?_) (fun c1428 => ?_))
      · exfalso
        omega
      · refine wp_of e252 c252_35 (rw_aload_n (pc' := 36) (v := .ref r0) rfl rfl rfl ?_)
        refine wp_of e252 c252_36 (rw_iload_n (pc' := 37) (z := z1347) rfl rfl ?_)
        refine wp_of e252 c252_37 (xc_V (pc' := 40) (r := r0) (as := [vI z1347]) (st := []) (lm_9_54) rfl rfl (Nat.le_of_ble_eq_true rfl) w1345 g0 sh_42 (by decide) rfl (by decide) (s_170 w1345 g0 ⟨Int.le_trans (by decide) b1348.1, Int.le_trans b1348.2 (by decide)⟩) (fun R1429 T1430 H1431 p1432 => ?_))
        obtain ⟨e1433, w1435, f1436, z1437, e1434, b1438⟩ := p1432
        subst e1433
        subst e1434
        have f1439 := f1427.tr f1436 rfl
        show wp _ _ 252 40 [(3, vI z1347), (0, .ref r0), (1, vI a1), (2, vI a2)] [vI z1437] _ H1431 _
        have k1440 : wKI H1431 r0 = wKI H1341 r0 := (wKI_fr w1345 g0 f1436 rfl)
        have h1441 : KNN T H1431 r0 e d := (KNN_fr w1345 g0 f1436 rfl a1366)
        exact wp_ireturn e252 c252_40 rfl ⟨rfl, w1435, f1439, z1437, rfl, ⟨b1438.1, b1438.2⟩, ⟨by omega, h1441⟩⟩
  · refine wp_of e252 c252_14 (rw_aload_n (pc' := 15) (v := .ref r0) rfl rfl rfl ?_)
    refine wp_of e252 c252_15 (rw_iload_n (pc' := 16) (z := a2) rfl rfl ?_)
    refine wp_of e252 c252_16 (xc_V (pc' := 19) (r := r0) (as := [vI a2]) (st := [.ref r0]) (lm_9_373) rfl rfl (Nat.le_of_ble_eq_true rfl) w1321 g0 sh_42 (by decide) rfl (by decide) (s_218 w1321 g0 ⟨i2.1, i2.2⟩) (fun R1442 T1443 H1444 p1445 => ?_))
    obtain ⟨e1446, e1448, z1450, e1447, b1451, p1449⟩ := p1445
    subst e1446
    subst e1447
    subst e1448
    show wp _ _ 252 19 [(0, .ref r0), (1, vI a1), (2, vI a2)] [vI z1450, .ref r0] _ H1319 _
    refine wp_of e252 c252_19 (rw_if_eq (p1 := 26) (p2 := 22) (by decide) rfl ⟨Int.le_trans (by decide) b1451.1, Int.le_trans b1451.2 (by decide)⟩ (fun c1452 => ?_) (fun c1452 => ?_))
    · refine wp_of e252 c252_26 (rw_iconst (pc' := 27) rfl ?_)
      have k1453 : H1319 r0 3 = H r0 3 := (wq_u_j e1320 rfl)
      have k1454 : wKI H1319 r0 = wKI H r0 := (wKI_fr hW g0 ((wfr.rf (l := [(42, 0)])).put' e1320 g0 rfl) rfl)
      have h1455 : RB T H1319 r0 e d := (RB_fr hW g0 ((wfr.rf (l := [(42, 0)])).put' e1320 g0 rfl) rfl hRB_r0)
      have h1456 : KNN T H1319 r0 e d := (KNN_fr hW g0 ((wfr.rf (l := [(42, 0)])).put' e1320 g0 rfl) rfl hKNN_r0)
      refine wp_of e252 c252_27 (xc_V (pc' := 30) (r := r0) (as := [vI 0]) (st := []) (lm_9_447) rfl rfl (Nat.le_of_ble_eq_true rfl) w1321 g0 sh_42 (by decide) rfl (by decide) (u_253 (e := e) (d := d) w1321 g0 ⟨by decide, by decide⟩ (by omega) (by omega) (by assumption) (by assumption) (by assumption) (by assumption) h1455 h1456) (fun R1457 T1458 H1459 p1460 => ?_))
      obtain ⟨e1461, w1463, f1464, z1465, e1462, b1466, p1467⟩ := p1460
      subst e1461
      subst e1462
      rcases p1467 with ⟨a1468, a1469, a1470, a1471, a1472, a1473, a1474, a1475, a1476, a1477⟩ | ⟨a1478, a1479, a1480, a1481, a1482, a1483, a1484⟩
      · have f1485 := f1322.tr f1464 rfl
        show wp _ _ 252 30 [(0, .ref r0), (1, vI a1), (2, vI a2)] [vI z1465] _ H1459 _
        refine wp_of e252 c252_30 (rw_istore_n (pc' := 31) (z := z1465) (L' := [(3, vI z1465), (0, .ref r0), (1, vI a1), (2, vI a2)]) rfl rfl rfl ?_)
        refine wp_of e252 c252_31 (rw_iload_n (pc' := 32) (z := z1465) rfl rfl ?_)
        refine wp_of e252 c252_32 (rw_if_le (p1 := 41) (p2 := 35) (by decide) rfl ⟨Int.le_trans (by decide) b1466.1, Int.le_trans b1466.2 (by decide)⟩ (fun c1486 => ?_) (fun c1486 => ?_))
        · refine wp_of e252 c252_41 (rw_aload_n (pc' := 42) (v := .ref r0) rfl rfl rfl ?_)
          refine wp_of e252 c252_42 (rw_iload_n (pc' := 43) (z := a1) rfl rfl ?_)
          refine wp_of e252 c252_43 (rw_iload_n (pc' := 44) (z := a2) rfl rfl ?_)
          have k1487 : H1459 r0 3 = H1319 r0 3 := (f1464 r0 3 _ g0 rfl)
          obtain ⟨r1488, q1489, g1490⟩ := (w1463.opt g0 (t' := 54) (n := 33) (j := 3) (p := 0) (q := 0) rfl (by decide) rfl).resolve_left (by omega)
          refine wp_of e252 c252_44 (xc_V (pc' := 47) (r := r0) (as := [vI a1, vI a2]) (st := []) (lm_9_444) rfl rfl (Nat.le_of_ble_eq_true rfl) w1463 g0 sh_42 (by decide) rfl (by decide) (s_251 w1463 g0 ⟨by omega, by omega⟩ ⟨i2.1, i2.2⟩ q1489 g1490 (by omega)) (fun R1491 T1492 H1493 p1494 => ?_))
          obtain ⟨e1495, w1497, f1498, z1499, e1496, b1500⟩ := p1494
          subst e1495
          subst e1496
          have f1501 := f1485.tr f1498 rfl
          show wp _ _ 252 47 [(3, vI z1465), (0, .ref r0), (1, vI a1), (2, vI a2)] [vI z1499] _ H1493 _
          refine wp_of e252 c252_47 (rw_istore (pc' := 49) (z := z1499) (L' := [(4, vI z1499), (3, vI z1465), (0, .ref r0), (1, vI a1), (2, vI a2)]) rfl rfl rfl ?_)
          refine wp_of e252 c252_49 (rw_aload_n (pc' := 50) (v := .ref r0) rfl rfl rfl ?_)
          refine wp_of e252 c252_50 (rw_iload (pc' := 52) (z := z1499) rfl rfl ?_)
          refine wp_of e252 c252_52 (rw_aload_n (pc' := 53) (v := .ref r0) rfl rfl rfl ?_)
          refine wp_of e252 c252_53 (xg_I (pc' := 56) lf_9_422 w1497 g0 sh_42 (by decide) (by decide) ty_42_29 rfl rfl (fun b1502 b1503 => ?_))
          refine wp_of e252 c252_56 (rw_icmp_ne (p1 := 63) (p2 := 59) (by decide) rfl ⟨b1500.1, b1500.2⟩ ⟨Int.le_trans (by decide) b1502, Int.le_trans b1503 (by decide)⟩ (fun c1504 => ?_) (fun c1504 => ?_))
          · refine wp_of e252 c252_63 (rw_iload (pc' := 65) (z := z1499) rfl rfl ?_)
            refine wp_of e252 c252_65 (rw_if_ne (p1 := 72) (p2 := 68) (by decide) rfl ⟨b1500.1, b1500.2⟩ (fun c1505 => ?_) (fun c1505 => ?_))
            · refine wp_of e252 c252_72 (rw_iconst (pc' := 73) rfl ?_)
              refine wp_of e252 c252_73 (xc_V (pc' := 76) (r := r0) (as := [vI 1]) (st := []) (lm_9_58) rfl rfl (Nat.le_of_ble_eq_true rfl) w1497 g0 sh_42 (by decide) rfl (by decide) (s_209 w1497 g0 ⟨by decide, by decide⟩) (fun R1506 T1507 H1508 p1509 => ?_))
              obtain ⟨e1510, w1512, f1513, z1514, e1511, b1515⟩ := p1509
              subst e1510
              subst e1511
              have f1516 := f1501.tr f1513 rfl
              show wp _ _ 252 76 [(4, vI z1499), (3, vI z1465), (0, .ref r0), (1, vI a1), (2, vI a2)] [vI z1514] _ H1508 _
              have k1517 : wKI H1508 r0 = wKI H1459 r0 := ((wKI_fr w1497 g0 f1513 rfl).trans (wKI_fr w1463 g0 f1498 rfl))
              have h1518 : KNN T H1508 r0 e d := (KNN_fr w1497 g0 f1513 rfl (KNN_fr w1463 g0 f1498 rfl a1476))
              exact wp_ireturn e252 c252_76 rfl ⟨rfl, w1512, f1516, z1514, rfl, ⟨b1515.1, b1515.2⟩, ⟨by omega, h1518⟩⟩
            · refine wp_of e252 c252_68 (rw_iconst (pc' := 69) rfl ?_)
              refine wp_of e252 c252_69 (rw_goto (p1 := 73) (by decide) ?_)
              refine wp_of e252 c252_73 (xc_V (pc' := 76) (r := r0) (as := [vI 0]) (st := []) (lm_9_58) rfl rfl (Nat.le_of_ble_eq_true rfl) w1497 g0 sh_42 (by decide) rfl (by decide) (s_209 w1497 g0 ⟨by decide, by decide⟩) (fun R1519 T1520 H1521 p1522 => ?_))
              obtain ⟨e1523, w1525, f1526, z1527, e1524, b1528⟩ := p1522
              subst e1523
              subst e1524
              have f1529 := f1501.tr f1526 rfl
              show wp _ _ 252 76 [(4, vI z1499), (3, vI z1465), (0, .ref r0), (1, vI a1), (2, vI a2)] [vI z1527] _ H1521 _
              have k1530 : wKI H1521 r0 = wKI H1459 r0 := ((wKI_fr w1497 g0 f1526 rfl).trans (wKI_fr w1463 g0 f1498 rfl))
              have h1531 : KNN T H1521 r0 e d := (KNN_fr w1497 g0 f1526 rfl (KNN_fr w1463 g0 f1498 rfl a1476))
              exact wp_ireturn e252 c252_76 rfl ⟨rfl, w1525, f1529, z1527, rfl, ⟨b1528.1, b1528.2⟩, ⟨by omega, h1531⟩⟩
          · refine wp_of e252 c252_59 (rw_iconst (pc' := 60) rfl ?_)
            refine wp_of e252 c252_60 (rw_goto (p1 := 73) (by decide) ?_)
            refine wp_of e252 c252_73 (xc_V (pc' := 76) (r := r0) (as := [vI 2]) (st := []) (lm_9_58) rfl rfl (Nat.le_of_ble_eq_true rfl) w1497 g0 sh_42 (by decide) rfl (by decide) (s_209 w1497 g0 ⟨by decide, by decide⟩) (fun R1532 T1533 H1534 p1535 => ?_))
            obtain ⟨e1536, w1538, f1539, z1540, e1537, b1541⟩ := p1535
            subst e1536
            subst e1537
            have f1542 := f1501.tr f1539 rfl
            show wp _ _ 252 76 [(4, vI z1499), (3, vI z1465), (0, .ref r0), (1, vI a1), (2, vI a2)] [vI z1540] _ H1534 _
            have k1543 : wKI H1534 r0 = wKI H1459 r0 := ((wKI_fr w1497 g0 f1539 rfl).trans (wKI_fr w1463 g0 f1498 rfl))
            have h1544 : KNN T H1534 r0 e d := (KNN_fr w1497 g0 f1539 rfl (KNN_fr w1463 g0 f1498 rfl a1476))
            exact wp_ireturn e252 c252_76 rfl ⟨rfl, w1538, f1542, z1540, rfl, ⟨b1541.1, b1541.2⟩, ⟨by omega, h1544⟩⟩
        · exfalso
          omega
      · have f1545 := f1322.tr f1464 rfl
        show wp _ _ 252 30 [(0, .ref r0), (1, vI a1), (2, vI a2)] [vI z1465] _ H1459 _
        refine wp_of e252 c252_30 (rw_istore_n (pc' := 31) (z := z1465) (L' := [(3, vI z1465), (0, .ref r0), (1, vI a1), (2, vI a2)]) rfl rfl rfl ?_)
        refine wp_of e252 c252_31 (rw_iload_n (pc' := 32) (z := z1465) rfl rfl ?_)
        refine wp_of e252 c252_32 (rw_if_le (p1 := 41) (p2 := 35) (by decide) rfl ⟨Int.le_trans (by decide) b1466.1, Int.le_trans b1466.2 (by decide)⟩ (fun c1546 => ?_) (fun c1546 => ?_))
        · exfalso
          omega
        · refine wp_of e252 c252_35 (rw_aload_n (pc' := 36) (v := .ref r0) rfl rfl rfl ?_)
          refine wp_of e252 c252_36 (rw_iload_n (pc' := 37) (z := z1465) rfl rfl ?_)
          refine wp_of e252 c252_37 (xc_V (pc' := 40) (r := r0) (as := [vI z1465]) (st := []) (lm_9_54) rfl rfl (Nat.le_of_ble_eq_true rfl) w1463 g0 sh_42 (by decide) rfl (by decide) (s_170 w1463 g0 ⟨Int.le_trans (by decide) b1466.1, Int.le_trans b1466.2 (by decide)⟩) (fun R1547 T1548 H1549 p1550 => ?_))
          obtain ⟨e1551, w1553, f1554, z1555, e1552, b1556⟩ := p1550
          subst e1551
          subst e1552
          have f1557 := f1545.tr f1554 rfl
          show wp _ _ 252 40 [(3, vI z1465), (0, .ref r0), (1, vI a1), (2, vI a2)] [vI z1555] _ H1549 _
          have k1558 : wKI H1549 r0 = wKI H1459 r0 := (wKI_fr w1463 g0 f1554 rfl)
          have h1559 : KNN T H1549 r0 e d := (KNN_fr w1463 g0 f1554 rfl a1484)
          exact wp_ireturn e252 c252_40 rfl ⟨rfl, w1553, f1557, z1555, rfl, ⟨b1556.1, b1556.2⟩, ⟨by omega, h1559⟩⟩
    · refine wp_of e252 c252_22 (rw_iconst (pc' := 23) rfl ?_)
      refine wp_of e252 c252_23 (rw_goto (p1 := 27) (by decide) ?_)
      have k1560 : H1319 r0 3 = H r0 3 := (wq_u_j e1320 rfl)
      have k1561 : wKI H1319 r0 = wKI H r0 := (wKI_fr hW g0 ((wfr.rf (l := [(42, 0)])).put' e1320 g0 rfl) rfl)
      have h1562 : RB T H1319 r0 e d := (RB_fr hW g0 ((wfr.rf (l := [(42, 0)])).put' e1320 g0 rfl) rfl hRB_r0)
      have h1563 : KNN T H1319 r0 e d := (KNN_fr hW g0 ((wfr.rf (l := [(42, 0)])).put' e1320 g0 rfl) rfl hKNN_r0)
      refine wp_of e252 c252_27 (xc_V (pc' := 30) (r := r0) (as := [vI 1]) (st := []) (lm_9_447) rfl rfl (Nat.le_of_ble_eq_true rfl) w1321 g0 sh_42 (by decide) rfl (by decide) (u_253 (e := e) (d := d) w1321 g0 ⟨by decide, by decide⟩ (by omega) (by omega) (by assumption) (by assumption) (by assumption) (by assumption) h1562 h1563) (fun R1564 T1565 H1566 p1567 => ?_))
      obtain ⟨e1568, w1570, f1571, z1572, e1569, b1573, p1574⟩ := p1567
      subst e1568
      subst e1569
      rcases p1574 with ⟨a1575, a1576, a1577, a1578, a1579, a1580, a1581, a1582, a1583, a1584⟩ | ⟨a1585, a1586, a1587, a1588, a1589, a1590, a1591⟩
      · have f1592 := f1322.tr f1571 rfl
        show wp _ _ 252 30 [(0, .ref r0), (1, vI a1), (2, vI a2)] [vI z1572] _ H1566 _
        refine wp_of e252 c252_30 (rw_istore_n (pc' := 31) (z := z1572) (L' := [(3, vI z1572), (0, .ref r0), (1, vI a1), (2, vI a2)]) rfl rfl rfl ?_)
        refine wp_of e252 c252_31 (rw_iload_n (pc' := 32) (z := z1572) rfl rfl ?_)
        refine wp_of e252 c252_32 (rw_if_le (p1 := 41) (p2 := 35) (by decide) rfl ⟨Int.le_trans (by decide) b1573.1, Int.le_trans b1573.2 (by decide)⟩ (fun c1593 => ?_) (fun c1593 => ?_))
        · refine wp_of e252 c252_41 (rw_aload_n (pc' := 42) (v := .ref r0) rfl rfl rfl ?_)
          refine wp_of e252 c252_42 (rw_iload_n (pc' := 43) (z := a1) rfl rfl ?_)
          refine wp_of e252 c252_43 (rw_iload_n (pc' := 44) (z := a2) rfl rfl ?_)
          have k1594 : H1566 r0 3 = H1319 r0 3 := (f1571 r0 3 _ g0 rfl)
          obtain ⟨r1595, q1596, g1597⟩ := (w1570.opt g0 (t' := 54) (n := 33) (j := 3) (p := 0) (q := 0) rfl (by decide) rfl).resolve_left (by omega)
          refine wp_of e252 c252_44 (xc_V (pc' := 47) (r := r0) (as := [vI a1, vI a2]) (st := []) (lm_9_444) rfl rfl (Nat.le_of_ble_eq_true rfl) w1570 g0 sh_42 (by decide) rfl (by decide) (s_251 w1570 g0 ⟨by omega, by omega⟩ ⟨i2.1, i2.2⟩ q1596 g1597 (by omega)) (fun R1598 T1599 H1600 p1601 => ?_))
          obtain ⟨e1602, w1604, f1605, z1606, e1603, b1607⟩ := p1601
          subst e1602
          subst e1603
          have f1608 := f1592.tr f1605 rfl
          show wp _ _ 252 47 [(3, vI z1572), (0, .ref r0), (1, vI a1), (2, vI a2)] [vI z1606] _ H1600 _
          refine wp_of e252 c252_47 (rw_istore (pc' := 49) (z := z1606) (L' := [(4, vI z1606), (3, vI z1572), (0, .ref r0), (1, vI a1), (2, vI a2)]) rfl rfl rfl ?_)
          refine wp_of e252 c252_49 (rw_aload_n (pc' := 50) (v := .ref r0) rfl rfl rfl ?_)
          refine wp_of e252 c252_50 (rw_iload (pc' := 52) (z := z1606) rfl rfl ?_)
          refine wp_of e252 c252_52 (rw_aload_n (pc' := 53) (v := .ref r0) rfl rfl rfl ?_)
          refine wp_of e252 c252_53 (xg_I (pc' := 56) lf_9_422 w1604 g0 sh_42 (by decide) (by decide) ty_42_29 rfl rfl (fun b1609 b1610 => ?_))
          refine wp_of e252 c252_56 (rw_icmp_ne (p1 := 63) (p2 := 59) (by decide) rfl ⟨b1607.1, b1607.2⟩ ⟨Int.le_trans (by decide) b1609, Int.le_trans b1610 (by decide)⟩ (fun c1611 => ?_) (fun c1611 => ?_))
          · refine wp_of e252 c252_63 (rw_iload (pc' := 65) (z := z1606) rfl rfl ?_)
            refine wp_of e252 c252_65 (rw_if_ne (p1 := 72) (p2 := 68) (by decide) rfl ⟨b1607.1, b1607.2⟩ (fun c1612 => ?_) (fun c1612 => ?_))
            · refine wp_of e252 c252_72 (rw_iconst (pc' := 73) rfl ?_)
              refine wp_of e252 c252_73 (xc_V (pc' := 76) (r := r0) (as := [vI 1]) (st := []) (lm_9_58) rfl rfl (Nat.le_of_ble_eq_true rfl) w1604 g0 sh_42 (by decide) rfl (by decide) (s_209 w1604 g0 ⟨by decide, by decide⟩) (fun R1613 T1614 H1615 p1616 => ?_))
              obtain ⟨e1617, w1619, f1620, z1621, e1618, b1622⟩ := p1616
              subst e1617
              subst e1618
              have f1623 := f1608.tr f1620 rfl
              show wp _ _ 252 76 [(4, vI z1606), (3, vI z1572), (0, .ref r0), (1, vI a1), (2, vI a2)] [vI z1621] _ H1615 _
              have k1624 : wKI H1615 r0 = wKI H1566 r0 := ((wKI_fr w1604 g0 f1620 rfl).trans (wKI_fr w1570 g0 f1605 rfl))
              have h1625 : KNN T H1615 r0 e d := (KNN_fr w1604 g0 f1620 rfl (KNN_fr w1570 g0 f1605 rfl a1583))
              exact wp_ireturn e252 c252_76 rfl ⟨rfl, w1619, f1623, z1621, rfl, ⟨b1622.1, b1622.2⟩, ⟨by omega, h1625⟩⟩
            · refine wp_of e252 c252_68 (rw_iconst (pc' := 69) rfl ?_)
              refine wp_of e252 c252_69 (rw_goto (p1 := 73) (by decide) ?_)
              refine wp_of e252 c252_73 (xc_V (pc' := 76) (r := r0) (as := [vI 0]) (st := []) (lm_9_58) rfl rfl (Nat.le_of_ble_eq_true rfl) w1604 g0 sh_42 (by decide) rfl (by decide) (s_209 w1604 g0 ⟨by decide, by decide⟩) (fun R1626 T1627 H1628 p1629 => ?_))
              obtain ⟨e1630, w1632, f1633, z1634, e1631, b1635⟩ := p1629
              subst e1630
              subst e1631
              have f1636 := f1608.tr f1633 rfl
              show wp _ _ 252 76 [(4, vI z1606), (3, vI z1572), (0, .ref r0), (1, vI a1), (2, vI a2)] [vI z1634] _ H1628 _
              have k1637 : wKI H1628 r0 = wKI H1566 r0 := ((wKI_fr w1604 g0 f1633 rfl).trans (wKI_fr w1570 g0 f1605 rfl))
              have h1638 : KNN T H1628 r0 e d := (KNN_fr w1604 g0 f1633 rfl (KNN_fr w1570 g0 f1605 rfl a1583))
              exact wp_ireturn e252 c252_76 rfl ⟨rfl, w1632, f1636, z1634, rfl, ⟨b1635.1, b1635.2⟩, ⟨by omega, h1638⟩⟩
          · refine wp_of e252 c252_59 (rw_iconst (pc' := 60) rfl ?_)
            refine wp_of e252 c252_60 (rw_goto (p1 := 73) (by decide) ?_)
            refine wp_of e252 c252_73 (xc_V (pc' := 76) (r := r0) (as := [vI 2]) (st := []) (lm_9_58) rfl rfl (Nat.le_of_ble_eq_true rfl) w1604 g0 sh_42 (by decide) rfl (by decide) (s_209 w1604 g0 ⟨by decide, by decide⟩) (fun R1639 T1640 H1641 p1642 => ?_))
            obtain ⟨e1643, w1645, f1646, z1647, e1644, b1648⟩ := p1642
            subst e1643
            subst e1644
            have f1649 := f1608.tr f1646 rfl
            show wp _ _ 252 76 [(4, vI z1606), (3, vI z1572), (0, .ref r0), (1, vI a1), (2, vI a2)] [vI z1647] _ H1641 _
            have k1650 : wKI H1641 r0 = wKI H1566 r0 := ((wKI_fr w1604 g0 f1646 rfl).trans (wKI_fr w1570 g0 f1605 rfl))
            have h1651 : KNN T H1641 r0 e d := (KNN_fr w1604 g0 f1646 rfl (KNN_fr w1570 g0 f1605 rfl a1583))
            exact wp_ireturn e252 c252_76 rfl ⟨rfl, w1645, f1649, z1647, rfl, ⟨b1648.1, b1648.2⟩, ⟨by omega, h1651⟩⟩
        · exfalso
          omega
      · have f1652 := f1322.tr f1571 rfl
        show wp _ _ 252 30 [(0, .ref r0), (1, vI a1), (2, vI a2)] [vI z1572] _ H1566 _
        refine wp_of e252 c252_30 (rw_istore_n (pc' := 31) (z := z1572) (L' := [(3, vI z1572), (0, .ref r0), (1, vI a1), (2, vI a2)]) rfl rfl rfl ?_)
        refine wp_of e252 c252_31 (rw_iload_n (pc' := 32) (z := z1572) rfl rfl ?_)
        refine wp_of e252 c252_32 (rw_if_le (p1 := 41) (p2 := 35) (by decide) rfl ⟨Int.le_trans (by decide) b1573.1, Int.le_trans b1573.2 (by decide)⟩ (fun c1653 => ?_) (fun c1653 => ?_))
        · exfalso
          omega
        · refine wp_of e252 c252_35 (rw_aload_n (pc' := 36) (v := .ref r0) rfl rfl rfl ?_)
          refine wp_of e252 c252_36 (rw_iload_n (pc' := 37) (z := z1572) rfl rfl ?_)
          refine wp_of e252 c252_37 (xc_V (pc' := 40) (r := r0) (as := [vI z1572]) (st := []) (lm_9_54) rfl rfl (Nat.le_of_ble_eq_true rfl) w1570 g0 sh_42 (by decide) rfl (by decide) (s_170 w1570 g0 ⟨Int.le_trans (by decide) b1573.1, Int.le_trans b1573.2 (by decide)⟩) (fun R1654 T1655 H1656 p1657 => ?_))
          obtain ⟨e1658, w1660, f1661, z1662, e1659, b1663⟩ := p1657
          subst e1658
          subst e1659
          have f1664 := f1652.tr f1661 rfl
          show wp _ _ 252 40 [(3, vI z1572), (0, .ref r0), (1, vI a1), (2, vI a2)] [vI z1662] _ H1656 _
          have k1665 : wKI H1656 r0 = wKI H1566 r0 := (wKI_fr w1570 g0 f1661 rfl)
          have h1666 : KNN T H1656 r0 e d := (KNN_fr w1570 g0 f1661 rfl a1591)
          exact wp_ireturn e252 c252_40 rfl ⟨rfl, w1660, f1664, z1662, rfl, ⟨b1663.1, b1663.2⟩, ⟨by omega, h1666⟩⟩
/-! StrikeAwakeModel.surely(IZ)I  -/
abbrev uq_254 (r0 : Nat) (a1 : Int) (a2 : Int) (e : xD) (d : xD) (T : wq_T) (H : wq_H) : Option Value → wq_T → wq_H → Prop := fun r T' H' => T = T' ∧ WT T H' ∧ wfr [(42, 0), (42, 1), (42, 2), (42, 28), (42, 29), (51, 999), (52, 999)] T H H' ∧ ∃ z : Int, some (vI z) = r ∧ ((-2147483648) ≤ z ∧ z ≤ 2147483647) ∧ (((wKI H' r0 = 1) ∧ KNN T H' r0 e d))
set_option maxHeartbeats 4000000 in
theorem u_254 {kt : Nat → Option mc_E} {T : wq_T} {H : wq_H} {r0 : Nat} {a1 : Int} {a2 : Int} {e : xD} {d : xD} (hW : WT T H) (g0 : T.2.2.2 r0 = some 42) (i1 : (-2147483648) ≤ a1 ∧ a1 ≤ 2147483647) (i2 : 0 ≤ a2 ∧ a2 ≤ 1) (p0 : wKI H r0 = 1) (p1 : XW d) (p2 : ∀ h : Nat, d 0 0 ≤ (h : Int) → h < 24 → e 13 h = 0) (p3 : XN d) (p4 : ∀ h : Nat, h < 24 → 0 ≤ e 13 h ∧ e 13 h ≤ 100) (hRB_r0 : RB T H r0 e d) (hKNN_r0 : KNN T H r0 e d) : wpc kt 9 254 [.ref r0, vI a1, vI a2] T H (uq_254 r0 a1 a2 e d T H) := by
  refine wp_enter e254 (Nat.le_of_ble_eq_true rfl) rfl ?_
  have f0 : wfr [(42, 0), (42, 1), (42, 2), (42, 28), (42, 29), (51, 999), (52, 999)] T H H := wfr.rf
  show wp _ _ 254 0 [(0, .ref r0), (1, vI a1), (2, vI a2)] [] _ H _
  have _b := RB_b hW hRB_r0
  have _nu := RB_n3 hRB_r0
  have _lm := RB_lm hRB_r0
  refine wp_of e254 c254_0 (rw_aload_n (pc' := 1) (v := .ref r0) rfl rfl rfl ?_)
  refine wp_of e254 c254_1 (rw_iconst (pc' := 2) rfl ?_)
  refine wp_of e254 c254_2 (xp_I (pc' := 5) lf_9_48 hW g0 sh_42 (by decide) (by decide) ty_42_0 rfl rfl (by decide) (by decide) ⟨by decide, by decide⟩ rfl (fun H1353 e1354 w1355 => ?_))
  have f1356 := f0.put' e1354 g0 rfl
  have k1357 : H1353 r0 0 = 0 := wq_u_s e1354
  refine wp_of e254 c254_5 (rw_aload_n (pc' := 6) (v := .ref r0) rfl rfl rfl ?_)
  refine wp_of e254 c254_6 (rw_aload_n (pc' := 7) (v := .ref r0) rfl rfl rfl ?_)
  refine wp_of e254 c254_7 (rw_iload_n (pc' := 8) (z := a1) rfl rfl ?_)
  refine wp_of e254 c254_8 (xc_V (pc' := 11) (r := r0) (as := [vI a1]) (st := [.ref r0]) (lm_9_373) rfl rfl (Nat.le_of_ble_eq_true rfl) w1355 g0 sh_42 (by decide) rfl (by decide) (s_218 w1355 g0 ⟨i1.1, i1.2⟩) (fun R1358 T1359 H1360 p1361 => ?_))
  obtain ⟨e1362, e1364, z1366, e1363, b1367, p1365⟩ := p1361
  subst e1362
  subst e1363
  subst e1364
  show wp _ _ 254 11 [(0, .ref r0), (1, vI a1), (2, vI a2)] [vI z1366, .ref r0] _ H1353 _
  have k1368 : H1353 r0 3 = H r0 3 := (wq_u_j e1354 rfl)
  have k1369 : wKI H1353 r0 = wKI H r0 := (wKI_fr hW g0 ((wfr.rf (l := [(42, 0)])).put' e1354 g0 rfl) rfl)
  have h1370 : RB T H1353 r0 e d := (RB_fr hW g0 ((wfr.rf (l := [(42, 0)])).put' e1354 g0 rfl) rfl hRB_r0)
  have h1371 : KNN T H1353 r0 e d := (KNN_fr hW g0 ((wfr.rf (l := [(42, 0)])).put' e1354 g0 rfl) rfl hKNN_r0)
  refine wp_of e254 c254_11 (xc_V (pc' := 14) (r := r0) (as := [vI z1366]) (st := []) (lm_9_447) rfl rfl (Nat.le_of_ble_eq_true rfl) w1355 g0 sh_42 (by decide) rfl (by decide) (u_253 (e := e) (d := d) w1355 g0 ⟨b1367.1, b1367.2⟩ (by omega) (by omega) (by assumption) (by assumption) (by assumption) (by assumption) h1370 h1371) (fun R1372 T1373 H1374 p1375 => ?_))
  obtain ⟨e1376, w1378, f1379, z1380, e1377, b1381, p1382⟩ := p1375
  subst e1376
  subst e1377
  rcases p1382 with ⟨a1383, a1384, a1385, a1386, a1387, a1388, a1389, a1390, a1391, a1392⟩ | ⟨a1393, a1394, a1395, a1396, a1397, a1398, a1399⟩
  · have f1400 := f1356.tr f1379 rfl
    show wp _ _ 254 14 [(0, .ref r0), (1, vI a1), (2, vI a2)] [vI z1380] _ H1374 _
    refine wp_of e254 c254_14 (rw_istore_n (pc' := 15) (z := z1380) (L' := [(3, vI z1380), (0, .ref r0), (1, vI a1), (2, vI a2)]) rfl rfl rfl ?_)
    refine wp_of e254 c254_15 (rw_iload_n (pc' := 16) (z := z1380) rfl rfl ?_)
    refine wp_of e254 c254_16 (rw_if_le (p1 := 25) (p2 := 19) (by decide) rfl ⟨Int.le_trans (by decide) b1381.1, Int.le_trans b1381.2 (by decide)⟩ (fun c1401 => ?_) (fun c1401 => ?_))
    · refine wp_of e254 c254_25 (rw_iconst (pc' := 26) rfl ?_)
      refine wp_of e254 c254_26 (rw_istore (pc' := 28) (z := 0) (L' := [(4, vI 0), (3, vI z1380), (0, .ref r0), (1, vI a1), (2, vI a2)]) rfl rfl rfl ?_)
      refine wp_of e254 c254_28 (rw_iconst (pc' := 29) rfl ?_)
      refine wp_of e254 c254_29 (rw_istore (pc' := 31) (z := 0) (L' := [(5, vI 0), (4, vI 0), (3, vI z1380), (0, .ref r0), (1, vI a1), (2, vI a2)]) rfl rfl rfl ?_)
      have lp1647 : ∀ (n1648 : Nat) (v1650 : Int) (v1651 : Int) (H1652 : wq_H), WT T H1652 → wfr [(51, 999)] T H1374 H1652 → (0 ≤ v1650 ∧ v1650 ≤ 6) → (0 ≤ v1651 ∧ v1651 ≤ 16777215) → (6 - v1650).toNat = n1648 → wp kt 8 254 31 [(5, vI v1650), (4, vI v1651), (0, .ref r0), (1, vI a1), (2, vI a2)] [] T H1652 (uq_254 r0 a1 a2 e d T H) := by
        intro n1648
        induction n1648 using Nat.strongRecOn with
        | _ n1648 ih1649 =>
          intro v1650 v1651 H1652 w1653 f1654 b1655 b1656 m1657
          have f1658 := f1400.tr f1654 rfl
          refine wp_of e254 c254_31 (rw_iload (pc' := 33) (z := v1650) rfl rfl ?_)
          refine wp_of e254 c254_33 (rw_aload_n (pc' := 34) (v := .ref r0) rfl rfl rfl ?_)
          have k1659 : H1652 r0 3 = H1353 r0 3 := ((f1654 r0 3 _ g0 rfl).trans (f1379 r0 3 _ g0 rfl))
          refine wp_of e254 c254_34 (xg_O (pc' := 37) lf_9_337 w1653 g0 sh_42 (by decide) (by decide) ty_42_3 rfl rfl (fun q1661 => ?_) (fun r1660 q1661 g1662 => ?_))
          · exfalso
            omega
          · refine wp_of e254 c254_37 (xg_I (pc' := 40) lf_9_188 w1653 g1662 sh_54 (by decide) (by decide) ty_54_3 rfl rfl (fun b1663 b1664 => ?_))
            refine wp_of e254 c254_40 (rw_icmp_ge (p1 := 84) (p2 := 43) (by decide) rfl ⟨Int.le_trans (by decide) b1655.1, Int.le_trans b1655.2 (by decide)⟩ ⟨Int.le_trans (by decide) b1663, Int.le_trans b1664 (by decide)⟩ (fun c1665 => ?_) (fun c1665 => ?_))
            · refine wp_of e254 c254_84 (rw_aload_n (pc' := 85) (v := .ref r0) rfl rfl rfl ?_)
              refine wp_of e254 c254_85 (rw_iload (pc' := 87) (z := v1651) rfl rfl ?_)
              refine wp_of e254 c254_87 (xc_V (pc' := 90) (r := r0) (as := [vI v1651]) (st := []) (lm_9_58) rfl rfl (Nat.le_of_ble_eq_true rfl) w1653 g0 sh_42 (by decide) rfl (by decide) (s_209 w1653 g0 ⟨Int.le_trans (by decide) b1656.1, Int.le_trans b1656.2 (by decide)⟩) (fun R1666 T1667 H1668 p1669 => ?_))
              obtain ⟨e1670, w1672, f1673, z1674, e1671, b1675⟩ := p1669
              subst e1670
              subst e1671
              have f1676 := f1658.tr f1673 rfl
              show wp _ _ 254 90 [(5, vI v1650), (4, vI v1651), (0, .ref r0), (1, vI a1), (2, vI a2)] [vI z1674] _ H1668 _
              have k1677 : wKI H1668 r0 = wKI H1374 r0 := ((wKI_fr w1653 g0 f1673 rfl).trans (wKI_fr w1378 g0 f1654 rfl))
              have h1678 : KNN T H1668 r0 e d := (KNN_fr w1653 g0 f1673 rfl (KNN_fr w1378 g0 f1654 rfl a1391))
              exact wp_ireturn e254 c254_90 rfl ⟨rfl, w1672, f1676, z1674, rfl, ⟨b1675.1, b1675.2⟩, ⟨by omega, h1678⟩⟩
            · refine wp_of e254 c254_43 (rw_iload (pc' := 45) (z := v1651) rfl rfl ?_)
              refine wp_of e254 c254_45 (rw_aload_n (pc' := 46) (v := .ref r0) rfl rfl rfl ?_)
              refine wp_of e254 c254_46 (rw_iload (pc' := 48) (z := v1650) rfl rfl ?_)
              refine wp_of e254 c254_48 (rw_iload_n (pc' := 49) (z := a1) rfl rfl ?_)
              refine wp_of e254 c254_49 (xc_V (pc' := 52) (r := r0) (as := [vI v1650, vI a1]) (st := [vI v1651]) (lm_9_444) rfl rfl (Nat.le_of_ble_eq_true rfl) w1653 g0 sh_42 (by decide) rfl (by decide) (s_251 w1653 g0 ⟨b1655.1, by omega⟩ ⟨i1.1, i1.2⟩ q1661 g1662 (by omega)) (fun R1679 T1680 H1681 p1682 => ?_))
              obtain ⟨e1683, w1685, f1686, z1687, e1684, b1688⟩ := p1682
              subst e1683
              subst e1684
              have f1689 := f1658.tr f1686 rfl
              have f1690 := f1654.tr f1686 rfl
              show wp _ _ 254 52 [(5, vI v1650), (4, vI v1651), (0, .ref r0), (1, vI a1), (2, vI a2)] [vI z1687, vI v1651] _ H1681 _
              refine wp_of e254 c254_52 (rw_iload_n (pc' := 53) (z := a2) rfl rfl ?_)
              refine wp_of e254 c254_53 (rw_if_eq (p1 := 63) (p2 := 56) (by decide) rfl ⟨Int.le_trans (by decide) i2.1, Int.le_trans i2.2 (by decide)⟩ (fun c1691 => ?_) (fun c1691 => ?_))
              · refine wp_of e254 c254_63 (rw_iconst (pc' := 64) rfl ?_)
                refine wp_of e254 c254_64 (rw_icmp_ne (p1 := 74) (p2 := 67) (by decide) rfl ⟨b1688.1, b1688.2⟩ ⟨by decide, by decide⟩ (fun c1692 => ?_) (fun c1692 => ?_))
                · refine wp_of e254 c254_74 (rw_iconst (pc' := 75) rfl ?_)
                  refine wp_of e254 c254_75 (rw_ior (pc' := 76) rfl ?_)
                  obtain ⟨v1693, e1694⟩ : ∃ x : Int, x = wq_or v1651 0 := ⟨_, rfl⟩
                  rw [← e1694]
                  have b1695 : 0 ≤ v1693 ∧ v1693 ≤ 16777215 := by
                    rw [e1694]
                    exact wq_or_24 ⟨by omega, by omega⟩ ⟨by omega, by omega⟩
                  refine wp_of e254 c254_76 (rw_istore (pc' := 78) (z := v1693) (L' := [(4, vI v1693), (5, vI v1650), (0, .ref r0), (1, vI a1), (2, vI a2)]) rfl rfl rfl ?_)
                  refine wp_of e254 c254_78 (rw_iinc (pc' := 81) (z := v1650) (L' := [(5, vI (v1650 + 1)), (4, vI v1693), (0, .ref r0), (1, vI a1), (2, vI a2)]) rfl rfl rfl rfl ?_)
                  refine wp_of e254 c254_81 (rw_goto (p1 := 31) (by decide) ?_)
                  exact wp_lc (ks := [5, 4, 0, 1, 2]) (wl_c rfl (wl_c rfl (wl_c rfl (wl_c rfl (wl_c rfl wl_n))))) rfl (by decide) (ih1649 _ (by omega) (v1650 + 1) v1693 H1681 w1685 f1690 ⟨by omega, by omega⟩ ⟨b1695.1, b1695.2⟩ rfl)
                · refine wp_of e254 c254_67 (rw_iconst (pc' := 68) rfl ?_)
                  refine wp_of e254 c254_68 (rw_iload (pc' := 70) (z := v1650) rfl rfl ?_)
                  refine wp_of e254 c254_70 (rw_ishl (pc' := 71) rfl ?_)
                  obtain ⟨v1696, e1697⟩ : ∃ x : Int, x = wq_shl 1 v1650 := ⟨_, rfl⟩
                  rw [← e1697]
                  have b1698 : 1 ≤ v1696 ∧ v1696 ≤ 64 := by
                    rw [e1697]
                    exact wq_shl1_6 ⟨by omega, by omega⟩
                  refine wp_of e254 c254_71 (rw_goto (p1 := 75) (by decide) ?_)
                  refine wp_of e254 c254_75 (rw_ior (pc' := 76) rfl ?_)
                  obtain ⟨v1699, e1700⟩ : ∃ x : Int, x = wq_or v1651 v1696 := ⟨_, rfl⟩
                  rw [← e1700]
                  have b1701 : 0 ≤ v1699 ∧ v1699 ≤ 16777215 := by
                    rw [e1700]
                    exact wq_or_24 ⟨by omega, by omega⟩ ⟨by omega, by omega⟩
                  refine wp_of e254 c254_76 (rw_istore (pc' := 78) (z := v1699) (L' := [(4, vI v1699), (5, vI v1650), (0, .ref r0), (1, vI a1), (2, vI a2)]) rfl rfl rfl ?_)
                  refine wp_of e254 c254_78 (rw_iinc (pc' := 81) (z := v1650) (L' := [(5, vI (v1650 + 1)), (4, vI v1699), (0, .ref r0), (1, vI a1), (2, vI a2)]) rfl rfl rfl rfl ?_)
                  refine wp_of e254 c254_81 (rw_goto (p1 := 31) (by decide) ?_)
                  exact wp_lc (ks := [5, 4, 0, 1, 2]) (wl_c rfl (wl_c rfl (wl_c rfl (wl_c rfl (wl_c rfl wl_n))))) rfl (by decide) (ih1649 _ (by omega) (v1650 + 1) v1699 H1681 w1685 f1690 ⟨by omega, by omega⟩ ⟨b1701.1, b1701.2⟩ rfl)
              · refine wp_of e254 c254_56 (rw_aload_n (pc' := 57) (v := .ref r0) rfl rfl rfl ?_)
                refine wp_of e254 c254_57 (xg_I (pc' := 60) lf_9_422 w1685 g0 sh_42 (by decide) (by decide) ty_42_29 rfl rfl (fun b1702 b1703 => ?_))
                refine wp_of e254 c254_60 (rw_goto (p1 := 64) (by decide) ?_)
                refine wp_of e254 c254_64 (rw_icmp_ne (p1 := 74) (p2 := 67) (by decide) rfl ⟨b1688.1, b1688.2⟩ ⟨Int.le_trans (by decide) b1702, Int.le_trans b1703 (by decide)⟩ (fun c1704 => ?_) (fun c1704 => ?_))
                · refine wp_of e254 c254_74 (rw_iconst (pc' := 75) rfl ?_)
                  refine wp_of e254 c254_75 (rw_ior (pc' := 76) rfl ?_)
                  obtain ⟨v1705, e1706⟩ : ∃ x : Int, x = wq_or v1651 0 := ⟨_, rfl⟩
                  rw [← e1706]
                  have b1707 : 0 ≤ v1705 ∧ v1705 ≤ 16777215 := by
                    rw [e1706]
                    exact wq_or_24 ⟨by omega, by omega⟩ ⟨by omega, by omega⟩
                  refine wp_of e254 c254_76 (rw_istore (pc' := 78) (z := v1705) (L' := [(4, vI v1705), (5, vI v1650), (0, .ref r0), (1, vI a1), (2, vI a2)]) rfl rfl rfl ?_)
                  refine wp_of e254 c254_78 (rw_iinc (pc' := 81) (z := v1650) (L' := [(5, vI (v1650 + 1)), (4, vI v1705), (0, .ref r0), (1, vI a1), (2, vI a2)]) rfl rfl rfl rfl ?_)
                  refine wp_of e254 c254_81 (rw_goto (p1 := 31) (by decide) ?_)
                  exact wp_lc (ks := [5, 4, 0, 1, 2]) (wl_c rfl (wl_c rfl (wl_c rfl (wl_c rfl (wl_c rfl wl_n))))) rfl (by decide) (ih1649 _ (by omega) (v1650 + 1) v1705 H1681 w1685 f1690 ⟨by omega, by omega⟩ ⟨b1707.1, b1707.2⟩ rfl)
                · refine wp_of e254 c254_67 (rw_iconst (pc' := 68) rfl ?_)
                  refine wp_of e254 c254_68 (rw_iload (pc' := 70) (z := v1650) rfl rfl ?_)
                  refine wp_of e254 c254_70 (rw_ishl (pc' := 71) rfl ?_)
                  obtain ⟨v1708, e1709⟩ : ∃ x : Int, x = wq_shl 1 v1650 := ⟨_, rfl⟩
                  rw [← e1709]
                  have b1710 : 1 ≤ v1708 ∧ v1708 ≤ 64 := by
                    rw [e1709]
                    exact wq_shl1_6 ⟨by omega, by omega⟩
                  refine wp_of e254 c254_71 (rw_goto (p1 := 75) (by decide) ?_)
                  refine wp_of e254 c254_75 (rw_ior (pc' := 76) rfl ?_)
                  obtain ⟨v1711, e1712⟩ : ∃ x : Int, x = wq_or v1651 v1708 := ⟨_, rfl⟩
                  rw [← e1712]
                  have b1713 : 0 ≤ v1711 ∧ v1711 ≤ 16777215 := by
                    rw [e1712]
                    exact wq_or_24 ⟨by omega, by omega⟩ ⟨by omega, by omega⟩
                  refine wp_of e254 c254_76 (rw_istore (pc' := 78) (z := v1711) (L' := [(4, vI v1711), (5, vI v1650), (0, .ref r0), (1, vI a1), (2, vI a2)]) rfl rfl rfl ?_)
                  refine wp_of e254 c254_78 (rw_iinc (pc' := 81) (z := v1650) (L' := [(5, vI (v1650 + 1)), (4, vI v1711), (0, .ref r0), (1, vI a1), (2, vI a2)]) rfl rfl rfl rfl ?_)
                  refine wp_of e254 c254_81 (rw_goto (p1 := 31) (by decide) ?_)
                  exact wp_lc (ks := [5, 4, 0, 1, 2]) (wl_c rfl (wl_c rfl (wl_c rfl (wl_c rfl (wl_c rfl wl_n))))) rfl (by decide) (ih1649 _ (by omega) (v1650 + 1) v1711 H1681 w1685 f1690 ⟨by omega, by omega⟩ ⟨b1713.1, b1713.2⟩ rfl)
      exact wp_lc (ks := [5, 4, 3, 0, 1, 2]) (wl_c rfl (wl_c rfl (wl_c rfl (wl_c rfl (wl_c rfl wl_n))))) rfl (by decide) (lp1647 _ 0 0 H1374 w1378 wfr.rf ⟨by decide, by decide⟩ ⟨by decide, by decide⟩ rfl)
    · exfalso
      omega
  · have f1714 := f1356.tr f1379 rfl
    show wp _ _ 254 14 [(0, .ref r0), (1, vI a1), (2, vI a2)] [vI z1380] _ H1374 _
    refine wp_of e254 c254_14 (rw_istore_n (pc' := 15) (z := z1380) (L' := [(3, vI z1380), (0, .ref r0), (1, vI a1), (2, vI a2)]) rfl rfl rfl ?_)
    refine wp_of e254 c254_15 (rw_iload_n (pc' := 16) (z := z1380) rfl rfl ?_)
    refine wp_of e254 c254_16 (rw_if_le (p1 := 25) (p2 := 19) (by decide) rfl ⟨Int.le_trans (by decide) b1381.1, Int.le_trans b1381.2 (by decide)⟩ (fun c1715 => ?_) (fun c1715 => ?_))
    · exfalso
      omega
    · refine wp_of e254 c254_19 (rw_aload_n (pc' := 20) (v := .ref r0) rfl rfl rfl ?_)
      refine wp_of e254 c254_20 (rw_iload_n (pc' := 21) (z := z1380) rfl rfl ?_)
      refine wp_of e254 c254_21 (xc_V (pc' := 24) (r := r0) (as := [vI z1380]) (st := []) (lm_9_54) rfl rfl (Nat.le_of_ble_eq_true rfl) w1378 g0 sh_42 (by decide) rfl (by decide) (s_170 w1378 g0 ⟨Int.le_trans (by decide) b1381.1, Int.le_trans b1381.2 (by decide)⟩) (fun R1716 T1717 H1718 p1719 => ?_))
      obtain ⟨e1720, w1722, f1723, z1724, e1721, b1725⟩ := p1719
      subst e1720
      subst e1721
      have f1726 := f1714.tr f1723 rfl
      show wp _ _ 254 24 [(3, vI z1380), (0, .ref r0), (1, vI a1), (2, vI a2)] [vI z1724] _ H1718 _
      have k1727 : wKI H1718 r0 = wKI H1374 r0 := (wKI_fr w1378 g0 f1723 rfl)
      have h1728 : KNN T H1718 r0 e d := (KNN_fr w1378 g0 f1723 rfl a1399)
      exact wp_ireturn e254 c254_24 rfl ⟨rfl, w1722, f1726, z1724, rfl, ⟨b1725.1, b1725.2⟩, ⟨by omega, h1728⟩⟩
