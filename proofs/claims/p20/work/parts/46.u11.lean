/-! what methods do (own work, written by wip/gen3/sx3.py) -/
/-! StrikeAwakeModel.world(II)I  -/
abbrev uq_245 (r0 : Nat) (a1 : Int) (a2 : Int) (e : xD) (d : xD) (T : wq_T) (H : wq_H) : Option Value → wq_T → wq_H → Prop := fun r T' H' => T = T' ∧ WT T H' ∧ wfr [(42, 0), (42, 1), (42, 2), (42, 28), (42, 29), (51, 999), (52, 999)] T H H' ∧ ∃ z : Int, some (vI z) = r ∧ ((-2147483648) ≤ z ∧ z ≤ 2147483647) ∧ (((wKI H' r0 = 1) ∧ KNN T H' r0 e d))
set_option maxHeartbeats 4000000 in
theorem u_245 {kt : Nat → Option mc_E} {T : wq_T} {H : wq_H} {r0 : Nat} {a1 : Int} {a2 : Int} {e : xD} {d : xD} (hW : WT T H) (g0 : T.2.2.2 r0 = some 42) (i1 : (-2147483648) ≤ a1 ∧ a1 ≤ 2147483647) (i2 : (-2147483648) ≤ a2 ∧ a2 ≤ 2147483647) (p0 : wKI H r0 = 1) (p1 : XW d) (p2 : ∀ h : Nat, d 0 0 ≤ (h : Int) → h < 24 → e 13 h = 0) (p3 : XN d) (p4 : ∀ h : Nat, h < 24 → 0 ≤ e 13 h ∧ e 13 h ≤ 100) (hRB_r0 : RB T H r0 e d) (hKNN_r0 : KNN T H r0 e d) : wpc kt 8 245 [.ref r0, vI a1, vI a2] T H (uq_245 r0 a1 a2 e d T H) := by
  refine wp_enter e245 (Nat.le_of_ble_eq_true rfl) rfl ?_
  have f0 : wfr [(42, 0), (42, 1), (42, 2), (42, 28), (42, 29), (51, 999), (52, 999)] T H H := wfr.rf
  show wp _ _ 245 0 [(0, .ref r0), (1, vI a1), (2, vI a2)] [] _ H _
  have _b := RB_b hW hRB_r0
  have _nu := RB_n3 hRB_r0
  have _lm := RB_lm hRB_r0
  refine wp_of e245 c245_0 (rw_aload_n (pc' := 1) (v := .ref r0) rfl rfl rfl ?_)
  refine wp_of e245 c245_1 (rw_iconst (pc' := 2) rfl ?_)
  refine wp_of e245 c245_2 (xp_I (pc' := 5) lf_9_48 hW g0 sh_42 (by decide) (by decide) ty_42_0 rfl rfl (by decide) (by decide) ⟨by decide, by decide⟩ rfl (fun H1297 e1298 w1299 => ?_))
  have f1300 := f0.put' e1298 g0 rfl
  have k1301 : H1297 r0 0 = 0 := wq_u_s e1298
  refine wp_of e245 c245_5 (rw_aload_n (pc' := 6) (v := .ref r0) rfl rfl rfl ?_)
  refine wp_of e245 c245_6 (rw_aload_n (pc' := 7) (v := .ref r0) rfl rfl rfl ?_)
  refine wp_of e245 c245_7 (rw_iload_n (pc' := 8) (z := a2) rfl rfl ?_)
  refine wp_of e245 c245_8 (xc_V (pc' := 11) (r := r0) (as := [vI a2]) (st := [.ref r0]) (lm_9_364) rfl rfl (Nat.le_of_ble_eq_true rfl) w1299 g0 sh_42 (by decide) rfl (by decide) (s_213 w1299 g0 ⟨i2.1, i2.2⟩) (fun R1302 T1303 H1304 p1305 => ?_))
  obtain ⟨e1306, e1308, z1310, e1307, b1311, p1309⟩ := p1305
  subst e1306
  subst e1307
  subst e1308
  show wp _ _ 245 11 [(0, .ref r0), (1, vI a1), (2, vI a2)] [vI z1310, .ref r0] _ H1297 _
  refine wp_of e245 c245_11 (rw_if_eq (p1 := 22) (p2 := 14) (by decide) rfl ⟨Int.le_trans (by decide) b1311.1, Int.le_trans b1311.2 (by decide)⟩ (fun c1312 => ?_) (fun c1312 => ?_))
  · refine wp_of e245 c245_22 (rw_iconst (pc' := 23) rfl ?_)
    have k1313 : H1297 r0 3 = H r0 3 := (wq_u_j e1298 rfl)
    have k1314 : wKI H1297 r0 = wKI H r0 := (wKI_fr hW g0 ((wfr.rf (l := [(42, 0)])).put' e1298 g0 rfl) rfl)
    have h1315 : RB T H1297 r0 e d := (RB_fr hW g0 ((wfr.rf (l := [(42, 0)])).put' e1298 g0 rfl) rfl hRB_r0)
    have h1316 : KNN T H1297 r0 e d := (KNN_fr hW g0 ((wfr.rf (l := [(42, 0)])).put' e1298 g0 rfl) rfl hKNN_r0)
    refine wp_of e245 c245_23 (xc_V (pc' := 26) (r := r0) (as := [vI 0]) (st := []) (lm_9_433) rfl rfl (Nat.le_of_ble_eq_true rfl) w1299 g0 sh_42 (by decide) rfl (by decide) (u_241 (e := e) (d := d) w1299 g0 ⟨by decide, by decide⟩ (by omega) (by omega) (by assumption) (by assumption) (by assumption) (by assumption) h1315 h1316) (fun R1317 T1318 H1319 p1320 => ?_))
    obtain ⟨e1321, w1323, f1324, z1325, e1322, b1326, p1327⟩ := p1320
    subst e1321
    subst e1322
    rcases p1327 with ⟨a1328, a1329, a1330, a1331, a1332, a1333, a1334, a1335, a1336⟩ | ⟨a1337, a1338, a1339, a1340, a1341, a1342, a1343⟩
    · have f1344 := f1300.tr f1324 rfl
      show wp _ _ 245 26 [(0, .ref r0), (1, vI a1), (2, vI a2)] [vI z1325] _ H1319 _
      have k1345 : wLM H1319 r0 = wLM H r0 := ((wLM_fr w1299 g0 f1324 rfl).trans (wLM_fr hW g0 ((wfr.rf (l := [(42, 0)])).put' e1298 g0 rfl) rfl))
      refine wp_of e245 c245_26 (rw_istore_n (pc' := 27) (z := z1325) (L' := [(3, vI z1325), (0, .ref r0), (1, vI a1), (2, vI a2)]) rfl rfl rfl ?_)
      refine wp_of e245 c245_27 (rw_iload_n (pc' := 28) (z := z1325) rfl rfl ?_)
      refine wp_of e245 c245_28 (rw_if_ne (p1 := 41) (p2 := 31) (by decide) rfl ⟨Int.le_trans (by decide) b1326.1, Int.le_trans b1326.2 (by decide)⟩ (fun c1346 => ?_) (fun c1346 => ?_))
      · exfalso
        omega
      · refine wp_of e245 c245_31 (rw_iload_n (pc' := 32) (z := a1) rfl rfl ?_)
        refine wp_of e245 c245_32 (rw_aload_n (pc' := 33) (v := .ref r0) rfl rfl rfl ?_)
        refine wp_of e245 c245_33 (xg_I (pc' := 36) lf_9_422 w1323 g0 sh_42 (by decide) (by decide) ty_42_29 rfl rfl (fun b1347 b1348 => ?_))
        refine wp_of e245 c245_36 (rw_icmp_lt (p1 := 41) (p2 := 39) (by decide) rfl ⟨i1.1, i1.2⟩ ⟨Int.le_trans (by decide) b1347, Int.le_trans b1348 (by decide)⟩ (fun c1349 => ?_) (fun c1349 => ?_))
        · refine wp_of e245 c245_41 (rw_iload_n (pc' := 42) (z := z1325) rfl rfl ?_)
          refine wp_of e245 c245_42 (rw_if_le (p1 := 51) (p2 := 45) (by decide) rfl ⟨Int.le_trans (by decide) b1326.1, Int.le_trans b1326.2 (by decide)⟩ (fun c1350 => ?_) (fun c1350 => ?_))
          · refine wp_of e245 c245_51 (rw_aload_n (pc' := 52) (v := .ref r0) rfl rfl rfl ?_)
            refine wp_of e245 c245_52 (rw_aload_n (pc' := 53) (v := .ref r0) rfl rfl rfl ?_)
            refine wp_of e245 c245_53 (xg_R (pc' := 56) lf_9_42 w1323 g0 sh_42 (by decide) (by decide) ty_42_30 rfl rfl (fun r1351 q1352 g1353 => ?_))
            refine wp_of e245 c245_56 (rw_iload_n (pc' := 57) (z := a1) rfl rfl ?_)
            refine wp_of e245 c245_57 (xa_I (so := 0) (pc' := 58) w1323 g1353 sh_52 (by decide) (ty_52 _) (by omega) (by omega) rfl (fun b1354 b1355 => ?_))
            have k1356 : H1319 r0 3 = H1297 r0 3 := (f1324 r0 3 _ g0 rfl)
            obtain ⟨r1357, q1358, g1359⟩ := (w1323.opt g0 (t' := 54) (n := 33) (j := 3) (p := 0) (q := 0) rfl (by decide) rfl).resolve_left (by omega)
            refine wp_of e245 c245_58 (xc_V (pc' := 61) (r := r0) (as := [vI (H1319 r1351 (a1.toNat))]) (st := []) (lm_9_425) rfl rfl (Nat.le_of_ble_eq_true rfl) w1323 g0 sh_42 (by decide) rfl (by decide) (s_243 w1323 g0 ⟨b1354, Int.le_trans b1355 (by decide)⟩ q1358 g1359 (by omega)) (fun R1360 T1361 H1362 p1363 => ?_))
            obtain ⟨e1364, w1366, f1367, e1365⟩ := p1363
            subst e1364
            subst e1365
            have f1368 := f1344.tr f1367 rfl
            show wp _ _ 245 61 [(3, vI z1325), (0, .ref r0), (1, vI a1), (2, vI a2)] [] _ H1362 _
            refine wp_of e245 c245_61 (rw_aload_n (pc' := 62) (v := .ref r0) rfl rfl rfl ?_)
            refine wp_of e245 c245_62 (rw_aload_n (pc' := 63) (v := .ref r0) rfl rfl rfl ?_)
            refine wp_of e245 c245_63 (xg_R (pc' := 66) lf_9_39 w1366 g0 sh_42 (by decide) (by decide) ty_42_27 rfl rfl (fun r1369 q1370 g1371 => ?_))
            refine wp_of e245 c245_66 (rw_iload_n (pc' := 67) (z := a2) rfl rfl ?_)
            refine wp_of e245 c245_67 (xa_I (so := 0) (pc' := 68) w1366 g1371 sh_51 (by decide) (ty_51 _) (by omega) (by omega) rfl (fun b1372 b1373 => ?_))
            refine wp_of e245 c245_68 (xc_V (pc' := 71) (r := r0) (as := [vI (H1362 r1369 (a2.toNat))]) (st := []) (lm_9_58) rfl rfl (Nat.le_of_ble_eq_true rfl) w1366 g0 sh_42 (by decide) rfl (by decide) (s_209 w1366 g0 ⟨Int.le_trans (by decide) b1372, Int.le_trans b1373 (by decide)⟩) (fun R1374 T1375 H1376 p1377 => ?_))
            obtain ⟨e1378, w1380, f1381, z1382, e1379, b1383⟩ := p1377
            subst e1378
            subst e1379
            have f1384 := f1368.tr f1381 rfl
            show wp _ _ 245 71 [(3, vI z1325), (0, .ref r0), (1, vI a1), (2, vI a2)] [vI z1382] _ H1376 _
            have k1385 : wKI H1376 r0 = wKI H1319 r0 := ((wKI_fr w1366 g0 f1381 rfl).trans (wKI_fr w1323 g0 f1367 rfl))
            have h1386 : KNN T H1376 r0 e d := (KNN_fr w1366 g0 f1381 rfl (KNN_fr w1323 g0 f1367 rfl a1335))
            exact wp_ireturn e245 c245_71 rfl ⟨rfl, w1380, f1384, z1382, rfl, ⟨b1383.1, b1383.2⟩, ⟨by omega, h1386⟩⟩
          · exfalso
            omega
        · refine wp_of e245 c245_39 (rw_iconst (pc' := 40) rfl ?_)
          refine wp_of e245 c245_40 (rw_istore_n (pc' := 41) (z := 1) (L' := [(3, vI 1), (0, .ref r0), (1, vI a1), (2, vI a2)]) rfl rfl rfl ?_)
          refine wp_of e245 c245_41 (rw_iload_n (pc' := 42) (z := 1) rfl rfl ?_)
          refine wp_of e245 c245_42 (rw_if_le (p1 := 51) (p2 := 45) (by decide) rfl ⟨by decide, by decide⟩ (fun c1387 => ?_) (fun c1387 => ?_))
          · exfalso
            omega
          · refine wp_of e245 c245_45 (rw_aload_n (pc' := 46) (v := .ref r0) rfl rfl rfl ?_)
            refine wp_of e245 c245_46 (rw_iload_n (pc' := 47) (z := 1) rfl rfl ?_)
            refine wp_of e245 c245_47 (xc_V (pc' := 50) (r := r0) (as := [vI 1]) (st := []) (lm_9_54) rfl rfl (Nat.le_of_ble_eq_true rfl) w1323 g0 sh_42 (by decide) rfl (by decide) (s_170 w1323 g0 ⟨by decide, by decide⟩) (fun R1388 T1389 H1390 p1391 => ?_))
            obtain ⟨e1392, w1394, f1395, z1396, e1393, b1397⟩ := p1391
            subst e1392
            subst e1393
            have f1398 := f1344.tr f1395 rfl
            show wp _ _ 245 50 [(3, vI 1), (0, .ref r0), (1, vI a1), (2, vI a2)] [vI z1396] _ H1390 _
            have k1399 : wKI H1390 r0 = wKI H1319 r0 := (wKI_fr w1323 g0 f1395 rfl)
            have h1400 : KNN T H1390 r0 e d := (KNN_fr w1323 g0 f1395 rfl a1335)
            exact wp_ireturn e245 c245_50 rfl ⟨rfl, w1394, f1398, z1396, rfl, ⟨b1397.1, b1397.2⟩, ⟨by omega, h1400⟩⟩
    · have f1401 := f1300.tr f1324 rfl
      show wp _ _ 245 26 [(0, .ref r0), (1, vI a1), (2, vI a2)] [vI z1325] _ H1319 _
      have k1402 : wLM H1319 r0 = wLM H r0 := ((wLM_fr w1299 g0 f1324 rfl).trans (wLM_fr hW g0 ((wfr.rf (l := [(42, 0)])).put' e1298 g0 rfl) rfl))
      refine wp_of e245 c245_26 (rw_istore_n (pc' := 27) (z := z1325) (L' := [(3, vI z1325), (0, .ref r0), (1, vI a1), (2, vI a2)]) rfl rfl rfl ?_)
      refine wp_of e245 c245_27 (rw_iload_n (pc' := 28) (z := z1325) rfl rfl ?_)
      refine wp_of e245 c245_28 (rw_if_ne (p1 := 41) (p2 := 31) (by decide) rfl ⟨Int.le_trans (by decide) b1326.1, Int.le_trans b1326.2 (by decide)⟩ (fun c1403 => ?_) (fun c1403 => ?_))
      · refine wp_of e245 c245_41 (rw_iload_n (pc' := 42) (z := z1325) rfl rfl ?_)
        refine wp_of e245 c245_42 (rw_if_le (p1 := 51) (p2 := 45) (by decide) rfl ⟨Int.le_trans (by decide) b1326.1, Int.le_trans b1326.2 (by decide)⟩ (fun c1404 => ?_) (fun c1404 => ?_))
        · exfalso
          omega
        · refine wp_of e245 c245_45 (rw_aload_n (pc' := 46) (v := .ref r0) rfl rfl rfl ?_)
          refine wp_of e245 c245_46 (rw_iload_n (pc' := 47) (z := z1325) rfl rfl ?_)
          refine wp_of e245 c245_47 (xc_V (pc' := 50) (r := r0) (as := [vI z1325]) (st := []) (lm_9_54) rfl rfl (Nat.le_of_ble_eq_true rfl) w1323 g0 sh_42 (by decide) rfl (by decide) (s_170 w1323 g0 ⟨Int.le_trans (by decide) b1326.1, Int.le_trans b1326.2 (by decide)⟩) (fun R1405 T1406 H1407 p1408 => ?_))
          obtain ⟨e1409, w1411, f1412, z1413, e1410, b1414⟩ := p1408
          subst e1409
          subst e1410
          have f1415 := f1401.tr f1412 rfl
          show wp _ _ 245 50 [(3, vI z1325), (0, .ref r0), (1, vI a1), (2, vI a2)] [vI z1413] _ H1407 _
          have k1416 : wKI H1407 r0 = wKI H1319 r0 := (wKI_fr w1323 g0 f1412 rfl)
          have h1417 : KNN T H1407 r0 e d := (KNN_fr w1323 g0 f1412 rfl a1343)
          exact wp_ireturn e245 c245_50 rfl ⟨rfl, w1411, f1415, z1413, rfl, ⟨b1414.1, b1414.2⟩, ⟨by omega, h1417⟩⟩
      · exfalso
        omega
  · refine wp_of e245 c245_14 (rw_iload_n (pc' := 15) (z := a1) rfl rfl ?_)
    refine wp_of e245 c245_15 (rw_if_lt (p1 := 22) (p2 := 18) (by decide) rfl ⟨i1.1, i1.2⟩ (fun c1418 => ?_) (fun c1418 => ?_))
    · refine wp_of e245 c245_22 (rw_iconst (pc' := 23) rfl ?_)
      have k1419 : H1297 r0 3 = H r0 3 := (wq_u_j e1298 rfl)
      have k1420 : wKI H1297 r0 = wKI H r0 := (wKI_fr hW g0 ((wfr.rf (l := [(42, 0)])).put' e1298 g0 rfl) rfl)
      have h1421 : RB T H1297 r0 e d := (RB_fr hW g0 ((wfr.rf (l := [(42, 0)])).put' e1298 g0 rfl) rfl hRB_r0)
      have h1422 : KNN T H1297 r0 e d := (KNN_fr hW g0 ((wfr.rf (l := [(42, 0)])).put' e1298 g0 rfl) rfl hKNN_r0)
      refine wp_of e245 c245_23 (xc_V (pc' := 26) (r := r0) (as := [vI 0]) (st := []) (lm_9_433) rfl rfl (Nat.le_of_ble_eq_true rfl) w1299 g0 sh_42 (by decide) rfl (by decide) (u_241 (e := e) (d := d) w1299 g0 ⟨by decide, by decide⟩ (by omega) (by omega) (by assumption) (by assumption) (by assumption) (by assumption) h1421 h1422) (fun R1423 T1424 H1425 p1426 => ?_))
      obtain ⟨e1427, w1429, f1430, z1431, e1428, b1432, p1433⟩ := p1426
      subst e1427
      subst e1428
      rcases p1433 with ⟨a1434, a1435, a1436, a1437, a1438, a1439, a1440, a1441, a1442⟩ | ⟨a1443, a1444, a1445, a1446, a1447, a1448, a1449⟩
      · have f1450 := f1300.tr f1430 rfl
        show wp _ _ 245 26 [(0, .ref r0), (1, vI a1), (2, vI a2)] [vI z1431] _ H1425 _
        have k1451 : wLM H1425 r0 = wLM H r0 := ((wLM_fr w1299 g0 f1430 rfl).trans (wLM_fr hW g0 ((wfr.rf (l := [(42, 0)])).put' e1298 g0 rfl) rfl))
        refine wp_of e245 c245_26 (rw_istore_n (pc' := 27) (z := z1431) (L' := [(3, vI z1431), (0, .ref r0), (1, vI a1), (2, vI a2)]) rfl rfl rfl ?_)
        refine wp_of e245 c245_27 (rw_iload_n (pc' := 28) (z := z1431) rfl rfl ?_)
        refine wp_of e245 c245_28 (rw_if_ne (p1 := 41) (p2 := 31) (by decide) rfl ⟨Int.le_trans (by decide) b1432.1, Int.le_trans b1432.2 (by decide)⟩ (fun c1452 => ?_) (fun c1452 => ?_))
        · exfalso
          omega
        · refine wp_of e245 c245_31 (rw_iload_n (pc' := 32) (z := a1) rfl rfl ?_)
          refine wp_of e245 c245_32 (rw_aload_n (pc' := 33) (v := .ref r0) rfl rfl rfl ?_)
          refine wp_of e245 c245_33 (xg_I (pc' := 36) lf_9_422 w1429 g0 sh_42 (by decide) (by decide) ty_42_29 rfl rfl (fun b1453 b1454 => ?_))
          refine wp_of e245 c245_36 (rw_icmp_lt (p1 := 41) (p2 := 39) (by decide) rfl ⟨i1.1, i1.2⟩ ⟨Int.le_trans (by decide) b1453, Int.le_trans b1454 (by decide)⟩ (fun c1455 => ?_) (fun c1455 => ?_))
          · refine wp_of e245 c245_41 (rw_iload_n (pc' := 42) (z := z1431) rfl rfl ?_)
            refine wp_of e245 c245_42 (rw_if_le (p1 := 51) (p2 := 45) (by decide) rfl ⟨Int.le_trans (by decide) b1432.1, Int.le_trans b1432.2 (by decide)⟩ (fun c1456 => ?_) (fun c1456 => ?_))
            · refine wp_of e245 c245_51 (rw_aload_n (pc' := 52) (v := .ref r0) rfl rfl rfl ?_)
              refine wp_of e245 c245_52 (rw_aload_n (pc' := 53) (v := .ref r0) rfl rfl rfl ?_)
              refine wp_of e245 c245_53 (xg_R (pc' := 56) lf_9_42 w1429 g0 sh_42 (by decide) (by decide) ty_42_30 rfl rfl (fun r1457 q1458 g1459 => ?_))
              refine wp_of e245 c245_56 (rw_iload_n (pc' := 57) (z := a1) rfl rfl ?_)
              refine wp_of e245 c245_57 (xa_I (so := 0) (pc' := 58) w1429 g1459 sh_52 (by decide) (ty_52 _) (by omega) (by omega) rfl (fun b1460 b1461 => ?_))
              have k1462 : H1425 r0 3 = H1297 r0 3 := (f1430 r0 3 _ g0 rfl)
              obtain ⟨r1463, q1464, g1465⟩ := (w1429.opt g0 (t' := 54) (n := 33) (j := 3) (p := 0) (q := 0) rfl (by decide) rfl).resolve_left (by omega)
              refine wp_of e245 c245_58 (xc_V (pc' := 61) (r := r0) (as := [vI (H1425 r1457 (a1.toNat))]) (st := []) (lm_9_425) rfl rfl (Nat.le_of_ble_eq_true rfl) w1429 g0 sh_42 (by decide) rfl (by decide) (s_243 w1429 g0 ⟨b1460, Int.le_trans b1461 (by decide)⟩ q1464 g1465 (by omega)) (fun R1466 T1467 H1468 p1469 => ?_))
              obtain ⟨e1470, w1472, f1473, e1471⟩ := p1469
              subst e1470
              subst e1471
              have f1474 := f1450.tr f1473 rfl
              show wp _ _ 245 61 [(3, vI z1431), (0, .ref r0), (1, vI a1), (2, vI a2)] [] _ H1468 _
              refine wp_of e245 c245_61 (rw_aload_n (pc' := 62) (v := .ref r0) rfl rfl rfl ?_)
              refine wp_of e245 c245_62 (rw_aload_n (pc' := 63) (v := .ref r0) rfl rfl rfl ?_)
              refine wp_of e245 c245_63 (xg_R (pc' := 66) lf_9_39 w1472 g0 sh_42 (by decide) (by decide) ty_42_27 rfl rfl (fun r1475 q1476 g1477 => ?_))
              refine wp_of e245 c245_66 (rw_iload_n (pc' := 67) (z := a2) rfl rfl ?_)
              refine wp_of e245 c245_67 (xa_I (so := 0) (pc' := 68) w1472 g1477 sh_51 (by decide) (ty_51 _) (by omega) (by omega) rfl (fun b1478 b1479 => ?_))
              refine wp_of e245 c245_68 (xc_V (pc' := 71) (r := r0) (as := [vI (H1468 r1475 (a2.toNat))]) (st := []) (lm_9_58) rfl rfl (Nat.le_of_ble_eq_true rfl) w1472 g0 sh_42 (by decide) rfl (by decide) (s_209 w1472 g0 ⟨Int.le_trans (by decide) b1478, Int.le_trans b1479 (by decide)⟩) (fun R1480 T1481 H1482 p1483 => ?_))
              obtain ⟨e1484, w1486, f1487, z1488, e1485, b1489⟩ := p1483
              subst e1484
              subst e1485
              have f1490 := f1474.tr f1487 rfl
              show wp _ _ 245 71 [(3, vI z1431), (0, .ref r0), (1, vI a1), (2, vI a2)] [vI z1488] _ H1482 _
              have k1491 : wKI H1482 r0 = wKI H1425 r0 := ((wKI_fr w1472 g0 f1487 rfl).trans (wKI_fr w1429 g0 f1473 rfl))
              have h1492 : KNN T H1482 r0 e d := (KNN_fr w1472 g0 f1487 rfl (KNN_fr w1429 g0 f1473 rfl a1441))
              exact wp_ireturn e245 c245_71 rfl ⟨rfl, w1486, f1490, z1488, rfl, ⟨b1489.1, b1489.2⟩, ⟨by omega, h1492⟩⟩
            · exfalso
              omega
          · exfalso
            omega
      · have f1493 := f1300.tr f1430 rfl
        show wp _ _ 245 26 [(0, .ref r0), (1, vI a1), (2, vI a2)] [vI z1431] _ H1425 _
        have k1494 : wLM H1425 r0 = wLM H r0 := ((wLM_fr w1299 g0 f1430 rfl).trans (wLM_fr hW g0 ((wfr.rf (l := [(42, 0)])).put' e1298 g0 rfl) rfl))
        refine wp_of e245 c245_26 (rw_istore_n (pc' := 27) (z := z1431) (L' := [(3, vI z1431), (0, .ref r0), (1, vI a1), (2, vI a2)]) rfl rfl rfl ?_)
        refine wp_of e245 c245_27 (rw_iload_n (pc' := 28) (z := z1431) rfl rfl ?_)
        refine wp_of e245 c245_28 (rw_if_ne (p1 := 41) (p2 := 31) (by decide) rfl ⟨Int.le_trans (by decide) b1432.1, Int.le_trans b1432.2 (by decide)⟩ (fun c1495 => ?_) (fun c1495 => ?_))
        · refine wp_of e245 c245_41 (rw_iload_n (pc' := 42) (z := z1431) rfl rfl ?_)
          refine wp_of e245 c245_42 (rw_if_le (p1 := 51) (p2 := 45) (by decide) rfl ⟨Int.le_trans (by decide) b1432.1, Int.le_trans b1432.2 (by decide)⟩ (fun c1496 => ?_) (fun c1496 => ?_))
          · exfalso
            omega
          · refine wp_of e245 c245_45 (rw_aload_n (pc' := 46) (v := .ref r0) rfl rfl rfl ?_)
            refine wp_of e245 c245_46 (rw_iload_n (pc' := 47) (z := z1431) rfl rfl ?_)
            refine wp_of e245 c245_47 (xc_V (pc' := 50) (r := r0) (as := [vI z1431]) (st := []) (lm_9_54) rfl rfl (Nat.le_of_ble_eq_true rfl) w1429 g0 sh_42 (by decide) rfl (by decide) (s_170 w1429 g0 ⟨Int.le_trans (by decide) b1432.1, Int.le_trans b1432.2 (by decide)⟩) (fun R1497 T1498 H1499 p1500 => ?_))
            obtain ⟨e1501, w1503, f1504, z1505, e1502, b1506⟩ := p1500
            subst e1501
            subst e1502
            have f1507 := f1493.tr f1504 rfl
            show wp _ _ 245 50 [(3, vI z1431), (0, .ref r0), (1, vI a1), (2, vI a2)] [vI z1505] _ H1499 _
            have k1508 : wKI H1499 r0 = wKI H1425 r0 := (wKI_fr w1429 g0 f1504 rfl)
            have h1509 : KNN T H1499 r0 e d := (KNN_fr w1429 g0 f1504 rfl a1449)
            exact wp_ireturn e245 c245_50 rfl ⟨rfl, w1503, f1507, z1505, rfl, ⟨b1506.1, b1506.2⟩, ⟨by omega, h1509⟩⟩
        · exfalso
          omega
    · refine wp_of e245 c245_18 (rw_iconst (pc' := 19) rfl ?_)
      refine wp_of e245 c245_19 (rw_goto (p1 := 23) (by decide) ?_)
      have k1510 : H1297 r0 3 = H r0 3 := (wq_u_j e1298 rfl)
      have k1511 : wKI H1297 r0 = wKI H r0 := (wKI_fr hW g0 ((wfr.rf (l := [(42, 0)])).put' e1298 g0 rfl) rfl)
      have h1512 : RB T H1297 r0 e d := (RB_fr hW g0 ((wfr.rf (l := [(42, 0)])).put' e1298 g0 rfl) rfl hRB_r0)
      have h1513 : KNN T H1297 r0 e d := (KNN_fr hW g0 ((wfr.rf (l := [(42, 0)])).put' e1298 g0 rfl) rfl hKNN_r0)
      refine wp_of e245 c245_23 (xc_V (pc' := 26) (r := r0) (as := [vI 1]) (st := []) (lm_9_433) rfl rfl (Nat.le_of_ble_eq_true rfl) w1299 g0 sh_42 (by decide) rfl (by decide) (u_241 (e := e) (d := d) w1299 g0 ⟨by decide, by decide⟩ (by omega) (by omega) (by assumption) (by assumption) (by assumption) (by assumption) h1512 h1513) (fun R1514 T1515 H1516 p1517 => ?_))
      obtain ⟨e1518, w1520, f1521, z1522, e1519, b1523, p1524⟩ := p1517
      subst e1518
      subst e1519
      rcases p1524 with ⟨a1525, a1526, a1527, a1528, a1529, a1530, a1531, a1532, a1533⟩ | ⟨a1534, a1535, a1536, a1537, a1538, a1539, a1540⟩
      · have f1541 := f1300.tr f1521 rfl
        show wp _ _ 245 26 [(0, .ref r0), (1, vI a1), (2, vI a2)] [vI z1522] _ H1516 _
        have k1542 : wLM H1516 r0 = wLM H r0 := ((wLM_fr w1299 g0 f1521 rfl).trans (wLM_fr hW g0 ((wfr.rf (l := [(42, 0)])).put' e1298 g0 rfl) rfl))
        refine wp_of e245 c245_26 (rw_istore_n (pc' := 27) (z := z1522) (L' := [(3, vI z1522), (0, .ref r0), (1, vI a1), (2, vI a2)]) rfl rfl rfl ?_)
        refine wp_of e245 c245_27 (rw_iload_n (pc' := 28) (z := z1522) rfl rfl ?_)
        refine wp_of e245 c245_28 (rw_if_ne (p1 := 41) (p2 := 31) (by decide) rfl ⟨Int.le_trans (by decide) b1523.1, Int.le_trans b1523.2 (by decide)⟩ (fun c1543 => ?_) (fun c1543 => ?_))
        · exfalso
          omega
        · refine wp_of e245 c245_31 (rw_iload_n (pc' := 32) (z := a1) rfl rfl ?_)
          refine wp_of e245 c245_32 (rw_aload_n (pc' := 33) (v := .ref r0) rfl rfl rfl ?_)
          refine wp_of e245 c245_33 (xg_I (pc' := 36) lf_9_422 w1520 g0 sh_42 (by decide) (by decide) ty_42_29 rfl rfl (fun b1544 b1545 => ?_))
          refine wp_of e245 c245_36 (rw_icmp_lt (p1 := 41) (p2 := 39) (by decide) rfl ⟨i1.1, i1.2⟩ ⟨Int.le_trans (by decide) b1544, Int.le_trans b1545 (by decide)⟩ (fun c1546 => ?_) (fun c1546 => ?_))
          · refine wp_of e245 c245_41 (rw_iload_n (pc' := 42) (z := z1522) rfl rfl ?_)
            refine wp_of e245 c245_42 (rw_if_le (p1 := 51) (p2 := 45) (by decide) rfl ⟨Int.le_trans (by decide) b1523.1, Int.le_trans b1523.2 (by decide)⟩ (fun c1547 => ?_) (fun c1547 => ?_))
            · refine wp_of e245 c245_51 (rw_aload_n (pc' := 52) (v := .ref r0) rfl rfl rfl ?_)
              refine wp_of e245 c245_52 (rw_aload_n (pc' := 53) (v := .ref r0) rfl rfl rfl ?_)
              refine wp_of e245 c245_53 (xg_R (pc' := 56) lf_9_42 w1520 g0 sh_42 (by decide) (by decide) ty_42_30 rfl rfl (fun r1548 q1549 g1550 => ?_))
              refine wp_of e245 c245_56 (rw_iload_n (pc' := 57) (z := a1) rfl rfl ?_)
              refine wp_of e245 c245_57 (xa_I (so := 0) (pc' := 58) w1520 g1550 sh_52 (by decide) (ty_52 _) (by omega) (by omega) rfl (fun b1551 b1552 => ?_))
              have k1553 : H1516 r0 3 = H1297 r0 3 := (f1521 r0 3 _ g0 rfl)
              obtain ⟨r1554, q1555, g1556⟩ := (w1520.opt g0 (t' := 54) (n := 33) (j := 3) (p := 0) (q := 0) rfl (by decide) rfl).resolve_left (by omega)
              refine wp_of e245 c245_58 (xc_V (pc' := 61) (r := r0) (as := [vI (H1516 r1548 (a1.toNat))]) (st := []) (lm_9_425) rfl rfl (Nat.le_of_ble_eq_true rfl) w1520 g0 sh_42 (by decide) rfl (by decide) (s_243 w1520 g0 ⟨b1551, Int.le_trans b1552 (by decide)⟩ q1555 g1556 (by omega)) (fun R1557 T1558 H1559 p1560 => ?_))
              obtain ⟨e1561, w1563, f1564, e1562⟩ := p1560
              subst e1561
              subst e1562
              have f1565 := f1541.tr f1564 rfl
              show wp _ _ 245 61 [(3, vI z1522), (0, .ref r0), (1, vI a1), (2, vI a2)] [] _ H1559 _
              refine wp_of e245 c245_61 (rw_aload_n (pc' := 62) (v := .ref r0) rfl rfl rfl ?_)
              refine wp_of e245 c245_62 (rw_aload_n (pc' := 63) (v := .ref r0) rfl rfl rfl ?_)
              refine wp_of e245 c245_63 (xg_R (pc' := 66) lf_9_39 w1563 g0 sh_42 (by decide) (by decide) ty_42_27 rfl rfl (fun r1566 q1567 g1568 => ?_))
              refine wp_of e245 c245_66 (rw_iload_n (pc' := 67) (z := a2) rfl rfl ?_)
              refine wp_of e245 c245_67 (xa_I (so := 0) (pc' := 68) w1563 g1568 sh_51 (by decide) (ty_51 _) (by omega) (by omega) rfl (fun b1569 b1570 => ?_))
              refine wp_of e245 c245_68 (xc_V (pc' := 71) (r := r0) (as := [vI (H1559 r1566 (a2.toNat))]) (st := []) (lm_9_58) rfl rfl (Nat.le_of_ble_eq_true rfl) w1563 g0 sh_42 (by decide) rfl (by decide) (s_209 w1563 g0 ⟨Int.le_trans (by decide) b1569, Int.le_trans b1570 (by decide)⟩) (fun R1571 T1572 H1573 p1574 => ?_))
              obtain ⟨e1575, w1577, f1578, z1579, e1576, b1580⟩ := p1574
              subst e1575
              subst e1576
              have f1581 := f1565.tr f1578 rfl
              show wp _ _ 245 71 [(3, vI z1522), (0, .ref r0), (1, vI a1), (2, vI a2)] [vI z1579] _ H1573 _
              have k1582 : wKI H1573 r0 = wKI H1516 r0 := ((wKI_fr w1563 g0 f1578 rfl).trans (wKI_fr w1520 g0 f1564 rfl))
              have h1583 : KNN T H1573 r0 e d := (KNN_fr w1563 g0 f1578 rfl (KNN_fr w1520 g0 f1564 rfl a1532))
              exact wp_ireturn e245 c245_71 rfl ⟨rfl, w1577, f1581, z1579, rfl, ⟨b1580.1, b1580.2⟩, ⟨by omega, h1583⟩⟩
            · exfalso
              omega
          · refine wp_of e245 c245_39 (rw_iconst (pc' := 40) rfl ?_)
            refine wp_of e245 c245_40 (rw_istore_n (pc' := 41) (z := 1) (L' := [(3, vI 1), (0, .ref r0), (1, vI a1), (2, vI a2)]) rfl rfl rfl ?_)
            refine wp_of e245 c245_41 (rw_iload_n (pc' := 42) (z := 1) rfl rfl ?_)
            refine wp_of e245 c245_42 (rw_if_le (p1 := 51) (p2 := 45) (by decide) rfl ⟨by decide, by decide⟩ (fun c1584 => ?_) (fun c1584 => ?_))
            · exfalso
              omega
            · refine wp_of e245 c245_45 (rw_aload_n (pc' := 46) (v := .ref r0) rfl rfl rfl ?_)
              refine wp_of e245 c245_46 (rw_iload_n (pc' := 47) (z := 1) rfl rfl ?_)
              refine wp_of e245 c245_47 (xc_V (pc' := 50) (r := r0) (as := [vI 1]) (st := []) (lm_9_54) rfl rfl (Nat.le_of_ble_eq_true rfl) w1520 g0 sh_42 (by decide) rfl (by decide) (s_170 w1520 g0 ⟨by decide, by decide⟩) (fun R1585 T1586 H1587 p1588 => ?_))
              obtain ⟨e1589, w1591, f1592, z1593, e1590, b1594⟩ := p1588
              subst e1589
              subst e1590
              have f1595 := f1541.tr f1592 rfl
              show wp _ _ 245 50 [(3, vI 1), (0, .ref r0), (1, vI a1), (2, vI a2)] [vI z1593] _ H1587 _
              have k1596 : wKI H1587 r0 = wKI H1516 r0 := (wKI_fr w1520 g0 f1592 rfl)
              have h1597 : KNN T H1587 r0 e d := (KNN_fr w1520 g0 f1592 rfl a1532)
              exact wp_ireturn e245 c245_50 rfl ⟨rfl, w1591, f1595, z1593, rfl, ⟨b1594.1, b1594.2⟩, ⟨by omega, h1597⟩⟩
      · have f1598 := f1300.tr f1521 rfl
        show wp _ _ 245 26 [(0, .ref r0), (1, vI a1), (2, vI a2)] [vI z1522] _ H1516 _
        have k1599 : wLM H1516 r0 = wLM H r0 := ((wLM_fr w1299 g0 f1521 rfl).trans (wLM_fr hW g0 ((wfr.rf (l := [(42, 0)])).put' e1298 g0 rfl) rfl))
        refine wp_of e245 c245_26 (rw_istore_n (pc' := 27) (z := z1522) (L' := [(3, vI z1522), (0, .ref r0), (1, vI a1), (2, vI a2)]) rfl rfl rfl ?_)
        refine wp_of e245 c245_27 (rw_iload_n (pc' := 28) (z := z1522) rfl rfl ?_)
        refine wp_of e245 c245_28 (rw_if_ne (p1 := 41) (p2 := 31) (by decide) rfl ⟨Int.le_trans (by decide) b1523.1, Int.le_trans b1523.2 (by decide)⟩ (fun c1600 => ?_) (fun c1600 => ?_))
        · refine wp_of e245 c245_41 (rw_iload_n (pc' := 42) (z := z1522) rfl rfl ?_)
          refine wp_of e245 c245_42 (rw_if_le (p1 := 51) (p2 := 45) (by decide) rfl ⟨Int.le_trans (by decide) b1523.1, Int.le_trans b1523.2 (by decide)⟩ (fun c1601 => ?_) (fun c1601 => ?_))
          · exfalso
            omega
          · refine wp_of e245 c245_45 (rw_aload_n (pc' := 46) (v := .ref r0) rfl rfl rfl ?_)
            refine wp_of e245 c245_46 (rw_iload_n (pc' := 47) (z := z1522) rfl rfl ?_)
            refine wp_of e245 c245_47 (xc_V (pc' := 50) (r := r0) (as := [vI z1522]) (st := []) (lm_9_54) rfl rfl (Nat.le_of_ble_eq_true rfl) w1520 g0 sh_42 (by decide) rfl (by decide) (s_170 w1520 g0 ⟨Int.le_trans (by decide) b1523.1, Int.le_trans b1523.2 (by decide)⟩) (fun R1602 T1603 H1604 p1605 => ?_))
            obtain ⟨e1606, w1608, f1609, z1610, e1607, b1611⟩ := p1605
            subst e1606
            subst e1607
            have f1612 := f1598.tr f1609 rfl
            show wp _ _ 245 50 [(3, vI z1522), (0, .ref r0), (1, vI a1), (2, vI a2)] [vI z1610] _ H1604 _
            have k1613 : wKI H1604 r0 = wKI H1516 r0 := (wKI_fr w1520 g0 f1609 rfl)
            have h1614 : KNN T H1604 r0 e d := (KNN_fr w1520 g0 f1609 rfl a1540)
            exact wp_ireturn e245 c245_50 rfl ⟨rfl, w1608, f1612, z1610, rfl, ⟨b1611.1, b1611.2⟩, ⟨by omega, h1614⟩⟩
        · exfalso
          omega
/-! StrikeAwakeModel.weights()J  -/
abbrev uq_246 (r0 : Nat) (e : xD) (d : xD) (T : wq_T) (H : wq_H) : Option Value → wq_T → wq_H → Prop := fun r T' H' => T = T' ∧ WT T H' ∧ wfr [(42, 0), (42, 1), (42, 2), (42, 28), (42, 29), (51, 999), (52, 999)] T H H' ∧ ∃ z : Int, some (vL z) = r ∧ ((-9223372036854775808) ≤ z ∧ z ≤ 9223372036854775807) ∧ (((wKI H' r0 = 1) ∧ KNN T H' r0 e d))
set_option maxHeartbeats 4000000 in
theorem u_246 {kt : Nat → Option mc_E} {T : wq_T} {H : wq_H} {r0 : Nat} {e : xD} {d : xD} (hW : WT T H) (g0 : T.2.2.2 r0 = some 42) (p0 : wKI H r0 = 1) (p1 : XW d) (p2 : ∀ h : Nat, d 0 0 ≤ (h : Int) → h < 24 → e 13 h = 0) (p3 : XN d) (p4 : ∀ h : Nat, h < 24 → 0 ≤ e 13 h ∧ e 13 h ≤ 100) (hRB_r0 : RB T H r0 e d) (hKNN_r0 : KNN T H r0 e d) : wpc kt 8 246 [.ref r0] T H (uq_246 r0 e d T H) := by
  refine wp_enter e246 (Nat.le_of_ble_eq_true rfl) rfl ?_
  have f0 : wfr [(42, 0), (42, 1), (42, 2), (42, 28), (42, 29), (51, 999), (52, 999)] T H H := wfr.rf
  show wp _ _ 246 0 [(0, .ref r0)] [] _ H _
  have _b := RB_b hW hRB_r0
  have _nu := RB_n3 hRB_r0
  have _lm := RB_lm hRB_r0
  refine wp_of e246 c246_0 (rw_aload_n (pc' := 1) (v := .ref r0) rfl rfl rfl ?_)
  refine wp_of e246 c246_1 (rw_iconst (pc' := 2) rfl ?_)
  refine wp_of e246 c246_2 (xp_I (pc' := 5) lf_9_48 hW g0 sh_42 (by decide) (by decide) ty_42_0 rfl rfl (by decide) (by decide) ⟨by decide, by decide⟩ rfl (fun H1153 e1154 w1155 => ?_))
  have f1156 := f0.put' e1154 g0 rfl
  have k1157 : H1153 r0 0 = 0 := wq_u_s e1154
  refine wp_of e246 c246_5 (rw_aload_n (pc' := 6) (v := .ref r0) rfl rfl rfl ?_)
  refine wp_of e246 c246_6 (rw_aload_n (pc' := 7) (v := .ref r0) rfl rfl rfl ?_)
  have k1158 : H1153 r0 3 = H r0 3 := (wq_u_j e1154 rfl)
  refine wp_of e246 c246_7 (xg_O (pc' := 10) lf_9_337 w1155 g0 sh_42 (by decide) (by decide) ty_42_3 rfl rfl (fun q1160 => ?_) (fun r1159 q1160 g1161 => ?_))
  · refine wp_of e246 c246_10 (rw_ifnull_n (p1 := 17) (p2 := 13) (by decide) rfl ?_)
    refine wp_of e246 c246_17 (rw_iconst (pc' := 18) rfl ?_)
    have k1162 : wKI H1153 r0 = wKI H r0 := (wKI_fr hW g0 ((wfr.rf (l := [(42, 0)])).put' e1154 g0 rfl) rfl)
    have h1163 : RB T H1153 r0 e d := (RB_fr hW g0 ((wfr.rf (l := [(42, 0)])).put' e1154 g0 rfl) rfl hRB_r0)
    have h1164 : KNN T H1153 r0 e d := (KNN_fr hW g0 ((wfr.rf (l := [(42, 0)])).put' e1154 g0 rfl) rfl hKNN_r0)
    refine wp_of e246 c246_18 (xc_V (pc' := 21) (r := r0) (as := [vI 0]) (st := []) (lm_9_433) rfl rfl (Nat.le_of_ble_eq_true rfl) w1155 g0 sh_42 (by decide) rfl (by decide) (u_241 (e := e) (d := d) w1155 g0 ⟨by decide, by decide⟩ (by omega) (by omega) (by assumption) (by assumption) (by assumption) (by assumption) h1163 h1164) (fun R1165 T1166 H1167 p1168 => ?_))
    obtain ⟨e1169, w1171, f1172, z1173, e1170, b1174, p1175⟩ := p1168
    subst e1169
    subst e1170
    rcases p1175 with ⟨a1176, a1177, a1178, a1179, a1180, a1181, a1182, a1183, a1184⟩ | ⟨a1185, a1186, a1187, a1188, a1189, a1190, a1191⟩
    · have f1192 := f1156.tr f1172 rfl
      show wp _ _ 246 21 [(0, .ref r0)] [vI z1173] _ H1167 _
      have k1193 : wLM H1167 r0 = wLM H r0 := ((wLM_fr w1155 g0 f1172 rfl).trans (wLM_fr hW g0 ((wfr.rf (l := [(42, 0)])).put' e1154 g0 rfl) rfl))
      refine wp_of e246 c246_21 (rw_istore_n (pc' := 22) (z := z1173) (L' := [(1, vI z1173), (0, .ref r0)]) rfl rfl rfl ?_)
      refine wp_of e246 c246_22 (rw_iload_n (pc' := 23) (z := z1173) rfl rfl ?_)
      refine wp_of e246 c246_23 (rw_if_le (p1 := 35) (p2 := 26) (by decide) rfl ⟨Int.le_trans (by decide) b1174.1, Int.le_trans b1174.2 (by decide)⟩ (fun c1194 => ?_) (fun c1194 => ?_))
      · refine wp_of e246 c246_35 (rw_aload_n (pc' := 36) (v := .ref r0) rfl rfl rfl ?_)
        refine wp_of e246 c246_36 (rw_aload_n (pc' := 37) (v := .ref r0) rfl rfl rfl ?_)
        refine wp_of e246 c246_37 (rw_iconst (pc' := 38) rfl ?_)
        refine wp_of e246 c246_38 (rw_iconst (pc' := 39) rfl ?_)
        have k1195 : H1167 r0 3 = H1153 r0 3 := (f1172 r0 3 _ g0 rfl)
        have q1196 : H1167 r0 3 = -1 := k1195.trans q1160
        obtain ⟨r1197, q1198, g1199⟩ := (w1171.opt g0 (t' := 54) (n := 33) (j := 3) (p := 0) (q := 0) rfl (by decide) rfl).resolve_left (by omega)
        refine wp_of e246 c246_39 (xc_V (pc' := 42) (r := r0) (as := [vI (-1), vI 0]) (st := [.ref r0]) (lm_9_440) rfl rfl (Nat.le_of_ble_eq_true rfl) w1171 g0 sh_42 (by decide) rfl (by decide) (s_247 w1171 g0 ⟨by decide, by decide⟩ ⟨by decide, by decide⟩ q1198 g1199 (by omega)) (fun R1200 T1201 H1202 p1203 => ?_))
        obtain ⟨e1204, w1206, f1207, z1209, e1205, b1210, p1208⟩ := p1203
        subst e1204
        subst e1205
        have f1211 := f1192.tr f1207 rfl
        show wp _ _ 246 42 [(1, vI z1173), (0, .ref r0)] [vL z1209, .ref r0] _ H1202 _
        refine wp_of e246 c246_42 (xc_V (pc' := 45) (r := r0) (as := [vL z1209]) (st := []) (lm_9_380) rfl rfl (Nat.le_of_ble_eq_true rfl) w1206 g0 sh_42 (by decide) rfl (by decide) (s_221 w1206 g0 ⟨Int.le_trans (by decide) b1210.1, Int.le_trans b1210.2 (by decide)⟩) (fun R1212 T1213 H1214 p1215 => ?_))
        obtain ⟨e1216, w1218, f1219, z1220, e1217, b1221⟩ := p1215
        subst e1216
        subst e1217
        have f1222 := f1211.tr f1219 rfl
        show wp _ _ 246 45 [(1, vI z1173), (0, .ref r0)] [vL z1220] _ H1214 _
        have k1223 : wKI H1214 r0 = wKI H1167 r0 := ((wKI_fr w1206 g0 f1219 rfl).trans (wKI_fr w1171 g0 f1207 rfl))
        have h1224 : KNN T H1214 r0 e d := (KNN_fr w1206 g0 f1219 rfl (KNN_fr w1171 g0 f1207 rfl a1183))
        exact wp_lreturn e246 c246_45 rfl ⟨rfl, w1218, f1222, z1220, rfl, ⟨b1221.1, b1221.2⟩, ⟨by omega, h1224⟩⟩
      · exfalso
        omega
    · have f1225 := f1156.tr f1172 rfl
      show wp _ _ 246 21 [(0, .ref r0)] [vI z1173] _ H1167 _
      have k1226 : wLM H1167 r0 = wLM H r0 := ((wLM_fr w1155 g0 f1172 rfl).trans (wLM_fr hW g0 ((wfr.rf (l := [(42, 0)])).put' e1154 g0 rfl) rfl))
      refine wp_of e246 c246_21 (rw_istore_n (pc' := 22) (z := z1173) (L' := [(1, vI z1173), (0, .ref r0)]) rfl rfl rfl ?_)
      refine wp_of e246 c246_22 (rw_iload_n (pc' := 23) (z := z1173) rfl rfl ?_)
      refine wp_of e246 c246_23 (rw_if_le (p1 := 35) (p2 := 26) (by decide) rfl ⟨Int.le_trans (by decide) b1174.1, Int.le_trans b1174.2 (by decide)⟩ (fun c1227 => ?_) (fun c1227 => ?_))
      · exfalso
        omega
      · refine wp_of e246 c246_26 (rw_aload_n (pc' := 27) (v := .ref r0) rfl rfl rfl ?_)
        refine wp_of e246 c246_27 (rw_iload_n (pc' := 28) (z := z1173) rfl rfl ?_)
        refine wp_of e246 c246_28 (xc_V (pc' := 31) (r := r0) (as := [vI z1173]) (st := []) (lm_9_54) rfl rfl (Nat.le_of_ble_eq_true rfl) w1171 g0 sh_42 (by decide) rfl (by decide) (s_170 w1171 g0 ⟨Int.le_trans (by decide) b1174.1, Int.le_trans b1174.2 (by decide)⟩) (fun R1228 T1229 H1230 p1231 => ?_))
        obtain ⟨e1232, w1234, f1235, z1236, e1233, b1237⟩ := p1231
        subst e1232
        subst e1233
        have f1238 := f1225.tr f1235 rfl
        show wp _ _ 246 31 [(1, vI z1173), (0, .ref r0)] [vI z1236] _ H1230 _
        refine wp_of e246 c246_31 (rw_i2l (pc' := 32) rfl ⟨b1237.1, b1237.2⟩ ?_)
        refine wp_of e246 c246_32 (rw_goto (p1 := 45) (by decide) ?_)
        have k1239 : wKI H1230 r0 = wKI H1167 r0 := (wKI_fr w1171 g0 f1235 rfl)
        have h1240 : KNN T H1230 r0 e d := (KNN_fr w1171 g0 f1235 rfl a1191)
        exact wp_lreturn e246 c246_45 rfl ⟨rfl, w1234, f1238, z1236, rfl, ⟨Int.le_trans (by decide) b1237.1, Int.le_trans b1237.2 (by decide)⟩, ⟨by omega, h1240⟩⟩
  · refine wp_of e246 c246_10 (rw_ifnull_r (p1 := 17) (p2 := 13) (by decide) rfl ?_)
    refine wp_of e246 c246_13 (rw_iconst (pc' := 14) rfl ?_)
    refine wp_of e246 c246_14 (rw_goto (p1 := 18) (by decide) ?_)
    have k1241 : wKI H1153 r0 = wKI H r0 := (wKI_fr hW g0 ((wfr.rf (l := [(42, 0)])).put' e1154 g0 rfl) rfl)
    have h1242 : RB T H1153 r0 e d := (RB_fr hW g0 ((wfr.rf (l := [(42, 0)])).put' e1154 g0 rfl) rfl hRB_r0)
    have h1243 : KNN T H1153 r0 e d := (KNN_fr hW g0 ((wfr.rf (l := [(42, 0)])).put' e1154 g0 rfl) rfl hKNN_r0)
    refine wp_of e246 c246_18 (xc_V (pc' := 21) (r := r0) (as := [vI 1]) (st := []) (lm_9_433) rfl rfl (Nat.le_of_ble_eq_true rfl) w1155 g0 sh_42 (by decide) rfl (by decide) (u_241 (e := e) (d := d) w1155 g0 ⟨by decide, by decide⟩ (by omega) (by omega) (by assumption) (by assumption) (by assumption) (by assumption) h1242 h1243) (fun R1244 T1245 H1246 p1247 => ?_))
    obtain ⟨e1248, w1250, f1251, z1252, e1249, b1253, p1254⟩ := p1247
    subst e1248
    subst e1249
    rcases p1254 with ⟨a1255, a1256, a1257, a1258, a1259, a1260, a1261, a1262, a1263⟩ | ⟨a1264, a1265, a1266, a1267, a1268, a1269, a1270⟩
    · have f1271 := f1156.tr f1251 rfl
      show wp _ _ 246 21 [(0, .ref r0)] [vI z1252] _ H1246 _
      have k1272 : wLM H1246 r0 = wLM H r0 := ((wLM_fr w1155 g0 f1251 rfl).trans (wLM_fr hW g0 ((wfr.rf (l := [(42, 0)])).put' e1154 g0 rfl) rfl))
      refine wp_of e246 c246_21 (rw_istore_n (pc' := 22) (z := z1252) (L' := [(1, vI z1252), (0, .ref r0)]) rfl rfl rfl ?_)
      refine wp_of e246 c246_22 (rw_iload_n (pc' := 23) (z := z1252) rfl rfl ?_)
      refine wp_of e246 c246_23 (rw_if_le (p1 := 35) (p2 := 26) (by decide) rfl ⟨Int.le_trans (by decide) b1253.1, Int.le_trans b1253.2 (by decide)⟩ (fun c1273 => ?_) (fun c1273 => ?_))
      · refine wp_of e246 c246_35 (rw_aload_n (pc' := 36) (v := .ref r0) rfl rfl rfl ?_)
        refine wp_of e246 c246_36 (rw_aload_n (pc' := 37) (v := .ref r0) rfl rfl rfl ?_)
        refine wp_of e246 c246_37 (rw_iconst (pc' := 38) rfl ?_)
        refine wp_of e246 c246_38 (rw_iconst (pc' := 39) rfl ?_)
        have k1274 : H1246 r0 3 = H1153 r0 3 := (f1251 r0 3 _ g0 rfl)
        have q1275 : H1246 r0 3 = (r1159 : Int) := k1274.trans q1160
        refine wp_of e246 c246_39 (xc_V (pc' := 42) (r := r0) (as := [vI (-1), vI 0]) (st := [.ref r0]) (lm_9_440) rfl rfl (Nat.le_of_ble_eq_true rfl) w1250 g0 sh_42 (by decide) rfl (by decide) (s_247 w1250 g0 ⟨by decide, by decide⟩ ⟨by decide, by decide⟩ q1275 g1161 (by omega)) (fun R1276 T1277 H1278 p1279 => ?_))
        obtain ⟨e1280, w1282, f1283, z1285, e1281, b1286, p1284⟩ := p1279
        subst e1280
        subst e1281
        have f1287 := f1271.tr f1283 rfl
        show wp _ _ 246 42 [(1, vI z1252), (0, .ref r0)] [vL z1285, .ref r0] _ H1278 _
        refine wp_of e246 c246_42 (xc_V (pc' := 45) (r := r0) (as := [vL z1285]) (st := []) (lm_9_380) rfl rfl (Nat.le_of_ble_eq_true rfl) w1282 g0 sh_42 (by decide) rfl (by decide) (s_221 w1282 g0 ⟨Int.le_trans (by decide) b1286.1, Int.le_trans b1286.2 (by decide)⟩) (fun R1288 T1289 H1290 p1291 => ?_))
        obtain ⟨e1292, w1294, f1295, z1296, e1293, b1297⟩ := p1291
        subst e1292
        subst e1293
        have f1298 := f1287.tr f1295 rfl
        show wp _ _ 246 45 [(1, vI z1252), (0, .ref r0)] [vL z1296] _ H1290 _
        have k1299 : wKI H1290 r0 = wKI H1246 r0 := ((wKI_fr w1282 g0 f1295 rfl).trans (wKI_fr w1250 g0 f1283 rfl))
        have h1300 : KNN T H1290 r0 e d := (KNN_fr w1282 g0 f1295 rfl (KNN_fr w1250 g0 f1283 rfl a1262))
        exact wp_lreturn e246 c246_45 rfl ⟨rfl, w1294, f1298, z1296, rfl, ⟨b1297.1, b1297.2⟩, ⟨by omega, h1300⟩⟩
      · exfalso
        omega
    · have f1301 := f1156.tr f1251 rfl
      show wp _ _ 246 21 [(0, .ref r0)] [vI z1252] _ H1246 _
      have k1302 : wLM H1246 r0 = wLM H r0 := ((wLM_fr w1155 g0 f1251 rfl).trans (wLM_fr hW g0 ((wfr.rf (l := [(42, 0)])).put' e1154 g0 rfl) rfl))
      refine wp_of e246 c246_21 (rw_istore_n (pc' := 22) (z := z1252) (L' := [(1, vI z1252), (0, .ref r0)]) rfl rfl rfl ?_)
      refine wp_of e246 c246_22 (rw_iload_n (pc' := 23) (z := z1252) rfl rfl ?_)
      refine wp_of e246 c246_23 (rw_if_le (p1 := 35) (p2 := 26) (by decide) rfl ⟨Int.le_trans (by decide) b1253.1, Int.le_trans b1253.2 (by decide)⟩ (fun c1303 => ?_) (fun c1303 => ?_))
      · exfalso
        omega
      · refine wp_of e246 c246_26 (rw_aload_n (pc' := 27) (v := .ref r0) rfl rfl rfl ?_)
        refine wp_of e246 c246_27 (rw_iload_n (pc' := 28) (z := z1252) rfl rfl ?_)
        refine wp_of e246 c246_28 (xc_V (pc' := 31) (r := r0) (as := [vI z1252]) (st := []) (lm_9_54) rfl rfl (Nat.le_of_ble_eq_true rfl) w1250 g0 sh_42 (by decide) rfl (by decide) (s_170 w1250 g0 ⟨Int.le_trans (by decide) b1253.1, Int.le_trans b1253.2 (by decide)⟩) (fun R1304 T1305 H1306 p1307 => ?_))
        obtain ⟨e1308, w1310, f1311, z1312, e1309, b1313⟩ := p1307
        subst e1308
        subst e1309
        have f1314 := f1301.tr f1311 rfl
        show wp _ _ 246 31 [(1, vI z1252), (0, .ref r0)] [vI z1312] _ H1306 _
        refine wp_of e246 c246_31 (rw_i2l (pc' := 32) rfl ⟨b1313.1, b1313.2⟩ ?_)
        refine wp_of e246 c246_32 (rw_goto (p1 := 45) (by decide) ?_)
        have k1315 : wKI H1306 r0 = wKI H1246 r0 := (wKI_fr w1250 g0 f1311 rfl)
        have h1316 : KNN T H1306 r0 e d := (KNN_fr w1250 g0 f1311 rfl a1270)
        exact wp_lreturn e246 c246_45 rfl ⟨rfl, w1310, f1314, z1312, rfl, ⟨Int.le_trans (by decide) b1313.1, Int.le_trans b1313.2 (by decide)⟩, ⟨by omega, h1316⟩⟩
/-! StrikeAwakeModel.having(II)I  -/
abbrev uq_249 (r0 : Nat) (a1 : Int) (a2 : Int) (e : xD) (d : xD) (T : wq_T) (H : wq_H) : Option Value → wq_T → wq_H → Prop := fun r T' H' => T = T' ∧ WT T H' ∧ wfr [(42, 0), (42, 1), (42, 2), (42, 28), (42, 29), (51, 999), (52, 999)] T H H' ∧ ∃ z : Int, some (vI z) = r ∧ ((-2147483648) ≤ z ∧ z ≤ 2147483647) ∧ (((z = -1) ∧ (wKI H' r0 = 1) ∧ ((a1 < 0 ∨ d 0 3 ≤ a1) ∨ a2 < 0 ∨ ((xsp d (a1).toNat).length : Int) ≤ a2 ∨ 20000 < xlots d) ∧ KNN T H' r0 e d) ∨ ((wKI H' r0 = 1) ∧ (((0 ≤ a1 ∧ a1 < d 0 3) ∧ 0 ≤ a2 ∧ a2 < ((xsp d (a1).toNat).length : Int)) ∧ xlots d ≤ 20000) ∧ (z = xhc e d (a1).toNat (a2).toNat (xlots d).toNat) ∧ KNN T H' r0 e d))
set_option maxHeartbeats 4000000 in
theorem u_249 {kt : Nat → Option mc_E} {T : wq_T} {H : wq_H} {r0 : Nat} {a1 : Int} {a2 : Int} {e : xD} {d : xD} (hW : WT T H) (g0 : T.2.2.2 r0 = some 42) (i1 : (-2147483648) ≤ a1 ∧ a1 ≤ 2147483647) (i2 : (-2147483648) ≤ a2 ∧ a2 ≤ 2147483647) (p0 : wKI H r0 = 1) (p1 : XW d) (p2 : ∀ h : Nat, d 0 0 ≤ (h : Int) → h < 24 → e 13 h = 0) (p3 : XN d) (p4 : ∀ h : Nat, h < 24 → 0 ≤ e 13 h ∧ e 13 h ≤ 100) (hRB_r0 : RB T H r0 e d) (hKNN_r0 : KNN T H r0 e d) : wpc kt 8 249 [.ref r0, vI a1, vI a2] T H (uq_249 r0 a1 a2 e d T H) := by
  refine wp_enter e249 (Nat.le_of_ble_eq_true rfl) rfl ?_
  have f0 : wfr [(42, 0), (42, 1), (42, 2), (42, 28), (42, 29), (51, 999), (52, 999)] T H H := wfr.rf
  show wp _ _ 249 0 [(0, .ref r0), (1, vI a1), (2, vI a2)] [] _ H _
  have _b := RB_b hW hRB_r0
  have _nu := RB_n3 hRB_r0
  have _lm := RB_lm hRB_r0
  have _xw := (by assumption : XW d)
  refine wp_of e249 c249_0 (rw_aload_n (pc' := 1) (v := .ref r0) rfl rfl rfl ?_)
  refine wp_of e249 c249_1 (rw_iconst (pc' := 2) rfl ?_)
  refine wp_of e249 c249_2 (xp_I (pc' := 5) lf_9_48 hW g0 sh_42 (by decide) (by decide) ty_42_0 rfl rfl (by decide) (by decide) ⟨by decide, by decide⟩ rfl (fun H1642 e1643 w1644 => ?_))
  have f1645 := f0.put' e1643 g0 rfl
  have k1646 : H1642 r0 0 = 0 := wq_u_s e1643
  refine wp_of e249 c249_5 (rw_aload_n (pc' := 6) (v := .ref r0) rfl rfl rfl ?_)
  refine wp_of e249 c249_6 (rw_aload_n (pc' := 7) (v := .ref r0) rfl rfl rfl ?_)
  refine wp_of e249 c249_7 (rw_iload_n (pc' := 8) (z := a1) rfl rfl ?_)
  refine wp_of e249 c249_8 (rw_iload_n (pc' := 9) (z := a2) rfl rfl ?_)
  have h1647 : RB T H1642 r0 e d := (RB_fr hW g0 ((wfr.rf (l := [(42, 0)])).put' e1643 g0 rfl) rfl hRB_r0)
  refine wp_of e249 c249_9 (xc_V (pc' := 12) (r := r0) (as := [vI a1, vI a2]) (st := [.ref r0]) (lm_9_367) rfl rfl (Nat.le_of_ble_eq_true rfl) w1644 g0 sh_42 (by decide) rfl (by decide) (u_215 (e := e) (d := d) w1644 g0 ⟨i1.1, i1.2⟩ ⟨i2.1, i2.2⟩ h1647) (fun R1648 T1649 H1650 p1651 => ?_))
  obtain ⟨e1652, e1654, z1655, e1653, b1656, p1657⟩ := p1651
  subst e1652
  subst e1653
  subst e1654
  rcases p1657 with ⟨a1658, a1659⟩ | ⟨a1660, a1661⟩
  · show wp _ _ 249 12 [(0, .ref r0), (1, vI a1), (2, vI a2)] [vI z1655, .ref r0] _ H1642 _
    have k1662 : H1642 r0 3 = H r0 3 := (wq_u_j e1643 rfl)
    have k1663 : wKI H1642 r0 = wKI H r0 := (wKI_fr hW g0 ((wfr.rf (l := [(42, 0)])).put' e1643 g0 rfl) rfl)
    have h1664 : KNN T H1642 r0 e d := (KNN_fr hW g0 ((wfr.rf (l := [(42, 0)])).put' e1643 g0 rfl) rfl hKNN_r0)
    refine wp_of e249 c249_12 (xc_V (pc' := 15) (r := r0) (as := [vI z1655]) (st := []) (lm_9_433) rfl rfl (Nat.le_of_ble_eq_true rfl) w1644 g0 sh_42 (by decide) rfl (by decide) (u_241 (e := e) (d := d) w1644 g0 ⟨b1656.1, b1656.2⟩ (by omega) (by omega) (by assumption) (by assumption) (by assumption) (by assumption) h1647 h1664) (fun R1665 T1666 H1667 p1668 => ?_))
    obtain ⟨e1669, w1671, f1672, z1673, e1670, b1674, p1675⟩ := p1668
    subst e1669
    subst e1670
    rcases p1675 with ⟨a1676, a1677, a1678, a1679, a1680, a1681, a1682, a1683, a1684⟩ | ⟨a1685, a1686, a1687, a1688, a1689, a1690, a1691⟩
    · have f1692 := f1645.tr f1672 rfl
      show wp _ _ 249 15 [(0, .ref r0), (1, vI a1), (2, vI a2)] [vI z1673] _ H1667 _
      refine wp_of e249 c249_15 (rw_istore_n (pc' := 16) (z := z1673) (L' := [(3, vI z1673), (0, .ref r0), (1, vI a1), (2, vI a2)]) rfl rfl rfl ?_)
      refine wp_of e249 c249_16 (rw_iload_n (pc' := 17) (z := z1673) rfl rfl ?_)
      have k1693 : H1667 r0 3 = H1642 r0 3 := (f1672 r0 3 _ g0 rfl)
      obtain ⟨r1694, q1695, g1696⟩ := (w1671.opt g0 (t' := 54) (n := 33) (j := 3) (p := 0) (q := 0) rfl (by decide) rfl).resolve_left (by omega)
      have h1697 : RB T H1667 r0 e d := (RB_fr w1644 g0 f1672 rfl h1647)
      have _kbb := a1684
      have _kb := _kbb.1
      have _n3 : H1667 r0 3 ≠ -1 := by omega
      have _rp := RB_at h1697 q1695
      have _k := RP_k _rp
      have _nb := xcn_b (f := xwf e d) (xlots d).toNat
      have h1698 : KL T H1667 r0 (xwf e d) (xlots d).toNat := _kbb.2
      refine wp_of e249 c249_17 (rw_if_le (p1 := 26) (p2 := 20) (by decide) rfl ⟨Int.le_trans (by decide) b1674.1, Int.le_trans b1674.2 (by decide)⟩ (fun c1699 => ?_) (fun c1699 => ?_))
      · refine wp_of e249 c249_26 (rw_iconst (pc' := 27) rfl ?_)
        refine wp_of e249 c249_27 (rw_istore (pc' := 29) (z := 0) (L' := [(4, vI 0), (3, vI z1673), (0, .ref r0), (1, vI a1), (2, vI a2)]) rfl rfl rfl ?_)
        refine wp_of e249 c249_29 (rw_iconst (pc' := 30) rfl ?_)
        refine wp_of e249 c249_30 (rw_istore (pc' := 32) (z := 0) (L' := [(5, vI 0), (4, vI 0), (3, vI z1673), (0, .ref r0), (1, vI a1), (2, vI a2)]) rfl rfl rfl ?_)
        have b1923 : 0 ≤ H1667 r0 29 ∧ H1667 r0 29 ≤ 20000 := w1671.box g0 (n := 33) rfl (by decide) rfl
        have lp1916 : ∀ (n1917 : Nat) (v1919 : Int) (v1920 : Int) (H1921 : wq_H) (u1922 : Nat), WT T H1921 → wfr [(51, 999)] T H1667 H1921 → (0 ≤ v1919 ∧ v1919 ≤ 20000) → (0 ≤ v1920 ∧ v1920 ≤ 20000) → KL T H1921 r0 (xwf e d) (xlots d).toNat → (v1919 ≤ H1921 r0 29) → (u1922 ≤ (xlots d).toNat) → (xcn (xwf e d) u1922 = v1919) → (v1920 ≤ v1919) → (v1920 = wsm (xwf e d) (fun n => if (xlot d ((n : Nat) : Int) (a1).toNat).toNat = (a2).toNat then (1 : Int) else 0) u1922) → (20000 - v1919).toNat = n1917 → wp kt 7 249 32 [(5, vI v1919), (4, vI v1920), (0, .ref r0), (1, vI a1), (2, vI a2)] [] T H1921 (uq_249 r0 a1 a2 e d T H) := by
          intro n1917
          induction n1917 using Nat.strongRecOn with
          | _ n1917 ih1918 =>
            intro v1919 v1920 H1921 u1922 w1924 f1925 b1926 b1927 h1929 x1930 x1931 x1932 x1933 x1934 m1928
            have f1935 := f1692.tr f1925 rfl
            have k1936 : H1921 r0 29 = H1667 r0 29 := (f1925 r0 29 _ g0 rfl)
            refine wp_of e249 c249_32 (rw_iload (pc' := 34) (z := v1919) rfl rfl ?_)
            refine wp_of e249 c249_34 (rw_aload_n (pc' := 35) (v := .ref r0) rfl rfl rfl ?_)
            refine wp_of e249 c249_35 (xg_I (pc' := 38) lf_9_422 w1924 g0 sh_42 (by decide) (by decide) ty_42_29 rfl rfl (fun b1937 b1938 => ?_))
            refine wp_of e249 c249_38 (rw_icmp_ge (p1 := 78) (p2 := 41) (by decide) rfl ⟨Int.le_trans (by decide) b1926.1, Int.le_trans b1926.2 (by decide)⟩ ⟨Int.le_trans (by decide) b1937, Int.le_trans b1938 (by decide)⟩ (fun c1939 => ?_) (fun c1939 => ?_))
            · refine wp_of e249 c249_78 (rw_aload_n (pc' := 79) (v := .ref r0) rfl rfl rfl ?_)
              refine wp_of e249 c249_79 (rw_iload (pc' := 81) (z := v1920) rfl rfl ?_)
              refine wp_of e249 c249_81 (xc_V (pc' := 84) (r := r0) (as := [vI v1920]) (st := []) (lm_9_58) rfl rfl (Nat.le_of_ble_eq_true rfl) w1924 g0 sh_42 (by decide) rfl (by decide) (u_209  w1924 g0 ⟨Int.le_trans (by decide) b1927.1, Int.le_trans b1927.2 (by decide)⟩) (fun R1940 T1941 H1942 p1943 => ?_))
              obtain ⟨e1944, w1946, f1947, z1948, e1945, b1949, p1950⟩ := p1943
              subst e1944
              subst e1945
              obtain ⟨a1951, a1952, a1953⟩ := p1950
              have f1954 := f1935.tr f1947 rfl
              show wp _ _ 249 84 [(5, vI v1919), (4, vI v1920), (0, .ref r0), (1, vI a1), (2, vI a2)] [vI z1948] _ H1942 _
              have k1955 : wKI H1942 r0 = wKI H1667 r0 := ((wKI_fr w1924 g0 f1947 rfl).trans (wKI_fr w1671 g0 f1925 rfl))
              have h1956 : KNN T H1942 r0 e d := (KNN_fr w1924 g0 f1947 rfl (KNN_fr w1671 g0 f1925 rfl a1683))
              exact wp_ireturn e249 c249_84 rfl ⟨rfl, w1946, f1954, z1948, rfl, ⟨b1949.1, b1949.2⟩, (Or.inr ⟨by omega, by omega, by
                show _ = wsm (xwf e d) (fun n => if (xlot d ((n : Nat) : Int) (a1).toNat).toNat = (a2).toNat then (1 : Int) else 0) (xlots d).toNat
                rw [wsm_end (u := u1922) (by omega) (by omega)]
                first | assumption | omega, h1956⟩)⟩
            · obtain ⟨h9, _a, _b, _c, _e, _f⟩ := xcn_nx (f := xwf e d) (u := u1922) (xlots d).toNat (by omega) (by omega)
              have _n9 : xcn (xwf e d) (h9 + 1) = xcn (xwf e d) h9 + 1 := by
                show xcn (xwf e d) h9 + (if xwf e d h9 > 0 then 1 else 0) = _
                rw [if_pos _c]
              refine wp_of e249 c249_41 (rw_aload_n (pc' := 42) (v := .ref r0) rfl rfl rfl ?_)
              refine wp_of e249 c249_42 (rw_aload_n (pc' := 43) (v := .ref r0) rfl rfl rfl ?_)
              refine wp_of e249 c249_43 (xg_R (pc' := 46) lf_9_42 w1924 g0 sh_42 (by decide) (by decide) ty_42_30 rfl rfl (fun r1957 q1958 g1959 => ?_))
              refine wp_of e249 c249_46 (rw_iload (pc' := 48) (z := v1919) rfl rfl ?_)
              refine wp_of e249 c249_48 (xa_I (so := 0) (pc' := 49) w1924 g1959 sh_52 (by decide) (ty_52 _) (b1926.1) (by omega) rfl (fun b1960 b1961 => ?_))
              have _kl := KL_at h1929 q1958 (n := h9) (s := (v1919).toNat) (by omega) _c (by omega)
              have _t9 : H1921 r1957 (v1919.toNat) = ((h9 : Nat) : Int) := by omega
              have _slw : SL d (xlot d ((h9 : Nat) : Int)) := SL_lot _xw.1 (by omega) (by omega)
              have k1962 : H1921 r0 3 = H1667 r0 3 := (f1925 r0 3 _ g0 rfl)
              have q1963 : H1921 r0 3 = (r1694 : Int) := k1962.trans q1695
              have h1964 : RB T H1921 r0 e d := (RB_fr w1671 g0 f1925 rfl h1697)
              refine wp_of e249 c249_49 (xc_V (pc' := 52) (r := r0) (as := [vI (H1921 r1957 (v1919.toNat))]) (st := []) (lm_9_425) rfl rfl (Nat.le_of_ble_eq_true rfl) w1924 g0 sh_42 (by decide) rfl (by decide) (u_243 (e := e) (d := d) w1924 g0 ⟨b1960, Int.le_trans b1961 (by decide)⟩ q1963 g1696 (by omega) h1964) (fun R1965 T1966 H1967 p1968 => ?_))
              obtain ⟨e1969, w1971, f1972, e1970, p1973⟩ := p1968
              subst e1969
              subst e1970
              have f1975 := f1935.tr f1972 rfl
              have f1976 := f1925.tr f1972 rfl
              show wp _ _ 249 52 [(5, vI v1919), (4, vI v1920), (0, .ref r0), (1, vI a1), (2, vI a2)] [] _ H1967 _
              have h1977 : LQ27 T H1967 r0 0 (d 0 3) (xlot d ((h9 : Nat) : Int)) := by rw [← _t9]; exact p1973
              refine wp_of e249 c249_52 (rw_iload (pc' := 54) (z := v1920) rfl rfl ?_)
              refine wp_of e249 c249_54 (rw_aload_n (pc' := 55) (v := .ref r0) rfl rfl rfl ?_)
              refine wp_of e249 c249_55 (xg_R (pc' := 58) lf_9_39 w1971 g0 sh_42 (by decide) (by decide) ty_42_27 rfl rfl (fun r1978 q1979 g1980 => ?_))
              refine wp_of e249 c249_58 (rw_iload_n (pc' := 59) (z := a1) rfl rfl ?_)
              refine wp_of e249 c249_59 (xa_I (so := 0) (pc' := 60) w1971 g1980 sh_51 (by decide) (ty_51 _) (by omega) (by omega) rfl (fun b1981 b1982 => ?_))
              have := LR_at h1977 q1979 (k := (a1.toNat)) (by omega) (by omega)
              refine wp_of e249 c249_60 (rw_iload_n (pc' := 61) (z := a2) rfl rfl ?_)
              refine wp_of e249 c249_61 (rw_icmp_ne (p1 := 68) (p2 := 64) (by decide) rfl ⟨Int.le_trans (by decide) b1981, Int.le_trans b1982 (by decide)⟩ ⟨i2.1, i2.2⟩ (fun c1983 => ?_) (fun c1983 => ?_))
              · refine wp_of e249 c249_68 (rw_iconst (pc' := 69) rfl ?_)
                refine wp_of e249 c249_69 (rw_iadd (pc' := 70) rfl ?_)
                refine wp_of e249 c249_70 (rw_istore (pc' := 72) (z := v1920 + 0) (L' := [(4, vI (v1920 + 0)), (5, vI v1919), (0, .ref r0), (1, vI a1), (2, vI a2)]) rfl rfl rfl ?_)
                have _gp : wsm (xwf e d) (fun n => if (xlot d ((n : Nat) : Int) (a1).toNat).toNat = (a2).toNat then (1 : Int) else 0) h9 = v1920 := by
                  rw [wsm_gap _a _f]
                  exact (‹v1920 = wsm (xwf e d) (fun n => if (xlot d ((n : Nat) : Int) (a1).toNat).toNat = (a2).toNat then (1 : Int) else 0) u1922›).symm
                have _q : (v1920 + 0) = wsm (xwf e d) (fun n => if (xlot d ((n : Nat) : Int) (a1).toNat).toNat = (a2).toNat then (1 : Int) else 0) (h9 + 1) := by
                  rw [wsm_y _c, _gp]
                  have _sx := _slw (a1).toNat (by omega)
                  show (v1920 + 0) = v1920 + (if (xlot d ((h9 : Nat) : Int) (a1).toNat).toNat = (a2).toNat then (1 : Int) else 0)
                  first
                  | (rw [if_pos (by omega)] <;> omega)
                  | (rw [if_neg (by omega)] <;> omega)
                refine wp_of e249 c249_72 (rw_iinc (pc' := 75) (z := v1919) (L' := [(5, vI (v1919 + 1)), (4, vI (v1920 + 0)), (0, .ref r0), (1, vI a1), (2, vI a2)]) rfl rfl rfl rfl ?_)
                refine wp_of e249 c249_75 (rw_goto (p1 := 32) (by decide) ?_)
                have k1984 : H1967 r0 29 = H1921 r0 29 := (f1972 r0 29 _ g0 rfl)
                have h1985 : KL T H1967 r0 (xwf e d) (xlots d).toNat := (KL_fr w1924 g0 f1972 rfl h1929)
                exact wp_lc (ks := [5, 4, 0, 1, 2]) (wl_c rfl (wl_c rfl (wl_c rfl (wl_c rfl (wl_c rfl wl_n))))) rfl (by decide) (ih1918 _ (by omega) (v1919 + 1) (v1920 + 0) H1967 ((h9 + 1)) w1971 f1976 ⟨by omega, by omega⟩ ⟨by omega, by omega⟩ h1985 (by omega) (by omega) (by omega) (by omega) (_q) rfl)
              · refine wp_of e249 c249_64 (rw_iconst (pc' := 65) rfl ?_)
                refine wp_of e249 c249_65 (rw_goto (p1 := 69) (by decide) ?_)
                refine wp_of e249 c249_69 (rw_iadd (pc' := 70) rfl ?_)
                refine wp_of e249 c249_70 (rw_istore (pc' := 72) (z := v1920 + 1) (L' := [(4, vI (v1920 + 1)), (5, vI v1919), (0, .ref r0), (1, vI a1), (2, vI a2)]) rfl rfl rfl ?_)
                have _gp : wsm (xwf e d) (fun n => if (xlot d ((n : Nat) : Int) (a1).toNat).toNat = (a2).toNat then (1 : Int) else 0) h9 = v1920 := by
                  rw [wsm_gap _a _f]
                  exact (‹v1920 = wsm (xwf e d) (fun n => if (xlot d ((n : Nat) : Int) (a1).toNat).toNat = (a2).toNat then (1 : Int) else 0) u1922›).symm
                have _q : (v1920 + 1) = wsm (xwf e d) (fun n => if (xlot d ((n : Nat) : Int) (a1).toNat).toNat = (a2).toNat then (1 : Int) else 0) (h9 + 1) := by
                  rw [wsm_y _c, _gp]
                  have _sx := _slw (a1).toNat (by omega)
                  show (v1920 + 1) = v1920 + (if (xlot d ((h9 : Nat) : Int) (a1).toNat).toNat = (a2).toNat then (1 : Int) else 0)
                  first
                  | (rw [if_pos (by omega)] <;> omega)
                  | (rw [if_neg (by omega)] <;> omega)
                refine wp_of e249 c249_72 (rw_iinc (pc' := 75) (z := v1919) (L' := [(5, vI (v1919 + 1)), (4, vI (v1920 + 1)), (0, .ref r0), (1, vI a1), (2, vI a2)]) rfl rfl rfl rfl ?_)
                refine wp_of e249 c249_75 (rw_goto (p1 := 32) (by decide) ?_)
                have k1986 : H1967 r0 29 = H1921 r0 29 := (f1972 r0 29 _ g0 rfl)
                have h1987 : KL T H1967 r0 (xwf e d) (xlots d).toNat := (KL_fr w1924 g0 f1972 rfl h1929)
                exact wp_lc (ks := [5, 4, 0, 1, 2]) (wl_c rfl (wl_c rfl (wl_c rfl (wl_c rfl (wl_c rfl wl_n))))) rfl (by decide) (ih1918 _ (by omega) (v1919 + 1) (v1920 + 1) H1967 ((h9 + 1)) w1971 f1976 ⟨by omega, by omega⟩ ⟨by omega, by omega⟩ h1987 (by omega) (by omega) (by omega) (by omega) (_q) rfl)
        exact wp_lc (ks := [5, 4, 3, 0, 1, 2]) (wl_c rfl (wl_c rfl (wl_c rfl (wl_c rfl (wl_c rfl wl_n))))) rfl (by decide) (lp1916 _ 0 0 H1667 0 w1671 wfr.rf ⟨by decide, by decide⟩ ⟨by decide, by decide⟩ h1698 (by omega) (by omega) (rfl) (by omega) (rfl) rfl)
      · exfalso
        omega
    · have f1988 := f1645.tr f1672 rfl
      show wp _ _ 249 15 [(0, .ref r0), (1, vI a1), (2, vI a2)] [vI z1673] _ H1667 _
      refine wp_of e249 c249_15 (rw_istore_n (pc' := 16) (z := z1673) (L' := [(3, vI z1673), (0, .ref r0), (1, vI a1), (2, vI a2)]) rfl rfl rfl ?_)
      refine wp_of e249 c249_16 (rw_iload_n (pc' := 17) (z := z1673) rfl rfl ?_)
      refine wp_of e249 c249_17 (rw_if_le (p1 := 26) (p2 := 20) (by decide) rfl ⟨Int.le_trans (by decide) b1674.1, Int.le_trans b1674.2 (by decide)⟩ (fun c1989 => ?_) (fun c1989 => ?_))
      · exfalso
        omega
      · refine wp_of e249 c249_20 (rw_aload_n (pc' := 21) (v := .ref r0) rfl rfl rfl ?_)
        refine wp_of e249 c249_21 (rw_iload_n (pc' := 22) (z := z1673) rfl rfl ?_)
        refine wp_of e249 c249_22 (xc_V (pc' := 25) (r := r0) (as := [vI z1673]) (st := []) (lm_9_54) rfl rfl (Nat.le_of_ble_eq_true rfl) w1671 g0 sh_42 (by decide) rfl (by decide) (u_170  w1671 g0 ⟨Int.le_trans (by decide) b1674.1, Int.le_trans b1674.2 (by decide)⟩) (fun R1990 T1991 H1992 p1993 => ?_))
        obtain ⟨e1994, w1996, f1997, z1998, e1995, b1999, p2000⟩ := p1993
        subst e1994
        subst e1995
        obtain ⟨a2001, a2002, a2003⟩ := p2000
        have f2004 := f1988.tr f1997 rfl
        show wp _ _ 249 25 [(3, vI z1673), (0, .ref r0), (1, vI a1), (2, vI a2)] [vI z1998] _ H1992 _
        have k2005 : wKI H1992 r0 = wKI H1667 r0 := (wKI_fr w1671 g0 f1997 rfl)
        have h2006 : KNN T H1992 r0 e d := (KNN_fr w1671 g0 f1997 rfl a1691)
        exact wp_ireturn e249 c249_25 rfl ⟨rfl, w1996, f2004, z1998, rfl, ⟨b1999.1, b1999.2⟩, (Or.inl ⟨by omega, by omega, by omega, h2006⟩)⟩
  · show wp _ _ 249 12 [(0, .ref r0), (1, vI a1), (2, vI a2)] [vI z1655, .ref r0] _ H1642 _
    have k2007 : H1642 r0 3 = H r0 3 := (wq_u_j e1643 rfl)
    have k2008 : wKI H1642 r0 = wKI H r0 := (wKI_fr hW g0 ((wfr.rf (l := [(42, 0)])).put' e1643 g0 rfl) rfl)
    have h2009 : KNN T H1642 r0 e d := (KNN_fr hW g0 ((wfr.rf (l := [(42, 0)])).put' e1643 g0 rfl) rfl hKNN_r0)
    refine wp_of e249 c249_12 (xc_V (pc' := 15) (r := r0) (as := [vI z1655]) (st := []) (lm_9_433) rfl rfl (Nat.le_of_ble_eq_true rfl) w1644 g0 sh_42 (by decide) rfl (by decide) (u_241 (e := e) (d := d) w1644 g0 ⟨b1656.1, b1656.2⟩ (by omega) (by omega) (by assumption) (by assumption) (by assumption) (by assumption) h1647 h2009) (fun R2010 T2011 H2012 p2013 => ?_))
    obtain ⟨e2014, w2016, f2017, z2018, e2015, b2019, p2020⟩ := p2013
    subst e2014
    subst e2015
    rcases p2020 with ⟨a2021, a2022, a2023, a2024, a2025, a2026, a2027, a2028, a2029⟩ | ⟨a2030, a2031, a2032, a2033, a2034, a2035, a2036⟩
    · have f2037 := f1645.tr f2017 rfl
      show wp _ _ 249 15 [(0, .ref r0), (1, vI a1), (2, vI a2)] [vI z2018] _ H2012 _
      refine wp_of e249 c249_15 (rw_istore_n (pc' := 16) (z := z2018) (L' := [(3, vI z2018), (0, .ref r0), (1, vI a1), (2, vI a2)]) rfl rfl rfl ?_)
      refine wp_of e249 c249_16 (rw_iload_n (pc' := 17) (z := z2018) rfl rfl ?_)
      have k2038 : H2012 r0 3 = H1642 r0 3 := (f2017 r0 3 _ g0 rfl)
      obtain ⟨r2039, q2040, g2041⟩ := (w2016.opt g0 (t' := 54) (n := 33) (j := 3) (p := 0) (q := 0) rfl (by decide) rfl).resolve_left (by omega)
      have h2042 : RB T H2012 r0 e d := (RB_fr w1644 g0 f2017 rfl h1647)
      have _kbb := a2029
      have _kb := _kbb.1
      have _n3 : H2012 r0 3 ≠ -1 := by omega
      have _rp := RB_at h2042 q2040
      have _k := RP_k _rp
      have _nb := xcn_b (f := xwf e d) (xlots d).toNat
      have h2043 : KL T H2012 r0 (xwf e d) (xlots d).toNat := _kbb.2
      refine wp_of e249 c249_17 (rw_if_le (p1 := 26) (p2 := 20) (by decide) rfl ⟨Int.le_trans (by decide) b2019.1, Int.le_trans b2019.2 (by decide)⟩ (fun c2044 => ?_) (fun c2044 => ?_))
      · refine wp_of e249 c249_26 (rw_iconst (pc' := 27) rfl ?_)
        refine wp_of e249 c249_27 (rw_istore (pc' := 29) (z := 0) (L' := [(4, vI 0), (3, vI z2018), (0, .ref r0), (1, vI a1), (2, vI a2)]) rfl rfl rfl ?_)
        refine wp_of e249 c249_29 (rw_iconst (pc' := 30) rfl ?_)
        refine wp_of e249 c249_30 (rw_istore (pc' := 32) (z := 0) (L' := [(5, vI 0), (4, vI 0), (3, vI z2018), (0, .ref r0), (1, vI a1), (2, vI a2)]) rfl rfl rfl ?_)
        have b2268 : 0 ≤ H2012 r0 29 ∧ H2012 r0 29 ≤ 20000 := w2016.box g0 (n := 33) rfl (by decide) rfl
        have lp2261 : ∀ (n2262 : Nat) (v2264 : Int) (v2265 : Int) (H2266 : wq_H) (u2267 : Nat), WT T H2266 → wfr [(51, 999)] T H2012 H2266 → (0 ≤ v2264 ∧ v2264 ≤ 20000) → (0 ≤ v2265 ∧ v2265 ≤ 20000) → KL T H2266 r0 (xwf e d) (xlots d).toNat → (v2264 ≤ H2266 r0 29) → (u2267 ≤ (xlots d).toNat) → (xcn (xwf e d) u2267 = v2264) → (v2265 ≤ v2264) → (v2265 = wsm (xwf e d) (fun n => if (xlot d ((n : Nat) : Int) (a1).toNat).toNat = (a2).toNat then (1 : Int) else 0) u2267) → (20000 - v2264).toNat = n2262 → wp kt 7 249 32 [(5, vI v2264), (4, vI v2265), (0, .ref r0), (1, vI a1), (2, vI a2)] [] T H2266 (uq_249 r0 a1 a2 e d T H) := by
          intro n2262
          induction n2262 using Nat.strongRecOn with
          | _ n2262 ih2263 =>
            intro v2264 v2265 H2266 u2267 w2269 f2270 b2271 b2272 h2274 x2275 x2276 x2277 x2278 x2279 m2273
            have f2280 := f2037.tr f2270 rfl
            have k2281 : H2266 r0 29 = H2012 r0 29 := (f2270 r0 29 _ g0 rfl)
            refine wp_of e249 c249_32 (rw_iload (pc' := 34) (z := v2264) rfl rfl ?_)
            refine wp_of e249 c249_34 (rw_aload_n (pc' := 35) (v := .ref r0) rfl rfl rfl ?_)
            refine wp_of e249 c249_35 (xg_I (pc' := 38) lf_9_422 w2269 g0 sh_42 (by decide) (by decide) ty_42_29 rfl rfl (fun b2282 b2283 => ?_))
            refine wp_of e249 c249_38 (rw_icmp_ge (p1 := 78) (p2 := 41) (by decide) rfl ⟨Int.le_trans (by decide) b2271.1, Int.le_trans b2271.2 (by decide)⟩ ⟨Int.le_trans (by decide) b2282, Int.le_trans b2283 (by decide)⟩ (fun c2284 => ?_) (fun c2284 => ?_))
            · refine wp_of e249 c249_78 (rw_aload_n (pc' := 79) (v := .ref r0) rfl rfl rfl ?_)
              refine wp_of e249 c249_79 (rw_iload (pc' := 81) (z := v2265) rfl rfl ?_)
              refine wp_of e249 c249_81 (xc_V (pc' := 84) (r := r0) (as := [vI v2265]) (st := []) (lm_9_58) rfl rfl (Nat.le_of_ble_eq_true rfl) w2269 g0 sh_42 (by decide) rfl (by decide) (u_209  w2269 g0 ⟨Int.le_trans (by decide) b2272.1, Int.le_trans b2272.2 (by decide)⟩) (fun R2285 T2286 H2287 p2288 => ?_))
              obtain ⟨e2289, w2291, f2292, z2293, e2290, b2294, p2295⟩ := p2288
              subst e2289
              subst e2290
              obtain ⟨a2296, a2297, a2298⟩ := p2295
              have f2299 := f2280.tr f2292 rfl
              show wp _ _ 249 84 [(5, vI v2264), (4, vI v2265), (0, .ref r0), (1, vI a1), (2, vI a2)] [vI z2293] _ H2287 _
              have k2300 : wKI H2287 r0 = wKI H2012 r0 := ((wKI_fr w2269 g0 f2292 rfl).trans (wKI_fr w2016 g0 f2270 rfl))
              have h2301 : KNN T H2287 r0 e d := (KNN_fr w2269 g0 f2292 rfl (KNN_fr w2016 g0 f2270 rfl a2028))
              exact wp_ireturn e249 c249_84 rfl ⟨rfl, w2291, f2299, z2293, rfl, ⟨b2294.1, b2294.2⟩, (Or.inr ⟨by omega, by omega, by
                show _ = wsm (xwf e d) (fun n => if (xlot d ((n : Nat) : Int) (a1).toNat).toNat = (a2).toNat then (1 : Int) else 0) (xlots d).toNat
                rw [wsm_end (u := u2267) (by omega) (by omega)]
                first | assumption | omega, h2301⟩)⟩
            · obtain ⟨h9, _a, _b, _c, _e, _f⟩ := xcn_nx (f := xwf e d) (u := u2267) (xlots d).toNat (by omega) (by omega)
              have _n9 : xcn (xwf e d) (h9 + 1) = xcn (xwf e d) h9 + 1 := by
                show xcn (xwf e d) h9 + (if xwf e d h9 > 0 then 1 else 0) = _
                rw [if_pos _c]
              refine wp_of e249 c249_41 (rw_aload_n (pc' := 42) (v := .ref r0) rfl rfl rfl ?_)
              refine wp_of e249 c249_42 (rw_aload_n (pc' := 43) (v := .ref r0) rfl rfl rfl ?_)
              refine wp_of e249 c249_43 (xg_R (pc' := 46) lf_9_42 w2269 g0 sh_42 (by decide) (by decide) ty_42_30 rfl rfl (fun r2302 q2303 g2304 => ?_))
              refine wp_of e249 c249_46 (rw_iload (pc' := 48) (z := v2264) rfl rfl ?_)
              refine wp_of e249 c249_48 (xa_I (so := 0) (pc' := 49) w2269 g2304 sh_52 (by decide) (ty_52 _) (b2271.1) (by omega) rfl (fun b2305 b2306 => ?_))
              have _kl := KL_at h2274 q2303 (n := h9) (s := (v2264).toNat) (by omega) _c (by omega)
              have _t9 : H2266 r2302 (v2264.toNat) = ((h9 : Nat) : Int) := by omega
              have _slw : SL d (xlot d ((h9 : Nat) : Int)) := SL_lot _xw.1 (by omega) (by omega)
              have k2307 : H2266 r0 3 = H2012 r0 3 := (f2270 r0 3 _ g0 rfl)
              have q2308 : H2266 r0 3 = (r2039 : Int) := k2307.trans q2040
              have h2309 : RB T H2266 r0 e d := (RB_fr w2016 g0 f2270 rfl h2042)
              refine wp_of e249 c249_49 (xc_V (pc' := 52) (r := r0) (as := [vI (H2266 r2302 (v2264.toNat))]) (st := []) (lm_9_425) rfl rfl (Nat.le_of_ble_eq_true rfl) w2269 g0 sh_42 (by decide) rfl (by decide) (u_243 (e := e) (d := d) w2269 g0 ⟨b2305, Int.le_trans b2306 (by decide)⟩ q2308 g2041 (by omega) h2309) (fun R2310 T2311 H2312 p2313 => ?_))
              obtain ⟨e2314, w2316, f2317, e2315, p2318⟩ := p2313
              subst e2314
              subst e2315
              have f2320 := f2280.tr f2317 rfl
              have f2321 := f2270.tr f2317 rfl
              show wp _ _ 249 52 [(5, vI v2264), (4, vI v2265), (0, .ref r0), (1, vI a1), (2, vI a2)] [] _ H2312 _
              have h2322 : LQ27 T H2312 r0 0 (d 0 3) (xlot d ((h9 : Nat) : Int)) := by rw [← _t9]; exact p2318
              refine wp_of e249 c249_52 (rw_iload (pc' := 54) (z := v2265) rfl rfl ?_)
              refine wp_of e249 c249_54 (rw_aload_n (pc' := 55) (v := .ref r0) rfl rfl rfl ?_)
              refine wp_of e249 c249_55 (xg_R (pc' := 58) lf_9_39 w2316 g0 sh_42 (by decide) (by decide) ty_42_27 rfl rfl (fun r2323 q2324 g2325 => ?_))
              refine wp_of e249 c249_58 (rw_iload_n (pc' := 59) (z := a1) rfl rfl ?_)
              refine wp_of e249 c249_59 (xa_I (so := 0) (pc' := 60) w2316 g2325 sh_51 (by decide) (ty_51 _) (by omega) (by omega) rfl (fun b2326 b2327 => ?_))
              have := LR_at h2322 q2324 (k := (a1.toNat)) (by omega) (by omega)
              refine wp_of e249 c249_60 (rw_iload_n (pc' := 61) (z := a2) rfl rfl ?_)
              refine wp_of e249 c249_61 (rw_icmp_ne (p1 := 68) (p2 := 64) (by decide) rfl ⟨Int.le_trans (by decide) b2326, Int.le_trans b2327 (by decide)⟩ ⟨i2.1, i2.2⟩ (fun c2328 => ?_) (fun c2328 => ?_))
              · refine wp_of e249 c249_68 (rw_iconst (pc' := 69) rfl ?_)
                refine wp_of e249 c249_69 (rw_iadd (pc' := 70) rfl ?_)
                refine wp_of e249 c249_70 (rw_istore (pc' := 72) (z := v2265 + 0) (L' := [(4, vI (v2265 + 0)), (5, vI v2264), (0, .ref r0), (1, vI a1), (2, vI a2)]) rfl rfl rfl ?_)
                have _gp : wsm (xwf e d) (fun n => if (xlot d ((n : Nat) : Int) (a1).toNat).toNat = (a2).toNat then (1 : Int) else 0) h9 = v2265 := by
                  rw [wsm_gap _a _f]
                  exact (‹v2265 = wsm (xwf e d) (fun n => if (xlot d ((n : Nat) : Int) (a1).toNat).toNat = (a2).toNat then (1 : Int) else 0) u2267›).symm
                have _q : (v2265 + 0) = wsm (xwf e d) (fun n => if (xlot d ((n : Nat) : Int) (a1).toNat).toNat = (a2).toNat then (1 : Int) else 0) (h9 + 1) := by
                  rw [wsm_y _c, _gp]
                  have _sx := _slw (a1).toNat (by omega)
                  show (v2265 + 0) = v2265 + (if (xlot d ((h9 : Nat) : Int) (a1).toNat).toNat = (a2).toNat then (1 : Int) else 0)
                  first
                  | (rw [if_pos (by omega)] <;> omega)
                  | (rw [if_neg (by omega)] <;> omega)
                refine wp_of e249 c249_72 (rw_iinc (pc' := 75) (z := v2264) (L' := [(5, vI (v2264 + 1)), (4, vI (v2265 + 0)), (0, .ref r0), (1, vI a1), (2, vI a2)]) rfl rfl rfl rfl ?_)
                refine wp_of e249 c249_75 (rw_goto (p1 := 32) (by decide) ?_)
                have k2329 : H2312 r0 29 = H2266 r0 29 := (f2317 r0 29 _ g0 rfl)
                have h2330 : KL T H2312 r0 (xwf e d) (xlots d).toNat := (KL_fr w2269 g0 f2317 rfl h2274)
                exact wp_lc (ks := [5, 4, 0, 1, 2]) (wl_c rfl (wl_c rfl (wl_c rfl (wl_c rfl (wl_c rfl wl_n))))) rfl (by decide) (ih2263 _ (by omega) (v2264 + 1) (v2265 + 0) H2312 ((h9 + 1)) w2316 f2321 ⟨by omega, by omega⟩ ⟨by omega, by omega⟩ h2330 (by omega) (by omega) (by omega) (by omega) (_q) rfl)
              · refine wp_of e249 c249_64 (rw_iconst (pc' := 65) rfl ?_)
                refine wp_of e249 c249_65 (rw_goto (p1 := 69) (by decide) ?_)
                refine wp_of e249 c249_69 (rw_iadd (pc' := 70) rfl ?_)
                refine wp_of e249 c249_70 (rw_istore (pc' := 72) (z := v2265 + 1) (L' := [(4, vI (v2265 + 1)), (5, vI v2264), (0, .ref r0), (1, vI a1), (2, vI a2)]) rfl rfl rfl ?_)
                have _gp : wsm (xwf e d) (fun n => if (xlot d ((n : Nat) : Int) (a1).toNat).toNat = (a2).toNat then (1 : Int) else 0) h9 = v2265 := by
                  rw [wsm_gap _a _f]
                  exact (‹v2265 = wsm (xwf e d) (fun n => if (xlot d ((n : Nat) : Int) (a1).toNat).toNat = (a2).toNat then (1 : Int) else 0) u2267›).symm
                have _q : (v2265 + 1) = wsm (xwf e d) (fun n => if (xlot d ((n : Nat) : Int) (a1).toNat).toNat = (a2).toNat then (1 : Int) else 0) (h9 + 1) := by
                  rw [wsm_y _c, _gp]
                  have _sx := _slw (a1).toNat (by omega)
                  show (v2265 + 1) = v2265 + (if (xlot d ((h9 : Nat) : Int) (a1).toNat).toNat = (a2).toNat then (1 : Int) else 0)
                  first
                  | (rw [if_pos (by omega)] <;> omega)
                  | (rw [if_neg (by omega)] <;> omega)
                refine wp_of e249 c249_72 (rw_iinc (pc' := 75) (z := v2264) (L' := [(5, vI (v2264 + 1)), (4, vI (v2265 + 1)), (0, .ref r0), (1, vI a1), (2, vI a2)]) rfl rfl rfl rfl ?_)
                refine wp_of e249 c249_75 (rw_goto (p1 := 32) (by decide) ?_)
                have k2331 : H2312 r0 29 = H2266 r0 29 := (f2317 r0 29 _ g0 rfl)
                have h2332 : KL T H2312 r0 (xwf e d) (xlots d).toNat := (KL_fr w2269 g0 f2317 rfl h2274)
                exact wp_lc (ks := [5, 4, 0, 1, 2]) (wl_c rfl (wl_c rfl (wl_c rfl (wl_c rfl (wl_c rfl wl_n))))) rfl (by decide) (ih2263 _ (by omega) (v2264 + 1) (v2265 + 1) H2312 ((h9 + 1)) w2316 f2321 ⟨by omega, by omega⟩ ⟨by omega, by omega⟩ h2332 (by omega) (by omega) (by omega) (by omega) (_q) rfl)
        exact wp_lc (ks := [5, 4, 3, 0, 1, 2]) (wl_c rfl (wl_c rfl (wl_c rfl (wl_c rfl (wl_c rfl wl_n))))) rfl (by decide) (lp2261 _ 0 0 H2012 0 w2016 wfr.rf ⟨by decide, by decide⟩ ⟨by decide, by decide⟩ h2043 (by omega) (by omega) (rfl) (by omega) (rfl) rfl)
      · exfalso
        omega
    · have f2333 := f1645.tr f2017 rfl
      show wp _ _ 249 15 [(0, .ref r0), (1, vI a1), (2, vI a2)] [vI z2018] _ H2012 _
      refine wp_of e249 c249_15 (rw_istore_n (pc' := 16) (z := z2018) (L' := [(3, vI z2018), (0, .ref r0), (1, vI a1), (2, vI a2)]) rfl rfl rfl ?_)
      refine wp_of e249 c249_16 (rw_iload_n (pc' := 17) (z := z2018) rfl rfl ?_)
      refine wp_of e249 c249_17 (rw_if_le (p1 := 26) (p2 := 20) (by decide) rfl ⟨Int.le_trans (by decide) b2019.1, Int.le_trans b2019.2 (by decide)⟩ (fun c2334 => ?_) (fun c2334 => ?_))
      · exfalso
        omega
      · refine wp_of e249 c249_20 (rw_aload_n (pc' := 21) (v := .ref r0) rfl rfl rfl ?_)
        refine wp_of e249 c249_21 (rw_iload_n (pc' := 22) (z := z2018) rfl rfl ?_)
        refine wp_of e249 c249_22 (xc_V (pc' := 25) (r := r0) (as := [vI z2018]) (st := []) (lm_9_54) rfl rfl (Nat.le_of_ble_eq_true rfl) w2016 g0 sh_42 (by decide) rfl (by decide) (u_170  w2016 g0 ⟨Int.le_trans (by decide) b2019.1, Int.le_trans b2019.2 (by decide)⟩) (fun R2335 T2336 H2337 p2338 => ?_))
        obtain ⟨e2339, w2341, f2342, z2343, e2340, b2344, p2345⟩ := p2338
        subst e2339
        subst e2340
        obtain ⟨a2346, a2347, a2348⟩ := p2345
        have f2349 := f2333.tr f2342 rfl
        show wp _ _ 249 25 [(3, vI z2018), (0, .ref r0), (1, vI a1), (2, vI a2)] [vI z2343] _ H2337 _
        have k2350 : wKI H2337 r0 = wKI H2012 r0 := (wKI_fr w2016 g0 f2342 rfl)
        have h2351 : KNN T H2337 r0 e d := (KNN_fr w2016 g0 f2342 rfl a2036)
        exact wp_ireturn e249 c249_25 rfl ⟨rfl, w2341, f2349, z2343, rfl, ⟨b2344.1, b2344.2⟩, (Or.inl ⟨by omega, by omega, by omega, h2351⟩)⟩
/-! StrikeAwakeModel.times(II)I  -/
abbrev uq_250 (r0 : Nat) (a1 : Int) (a2 : Int) (e : xD) (d : xD) (T : wq_T) (H : wq_H) : Option Value → wq_T → wq_H → Prop := fun r T' H' => T = T' ∧ WT T H' ∧ wfr [(42, 0), (42, 1), (42, 2), (42, 28), (42, 29), (51, 999), (52, 999)] T H H' ∧ ∃ z : Int, some (vI z) = r ∧ ((-2147483648) ≤ z ∧ z ≤ 2147483647) ∧ (((wKI H' r0 = 1) ∧ KNN T H' r0 e d))
set_option maxHeartbeats 4000000 in
theorem u_250 {kt : Nat → Option mc_E} {T : wq_T} {H : wq_H} {r0 : Nat} {a1 : Int} {a2 : Int} {e : xD} {d : xD} (hW : WT T H) (g0 : T.2.2.2 r0 = some 42) (i1 : (-2147483648) ≤ a1 ∧ a1 ≤ 2147483647) (i2 : (-2147483648) ≤ a2 ∧ a2 ≤ 2147483647) (p0 : wKI H r0 = 1) (p1 : XW d) (p2 : ∀ h : Nat, d 0 0 ≤ (h : Int) → h < 24 → e 13 h = 0) (p3 : XN d) (p4 : ∀ h : Nat, h < 24 → 0 ≤ e 13 h ∧ e 13 h ≤ 100) (hRB_r0 : RB T H r0 e d) (hKNN_r0 : KNN T H r0 e d) : wpc kt 8 250 [.ref r0, vI a1, vI a2] T H (uq_250 r0 a1 a2 e d T H) := by
  refine wp_enter e250 (Nat.le_of_ble_eq_true rfl) rfl ?_
  have f0 : wfr [(42, 0), (42, 1), (42, 2), (42, 28), (42, 29), (51, 999), (52, 999)] T H H := wfr.rf
  show wp _ _ 250 0 [(0, .ref r0), (1, vI a1), (2, vI a2)] [] _ H _
  have _b := RB_b hW hRB_r0
  have _nu := RB_n3 hRB_r0
  have _lm := RB_lm hRB_r0
  refine wp_of e250 c250_0 (rw_aload_n (pc' := 1) (v := .ref r0) rfl rfl rfl ?_)
  refine wp_of e250 c250_1 (rw_iconst (pc' := 2) rfl ?_)
  refine wp_of e250 c250_2 (xp_I (pc' := 5) lf_9_48 hW g0 sh_42 (by decide) (by decide) ty_42_0 rfl rfl (by decide) (by decide) ⟨by decide, by decide⟩ rfl (fun H1244 e1245 w1246 => ?_))
  have f1247 := f0.put' e1245 g0 rfl
  have k1248 : H1244 r0 0 = 0 := wq_u_s e1245
  refine wp_of e250 c250_5 (rw_aload_n (pc' := 6) (v := .ref r0) rfl rfl rfl ?_)
  refine wp_of e250 c250_6 (rw_aload_n (pc' := 7) (v := .ref r0) rfl rfl rfl ?_)
  refine wp_of e250 c250_7 (rw_iload_n (pc' := 8) (z := a1) rfl rfl ?_)
  refine wp_of e250 c250_8 (xc_V (pc' := 11) (r := r0) (as := [vI a1]) (st := [.ref r0]) (lm_9_364) rfl rfl (Nat.le_of_ble_eq_true rfl) w1246 g0 sh_42 (by decide) rfl (by decide) (s_213 w1246 g0 ⟨i1.1, i1.2⟩) (fun R1249 T1250 H1251 p1252 => ?_))
  obtain ⟨e1253, e1255, z1257, e1254, b1258, p1256⟩ := p1252
  subst e1253
  subst e1254
  subst e1255
  show wp _ _ 250 11 [(0, .ref r0), (1, vI a1), (2, vI a2)] [vI z1257, .ref r0] _ H1244 _
  refine wp_of e250 c250_11 (rw_if_eq (p1 := 26) (p2 := 14) (by decide) rfl ⟨Int.le_trans (by decide) b1258.1, Int.le_trans b1258.2 (by decide)⟩ (fun c1259 => ?_) (fun c1259 => ?_))
  · refine wp_of e250 c250_26 (rw_iconst (pc' := 27) rfl ?_)
    have k1260 : H1244 r0 3 = H r0 3 := (wq_u_j e1245 rfl)
    have k1261 : wKI H1244 r0 = wKI H r0 := (wKI_fr hW g0 ((wfr.rf (l := [(42, 0)])).put' e1245 g0 rfl) rfl)
    have h1262 : RB T H1244 r0 e d := (RB_fr hW g0 ((wfr.rf (l := [(42, 0)])).put' e1245 g0 rfl) rfl hRB_r0)
    have h1263 : KNN T H1244 r0 e d := (KNN_fr hW g0 ((wfr.rf (l := [(42, 0)])).put' e1245 g0 rfl) rfl hKNN_r0)
    refine wp_of e250 c250_27 (xc_V (pc' := 30) (r := r0) (as := [vI 0]) (st := []) (lm_9_433) rfl rfl (Nat.le_of_ble_eq_true rfl) w1246 g0 sh_42 (by decide) rfl (by decide) (u_241 (e := e) (d := d) w1246 g0 ⟨by decide, by decide⟩ (by omega) (by omega) (by assumption) (by assumption) (by assumption) (by assumption) h1262 h1263) (fun R1264 T1265 H1266 p1267 => ?_))
    obtain ⟨e1268, w1270, f1271, z1272, e1269, b1273, p1274⟩ := p1267
    subst e1268
    subst e1269
    rcases p1274 with ⟨a1275, a1276, a1277, a1278, a1279, a1280, a1281, a1282, a1283⟩ | ⟨a1284, a1285, a1286, a1287, a1288, a1289, a1290⟩
    · have f1291 := f1247.tr f1271 rfl
      show wp _ _ 250 30 [(0, .ref r0), (1, vI a1), (2, vI a2)] [vI z1272] _ H1266 _
      have k1292 : wLM H1266 r0 = wLM H r0 := ((wLM_fr w1246 g0 f1271 rfl).trans (wLM_fr hW g0 ((wfr.rf (l := [(42, 0)])).put' e1245 g0 rfl) rfl))
      refine wp_of e250 c250_30 (rw_istore_n (pc' := 31) (z := z1272) (L' := [(3, vI z1272), (0, .ref r0), (1, vI a1), (2, vI a2)]) rfl rfl rfl ?_)
      refine wp_of e250 c250_31 (rw_iload_n (pc' := 32) (z := z1272) rfl rfl ?_)
      refine wp_of e250 c250_32 (rw_if_le (p1 := 43) (p2 := 35) (by decide) rfl ⟨Int.le_trans (by decide) b1273.1, Int.le_trans b1273.2 (by decide)⟩ (fun c1293 => ?_) (fun c1293 => ?_))
      · refine wp_of e250 c250_43 (rw_aload_n (pc' := 44) (v := .ref r0) rfl rfl rfl ?_)
        refine wp_of e250 c250_44 (rw_aload_n (pc' := 45) (v := .ref r0) rfl rfl rfl ?_)
        refine wp_of e250 c250_45 (rw_iload_n (pc' := 46) (z := a1) rfl rfl ?_)
        refine wp_of e250 c250_46 (rw_iload_n (pc' := 47) (z := a2) rfl rfl ?_)
        have k1294 : H1266 r0 3 = H1244 r0 3 := (f1271 r0 3 _ g0 rfl)
        obtain ⟨r1295, q1296, g1297⟩ := (w1270.opt g0 (t' := 54) (n := 33) (j := 3) (p := 0) (q := 0) rfl (by decide) rfl).resolve_left (by omega)
        refine wp_of e250 c250_47 (xc_V (pc' := 50) (r := r0) (as := [vI a1, vI a2]) (st := [.ref r0]) (lm_9_444) rfl rfl (Nat.le_of_ble_eq_true rfl) w1270 g0 sh_42 (by decide) rfl (by decide) (s_251 w1270 g0 ⟨by omega, by omega⟩ ⟨i2.1, i2.2⟩ q1296 g1297 (by omega)) (fun R1298 T1299 H1300 p1301 => ?_))
        obtain ⟨e1302, w1304, f1305, z1306, e1303, b1307⟩ := p1301
        subst e1302
        subst e1303
        have f1308 := f1291.tr f1305 rfl
        show wp _ _ 250 50 [(3, vI z1272), (0, .ref r0), (1, vI a1), (2, vI a2)] [vI z1306, .ref r0] _ H1300 _
        refine wp_of e250 c250_50 (xc_V (pc' := 53) (r := r0) (as := [vI z1306]) (st := []) (lm_9_58) rfl rfl (Nat.le_of_ble_eq_true rfl) w1304 g0 sh_42 (by decide) rfl (by decide) (s_209 w1304 g0 ⟨b1307.1, b1307.2⟩) (fun R1309 T1310 H1311 p1312 => ?_))
        obtain ⟨e1313, w1315, f1316, z1317, e1314, b1318⟩ := p1312
        subst e1313
        subst e1314
        have f1319 := f1308.tr f1316 rfl
        show wp _ _ 250 53 [(3, vI z1272), (0, .ref r0), (1, vI a1), (2, vI a2)] [vI z1317] _ H1311 _
        have k1320 : wKI H1311 r0 = wKI H1266 r0 := ((wKI_fr w1304 g0 f1316 rfl).trans (wKI_fr w1270 g0 f1305 rfl))
        have h1321 : KNN T H1311 r0 e d := (KNN_fr w1304 g0 f1316 rfl (KNN_fr w1270 g0 f1305 rfl a1282))
        exact wp_ireturn e250 c250_53 rfl ⟨rfl, w1315, f1319, z1317, rfl, ⟨b1318.1, b1318.2⟩, ⟨by omega, h1321⟩⟩
      · exfalso
        omega
    · have f1322 := f1247.tr f1271 rfl
      show wp _ _ 250 30 [(0, .ref r0), (1, vI a1), (2, vI a2)] [vI z1272] _ H1266 _
      have k1323 : wLM H1266 r0 = wLM H r0 := ((wLM_fr w1246 g0 f1271 rfl).trans (wLM_fr hW g0 ((wfr.rf (l := [(42, 0)])).put' e1245 g0 rfl) rfl))
      refine wp_of e250 c250_30 (rw_istore_n (pc' := 31) (z := z1272) (L' := [(3, vI z1272), (0, .ref r0), (1, vI a1), (2, vI a2)]) rfl rfl rfl ?_)
      refine wp_of e250 c250_31 (rw_iload_n (pc' := 32) (z := z1272) rfl rfl ?_)
      refine wp_of e250 c250_32 (rw_if_le (p1 := 43) (p2 := 35) (by decide) rfl ⟨Int.le_trans (by decide) b1273.1, Int.le_trans b1273.2 (by decide)⟩ (fun c1324 => ?_) (fun c1324 => ?_))
      · exfalso
        omega
      · refine wp_of e250 c250_35 (rw_aload_n (pc' := 36) (v := .ref r0) rfl rfl rfl ?_)
        refine wp_of e250 c250_36 (rw_iload_n (pc' := 37) (z := z1272) rfl rfl ?_)
        refine wp_of e250 c250_37 (xc_V (pc' := 40) (r := r0) (as := [vI z1272]) (st := []) (lm_9_54) rfl rfl (Nat.le_of_ble_eq_true rfl) w1270 g0 sh_42 (by decide) rfl (by decide) (s_170 w1270 g0 ⟨Int.le_trans (by decide) b1273.1, Int.le_trans b1273.2 (by decide)⟩) (fun R1325 T1326 H1327 p1328 => ?_))
        obtain ⟨e1329, w1331, f1332, z1333, e1330, b1334⟩ := p1328
        subst e1329
        subst e1330
        have f1335 := f1322.tr f1332 rfl
        show wp _ _ 250 40 [(3, vI z1272), (0, .ref r0), (1, vI a1), (2, vI a2)] [vI z1333] _ H1327 _
        refine wp_of e250 c250_40 (rw_goto (p1 := 53) (by decide) ?_)
        have k1336 : wKI H1327 r0 = wKI H1266 r0 := (wKI_fr w1270 g0 f1332 rfl)
        have h1337 : KNN T H1327 r0 e d := (KNN_fr w1270 g0 f1332 rfl a1290)
        exact wp_ireturn e250 c250_53 rfl ⟨rfl, w1331, f1335, z1333, rfl, ⟨b1334.1, b1334.2⟩, ⟨by omega, h1337⟩⟩
  · refine wp_of e250 c250_14 (rw_aload_n (pc' := 15) (v := .ref r0) rfl rfl rfl ?_)
    refine wp_of e250 c250_15 (rw_iload_n (pc' := 16) (z := a2) rfl rfl ?_)
    refine wp_of e250 c250_16 (xc_V (pc' := 19) (r := r0) (as := [vI a2]) (st := [.ref r0]) (lm_9_373) rfl rfl (Nat.le_of_ble_eq_true rfl) w1246 g0 sh_42 (by decide) rfl (by decide) (s_218 w1246 g0 ⟨i2.1, i2.2⟩) (fun R1338 T1339 H1340 p1341 => ?_))
    obtain ⟨e1342, e1344, z1346, e1343, b1347, p1345⟩ := p1341
    subst e1342
    subst e1343
    subst e1344
    show wp _ _ 250 19 [(0, .ref r0), (1, vI a1), (2, vI a2)] [vI z1346, .ref r0] _ H1244 _
    refine wp_of e250 c250_19 (rw_if_eq (p1 := 26) (p2 := 22) (by decide) rfl ⟨Int.le_trans (by decide) b1347.1, Int.le_trans b1347.2 (by decide)⟩ (fun c1348 => ?_) (fun c1348 => ?_))
    · refine wp_of e250 c250_26 (rw_iconst (pc' := 27) rfl ?_)
      have k1349 : H1244 r0 3 = H r0 3 := (wq_u_j e1245 rfl)
      have k1350 : wKI H1244 r0 = wKI H r0 := (wKI_fr hW g0 ((wfr.rf (l := [(42, 0)])).put' e1245 g0 rfl) rfl)
      have h1351 : RB T H1244 r0 e d := (RB_fr hW g0 ((wfr.rf (l := [(42, 0)])).put' e1245 g0 rfl) rfl hRB_r0)
      have h1352 : KNN T H1244 r0 e d := (KNN_fr hW g0 ((wfr.rf (l := [(42, 0)])).put' e1245 g0 rfl) rfl hKNN_r0)
      refine wp_of e250 c250_27 (xc_V (pc' := 30) (r := r0) (as := [vI 0]) (st := []) (lm_9_433) rfl rfl (Nat.le_of_ble_eq_true rfl) w1246 g0 sh_42 (by decide) rfl (by decide) (u_241 (e := e) (d := d) w1246 g0 ⟨by decide, by decide⟩ (by omega) (by omega) (by assumption) (by assumption) (by assumption) (by assumption) h1351 h1352) (fun R1353 T1354 H1355 p1356 => ?_))
      obtain ⟨e1357, w1359, f1360, z1361, e1358, b1362, p1363⟩ := p1356
      subst e1357
      subst e1358
      rcases p1363 with ⟨a1364, a1365, a1366, a1367, a1368, a1369, a1370, a1371, a1372⟩ | ⟨a1373, a1374, a1375, a1376, a1377, a1378, a1379⟩
      · have f1380 := f1247.tr f1360 rfl
        show wp _ _ 250 30 [(0, .ref r0), (1, vI a1), (2, vI a2)] [vI z1361] _ H1355 _
        have k1381 : wLM H1355 r0 = wLM H r0 := ((wLM_fr w1246 g0 f1360 rfl).trans (wLM_fr hW g0 ((wfr.rf (l := [(42, 0)])).put' e1245 g0 rfl) rfl))
        refine wp_of e250 c250_30 (rw_istore_n (pc' := 31) (z := z1361) (L' := [(3, vI z1361), (0, .ref r0), (1, vI a1), (2, vI a2)]) rfl rfl rfl ?_)
        refine wp_of e250 c250_31 (rw_iload_n (pc' := 32) (z := z1361) rfl rfl ?_)
        refine wp_of e250 c250_32 (rw_if_le (p1 := 43) (p2 := 35) (by decide) rfl ⟨Int.le_trans (by decide) b1362.1, Int.le_trans b1362.2 (by decide)⟩ (fun c1382 => ?_) (fun c1382 => ?_))
        · refine wp_of e250 c250_43 (rw_aload_n (pc' := 44) (v := .ref r0) rfl rfl rfl ?_)
          refine wp_of e250 c250_44 (rw_aload_n (pc' := 45) (v := .ref r0) rfl rfl rfl ?_)
          refine wp_of e250 c250_45 (rw_iload_n (pc' := 46) (z := a1) rfl rfl ?_)
          refine wp_of e250 c250_46 (rw_iload_n (pc' := 47) (z := a2) rfl rfl ?_)
          have k1383 : H1355 r0 3 = H1244 r0 3 := (f1360 r0 3 _ g0 rfl)
          obtain ⟨r1384, q1385, g1386⟩ := (w1359.opt g0 (t' := 54) (n := 33) (j := 3) (p := 0) (q := 0) rfl (by decide) rfl).resolve_left (by omega)
          refine wp_of e250 c250_47 (xc_V (pc' := 50) (r := r0) (as := [vI a1, vI a2]) (st := [.ref r0]) (lm_9_444) rfl rfl (Nat.le_of_ble_eq_true rfl) w1359 g0 sh_42 (by decide) rfl (by decide) (s_251 w1359 g0 ⟨by omega, by omega⟩ ⟨i2.1, i2.2⟩ q1385 g1386 (by omega)) (fun R1387 T1388 H1389 p1390 => ?_))
          obtain ⟨e1391, w1393, f1394, z1395, e1392, b1396⟩ := p1390
          subst e1391
          subst e1392
          have f1397 := f1380.tr f1394 rfl
          show wp _ _ 250 50 [(3, vI z1361), (0, .ref r0), (1, vI a1), (2, vI a2)] [vI z1395, .ref r0] _ H1389 _
          refine wp_of e250 c250_50 (xc_V (pc' := 53) (r := r0) (as := [vI z1395]) (st := []) (lm_9_58) rfl rfl (Nat.le_of_ble_eq_true rfl) w1393 g0 sh_42 (by decide) rfl (by decide) (s_209 w1393 g0 ⟨b1396.1, b1396.2⟩) (fun R1398 T1399 H1400 p1401 => ?_))
          obtain ⟨e1402, w1404, f1405, z1406, e1403, b1407⟩ := p1401
          subst e1402
          subst e1403
          have f1408 := f1397.tr f1405 rfl
          show wp _ _ 250 53 [(3, vI z1361), (0, .ref r0), (1, vI a1), (2, vI a2)] [vI z1406] _ H1400 _
          have k1409 : wKI H1400 r0 = wKI H1355 r0 := ((wKI_fr w1393 g0 f1405 rfl).trans (wKI_fr w1359 g0 f1394 rfl))
          have h1410 : KNN T H1400 r0 e d := (KNN_fr w1393 g0 f1405 rfl (KNN_fr w1359 g0 f1394 rfl a1371))
          exact wp_ireturn e250 c250_53 rfl ⟨rfl, w1404, f1408, z1406, rfl, ⟨b1407.1, b1407.2⟩, ⟨by omega, h1410⟩⟩
        · exfalso
          omega
      · have f1411 := f1247.tr f1360 rfl
        show wp _ _ 250 30 [(0, .ref r0), (1, vI a1), (2, vI a2)] [vI z1361] _ H1355 _
        have k1412 : wLM H1355 r0 = wLM H r0 := ((wLM_fr w1246 g0 f1360 rfl).trans (wLM_fr hW g0 ((wfr.rf (l := [(42, 0)])).put' e1245 g0 rfl) rfl))
        refine wp_of e250 c250_30 (rw_istore_n (pc' := 31) (z := z1361) (L' := [(3, vI z1361), (0, .ref r0), (1, vI a1), (2, vI a2)]) rfl rfl rfl ?_)
        refine wp_of e250 c250_31 (rw_iload_n (pc' := 32) (z := z1361) rfl rfl ?_)
        refine wp_of e250 c250_32 (rw_if_le (p1 := 43) (p2 := 35) (by decide) rfl ⟨Int.le_trans (by decide) b1362.1, Int.le_trans b1362.2 (by decide)⟩ (fun c1413 => ?_) (fun c1413 => ?_))
        · exfalso
          omega
        · refine wp_of e250 c250_35 (rw_aload_n (pc' := 36) (v := .ref r0) rfl rfl rfl ?_)
          refine wp_of e250 c250_36 (rw_iload_n (pc' := 37) (z := z1361) rfl rfl ?_)
          refine wp_of e250 c250_37 (xc_V (pc' := 40) (r := r0) (as := [vI z1361]) (st := []) (lm_9_54) rfl rfl (Nat.le_of_ble_eq_true rfl) w1359 g0 sh_42 (by decide) rfl (by decide) (s_170 w1359 g0 ⟨Int.le_trans (by decide) b1362.1, Int.le_trans b1362.2 (by decide)⟩) (fun R1414 T1415 H1416 p1417 => ?_))
          obtain ⟨e1418, w1420, f1421, z1422, e1419, b1423⟩ := p1417
          subst e1418
          subst e1419
          have f1424 := f1411.tr f1421 rfl
          show wp _ _ 250 40 [(3, vI z1361), (0, .ref r0), (1, vI a1), (2, vI a2)] [vI z1422] _ H1416 _
          refine wp_of e250 c250_40 (rw_goto (p1 := 53) (by decide) ?_)
          have k1425 : wKI H1416 r0 = wKI H1355 r0 := (wKI_fr w1359 g0 f1421 rfl)
          have h1426 : KNN T H1416 r0 e d := (KNN_fr w1359 g0 f1421 rfl a1379)
          exact wp_ireturn e250 c250_53 rfl ⟨rfl, w1420, f1424, z1422, rfl, ⟨b1423.1, b1423.2⟩, ⟨by omega, h1426⟩⟩
    · refine wp_of e250 c250_22 (rw_iconst (pc' := 23) rfl ?_)
      refine wp_of e250 c250_23 (rw_goto (p1 := 27) (by decide) ?_)
      have k1427 : H1244 r0 3 = H r0 3 := (wq_u_j e1245 rfl)
      have k1428 : wKI H1244 r0 = wKI H r0 := (wKI_fr hW g0 ((wfr.rf (l := [(42, 0)])).put' e1245 g0 rfl) rfl)
      have h1429 : RB T H1244 r0 e d := (RB_fr hW g0 ((wfr.rf (l := [(42, 0)])).put' e1245 g0 rfl) rfl hRB_r0)
      have h1430 : KNN T H1244 r0 e d := (KNN_fr hW g0 ((wfr.rf (l := [(42, 0)])).put' e1245 g0 rfl) rfl hKNN_r0)
      refine wp_of e250 c250_27 (xc_V (pc' := 30) (r := r0) (as := [vI 1]) (st := []) (lm_9_433) rfl rfl (Nat.le_of_ble_eq_true rfl) w1246 g0 sh_42 (by decide) rfl (by decide) (u_241 (e := e) (d := d) w1246 g0 ⟨by decide, by decide⟩ (by omega) (by omega) (by assumption) (by assumption) (by assumption) (by assumption) h1429 h1430) (fun R1431 T1432 H1433 p1434 => ?_))
      obtain ⟨e1435, w1437, f1438, z1439, e1436, b1440, p1441⟩ := p1434
      subst e1435
      subst e1436
      rcases p1441 with ⟨a1442, a1443, a1444, a1445, a1446, a1447, a1448, a1449, a1450⟩ | ⟨a1451, a1452, a1453, a1454, a1455, a1456, a1457⟩
      · have f1458 := f1247.tr f1438 rfl
        show wp _ _ 250 30 [(0, .ref r0), (1, vI a1), (2, vI a2)] [vI z1439] _ H1433 _
        have k1459 : wLM H1433 r0 = wLM H r0 := ((wLM_fr w1246 g0 f1438 rfl).trans (wLM_fr hW g0 ((wfr.rf (l := [(42, 0)])).put' e1245 g0 rfl) rfl))
        refine wp_of e250 c250_30 (rw_istore_n (pc' := 31) (z := z1439) (L' := [(3, vI z1439), (0, .ref r0), (1, vI a1), (2, vI a2)]) rfl rfl rfl ?_)
        refine wp_of e250 c250_31 (rw_iload_n (pc' := 32) (z := z1439) rfl rfl ?_)
        refine wp_of e250 c250_32 (rw_if_le (p1 := 43) (p2 := 35) (by decide) rfl ⟨Int.le_trans (by decide) b1440.1, Int.le_trans b1440.2 (by decide)⟩ (fun c1460 => ?_) (fun c1460 => ?_))
        · refine wp_of e250 c250_43 (rw_aload_n (pc' := 44) (v := .ref r0) rfl rfl rfl ?_)
          refine wp_of e250 c250_44 (rw_aload_n (pc' := 45) (v := .ref r0) rfl rfl rfl ?_)
          refine wp_of e250 c250_45 (rw_iload_n (pc' := 46) (z := a1) rfl rfl ?_)
          refine wp_of e250 c250_46 (rw_iload_n (pc' := 47) (z := a2) rfl rfl ?_)
          have k1461 : H1433 r0 3 = H1244 r0 3 := (f1438 r0 3 _ g0 rfl)
          obtain ⟨r1462, q1463, g1464⟩ := (w1437.opt g0 (t' := 54) (n := 33) (j := 3) (p := 0) (q := 0) rfl (by decide) rfl).resolve_left (by omega)
          refine wp_of e250 c250_47 (xc_V (pc' := 50) (r := r0) (as := [vI a1, vI a2]) (st := [.ref r0]) (lm_9_444) rfl rfl (Nat.le_of_ble_eq_true rfl) w1437 g0 sh_42 (by decide) rfl (by decide) (s_251 w1437 g0 ⟨by omega, by omega⟩ ⟨i2.1, i2.2⟩ q1463 g1464 (by omega)) (fun R1465 T1466 H1467 p1468 => ?_))
          obtain ⟨e1469, w1471, f1472, z1473, e1470, b1474⟩ := p1468
          subst e1469
          subst e1470
          have f1475 := f1458.tr f1472 rfl
          show wp _ _ 250 50 [(3, vI z1439), (0, .ref r0), (1, vI a1), (2, vI a2)] [vI z1473, .ref r0] _ H1467 _
          refine wp_of e250 c250_50 (xc_V (pc' := 53) (r := r0) (as := [vI z1473]) (st := []) (lm_9_58) rfl rfl (Nat.le_of_ble_eq_true rfl) w1471 g0 sh_42 (by decide) rfl (by decide) (s_209 w1471 g0 ⟨b1474.1, b1474.2⟩) (fun R1476 T1477 H1478 p1479 => ?_))
          obtain ⟨e1480, w1482, f1483, z1484, e1481, b1485⟩ := p1479
          subst e1480
          subst e1481
          have f1486 := f1475.tr f1483 rfl
          show wp _ _ 250 53 [(3, vI z1439), (0, .ref r0), (1, vI a1), (2, vI a2)] [vI z1484] _ H1478 _
          have k1487 : wKI H1478 r0 = wKI H1433 r0 := ((wKI_fr w1471 g0 f1483 rfl).trans (wKI_fr w1437 g0 f1472 rfl))
          have h1488 : KNN T H1478 r0 e d := (KNN_fr w1471 g0 f1483 rfl (KNN_fr w1437 g0 f1472 rfl a1449))
          exact wp_ireturn e250 c250_53 rfl ⟨rfl, w1482, f1486, z1484, rfl, ⟨b1485.1, b1485.2⟩, ⟨by omega, h1488⟩⟩
        · exfalso
          omega
      · have f1489 := f1247.tr f1438 rfl
        show wp _ _ 250 30 [(0, .ref r0), (1, vI a1), (2, vI a2)] [vI z1439] _ H1433 _
        have k1490 : wLM H1433 r0 = wLM H r0 := ((wLM_fr w1246 g0 f1438 rfl).trans (wLM_fr hW g0 ((wfr.rf (l := [(42, 0)])).put' e1245 g0 rfl) rfl))
        refine wp_of e250 c250_30 (rw_istore_n (pc' := 31) (z := z1439) (L' := [(3, vI z1439), (0, .ref r0), (1, vI a1), (2, vI a2)]) rfl rfl rfl ?_)
        refine wp_of e250 c250_31 (rw_iload_n (pc' := 32) (z := z1439) rfl rfl ?_)
        refine wp_of e250 c250_32 (rw_if_le (p1 := 43) (p2 := 35) (by decide) rfl ⟨Int.le_trans (by decide) b1440.1, Int.le_trans b1440.2 (by decide)⟩ (fun c1491 => ?_) (fun c1491 => ?_))
        · exfalso
          omega
        · refine wp_of e250 c250_35 (rw_aload_n (pc' := 36) (v := .ref r0) rfl rfl rfl ?_)
          refine wp_of e250 c250_36 (rw_iload_n (pc' := 37) (z := z1439) rfl rfl ?_)
          refine wp_of e250 c250_37 (xc_V (pc' := 40) (r := r0) (as := [vI z1439]) (st := []) (lm_9_54) rfl rfl (Nat.le_of_ble_eq_true rfl) w1437 g0 sh_42 (by decide) rfl (by decide) (s_170 w1437 g0 ⟨Int.le_trans (by decide) b1440.1, Int.le_trans b1440.2 (by decide)⟩) (fun R1492 T1493 H1494 p1495 => ?_))
          obtain ⟨e1496, w1498, f1499, z1500, e1497, b1501⟩ := p1495
          subst e1496
          subst e1497
          have f1502 := f1489.tr f1499 rfl
          show wp _ _ 250 40 [(3, vI z1439), (0, .ref r0), (1, vI a1), (2, vI a2)] [vI z1500] _ H1494 _
          refine wp_of e250 c250_40 (rw_goto (p1 := 53) (by decide) ?_)
          have k1503 : wKI H1494 r0 = wKI H1433 r0 := (wKI_fr w1437 g0 f1499 rfl)
          have h1504 : KNN T H1494 r0 e d := (KNN_fr w1437 g0 f1499 rfl a1457)
          exact wp_ireturn e250 c250_53 rfl ⟨rfl, w1498, f1502, z1500, rfl, ⟨b1501.1, b1501.2⟩, ⟨by omega, h1504⟩⟩
/-! StrikeAwakeModel.sure(II)I  -/
abbrev uq_252 (r0 : Nat) (a1 : Int) (a2 : Int) (e : xD) (d : xD) (T : wq_T) (H : wq_H) : Option Value → wq_T → wq_H → Prop := fun r T' H' => T = T' ∧ WT T H' ∧ wfr [(42, 0), (42, 1), (42, 2), (42, 28), (42, 29), (51, 999), (52, 999)] T H H' ∧ ∃ z : Int, some (vI z) = r ∧ ((-2147483648) ≤ z ∧ z ≤ 2147483647) ∧ (((wKI H' r0 = 1) ∧ KNN T H' r0 e d))
set_option maxHeartbeats 4000000 in
theorem u_252 {kt : Nat → Option mc_E} {T : wq_T} {H : wq_H} {r0 : Nat} {a1 : Int} {a2 : Int} {e : xD} {d : xD} (hW : WT T H) (g0 : T.2.2.2 r0 = some 42) (i1 : (-2147483648) ≤ a1 ∧ a1 ≤ 2147483647) (i2 : (-2147483648) ≤ a2 ∧ a2 ≤ 2147483647) (p0 : wKI H r0 = 1) (p1 : XW d) (p2 : ∀ h : Nat, d 0 0 ≤ (h : Int) → h < 24 → e 13 h = 0) (p3 : XN d) (p4 : ∀ h : Nat, h < 24 → 0 ≤ e 13 h ∧ e 13 h ≤ 100) (hRB_r0 : RB T H r0 e d) (hKNN_r0 : KNN T H r0 e d) : wpc kt 9 252 [.ref r0, vI a1, vI a2] T H (uq_252 r0 a1 a2 e d T H) := by
  refine wp_enter e252 (Nat.le_of_ble_eq_true rfl) rfl ?_
  have f0 : wfr [(42, 0), (42, 1), (42, 2), (42, 28), (42, 29), (51, 999), (52, 999)] T H H := wfr.rf
  show wp _ _ 252 0 [(0, .ref r0), (1, vI a1), (2, vI a2)] [] _ H _
  have _b := RB_b hW hRB_r0
  have _nu := RB_n3 hRB_r0
  have _lm := RB_lm hRB_r0
  refine wp_of e252 c252_0 (rw_aload_n (pc' := 1) (v := .ref r0) rfl rfl rfl ?_)
  refine wp_of e252 c252_1 (rw_iconst (pc' := 2) rfl ?_)
  refine wp_of e252 c252_2 (xp_I (pc' := 5) lf_9_48 hW g0 sh_42 (by decide) (by decide) ty_42_0 rfl rfl (by decide) (by decide) ⟨by decide, by decide⟩ rfl (fun H1328 e1329 w1330 => ?_))
  have f1331 := f0.put' e1329 g0 rfl
  have k1332 : H1328 r0 0 = 0 := wq_u_s e1329
  refine wp_of e252 c252_5 (rw_aload_n (pc' := 6) (v := .ref r0) rfl rfl rfl ?_)
  refine wp_of e252 c252_6 (rw_aload_n (pc' := 7) (v := .ref r0) rfl rfl rfl ?_)
  refine wp_of e252 c252_7 (rw_iload_n (pc' := 8) (z := a1) rfl rfl ?_)
  refine wp_of e252 c252_8 (xc_V (pc' := 11) (r := r0) (as := [vI a1]) (st := [.ref r0]) (lm_9_364) rfl rfl (Nat.le_of_ble_eq_true rfl) w1330 g0 sh_42 (by decide) rfl (by decide) (s_213 w1330 g0 ⟨i1.1, i1.2⟩) (fun R1333 T1334 H1335 p1336 => ?_))
  obtain ⟨e1337, e1339, z1341, e1338, b1342, p1340⟩ := p1336
  subst e1337
  subst e1338
  subst e1339
  show wp _ _ 252 11 [(0, .ref r0), (1, vI a1), (2, vI a2)] [vI z1341, .ref r0] _ H1328 _
  refine wp_of e252 c252_11 (rw_if_eq (p1 := 26) (p2 := 14) (by decide) rfl ⟨Int.le_trans (by decide) b1342.1, Int.le_trans b1342.2 (by decide)⟩ (fun c1343 => ?_) (fun c1343 => ?_))
  · refine wp_of e252 c252_26 (rw_iconst (pc' := 27) rfl ?_)
    have k1344 : H1328 r0 3 = H r0 3 := (wq_u_j e1329 rfl)
    have k1345 : wKI H1328 r0 = wKI H r0 := (wKI_fr hW g0 ((wfr.rf (l := [(42, 0)])).put' e1329 g0 rfl) rfl)
    have h1346 : RB T H1328 r0 e d := (RB_fr hW g0 ((wfr.rf (l := [(42, 0)])).put' e1329 g0 rfl) rfl hRB_r0)
    have h1347 : KNN T H1328 r0 e d := (KNN_fr hW g0 ((wfr.rf (l := [(42, 0)])).put' e1329 g0 rfl) rfl hKNN_r0)
    refine wp_of e252 c252_27 (xc_V (pc' := 30) (r := r0) (as := [vI 0]) (st := []) (lm_9_447) rfl rfl (Nat.le_of_ble_eq_true rfl) w1330 g0 sh_42 (by decide) rfl (by decide) (u_253 (e := e) (d := d) w1330 g0 ⟨by decide, by decide⟩ (by omega) (by omega) (by assumption) (by assumption) (by assumption) (by assumption) h1346 h1347) (fun R1348 T1349 H1350 p1351 => ?_))
    obtain ⟨e1352, w1354, f1355, z1356, e1353, b1357, p1358⟩ := p1351
    subst e1352
    subst e1353
    rcases p1358 with ⟨a1359, a1360, a1361, a1362, a1363, a1364, a1365, a1366, a1367, a1368⟩ | ⟨a1369, a1370, a1371, a1372, a1373, a1374, a1375⟩
    · have f1376 := f1331.tr f1355 rfl
      show wp _ _ 252 30 [(0, .ref r0), (1, vI a1), (2, vI a2)] [vI z1356] _ H1350 _
      have k1377 : wLM H1350 r0 = wLM H r0 := ((wLM_fr w1330 g0 f1355 rfl).trans (wLM_fr hW g0 ((wfr.rf (l := [(42, 0)])).put' e1329 g0 rfl) rfl))
      refine wp_of e252 c252_30 (rw_istore_n (pc' := 31) (z := z1356) (L' := [(3, vI z1356), (0, .ref r0), (1, vI a1), (2, vI a2)]) rfl rfl rfl ?_)
      refine wp_of e252 c252_31 (rw_iload_n (pc' := 32) (z := z1356) rfl rfl ?_)
      refine wp_of e252 c252_32 (rw_if_le (p1 := 41) (p2 := 35) (by decide) rfl ⟨Int.le_trans (by decide) b1357.1, Int.le_trans b1357.2 (by decide)⟩ (fun c1378 => ?_) (fun c1378 => ?_))
      · refine wp_of e252 c252_41 (rw_aload_n (pc' := 42) (v := .ref r0) rfl rfl rfl ?_)
        refine wp_of e252 c252_42 (rw_iload_n (pc' := 43) (z := a1) rfl rfl ?_)
        refine wp_of e252 c252_43 (rw_iload_n (pc' := 44) (z := a2) rfl rfl ?_)
        have k1379 : H1350 r0 3 = H1328 r0 3 := (f1355 r0 3 _ g0 rfl)
        obtain ⟨r1380, q1381, g1382⟩ := (w1354.opt g0 (t' := 54) (n := 33) (j := 3) (p := 0) (q := 0) rfl (by decide) rfl).resolve_left (by omega)
        refine wp_of e252 c252_44 (xc_V (pc' := 47) (r := r0) (as := [vI a1, vI a2]) (st := []) (lm_9_444) rfl rfl (Nat.le_of_ble_eq_true rfl) w1354 g0 sh_42 (by decide) rfl (by decide) (s_251 w1354 g0 ⟨by omega, by omega⟩ ⟨i2.1, i2.2⟩ q1381 g1382 (by omega)) (fun R1383 T1384 H1385 p1386 => ?_))
        obtain ⟨e1387, w1389, f1390, z1391, e1388, b1392⟩ := p1386
        subst e1387
        subst e1388
        have f1393 := f1376.tr f1390 rfl
        show wp _ _ 252 47 [(3, vI z1356), (0, .ref r0), (1, vI a1), (2, vI a2)] [vI z1391] _ H1385 _
        refine wp_of e252 c252_47 (rw_istore (pc' := 49) (z := z1391) (L' := [(4, vI z1391), (3, vI z1356), (0, .ref r0), (1, vI a1), (2, vI a2)]) rfl rfl rfl ?_)
        refine wp_of e252 c252_49 (rw_aload_n (pc' := 50) (v := .ref r0) rfl rfl rfl ?_)
        refine wp_of e252 c252_50 (rw_iload (pc' := 52) (z := z1391) rfl rfl ?_)
        refine wp_of e252 c252_52 (rw_aload_n (pc' := 53) (v := .ref r0) rfl rfl rfl ?_)
        have k1394 : H1385 r0 29 = H1350 r0 29 := (f1390 r0 29 _ g0 rfl)
        refine wp_of e252 c252_53 (xg_I (pc' := 56) lf_9_422 w1389 g0 sh_42 (by decide) (by decide) ty_42_29 rfl rfl (fun b1395 b1396 => ?_))
        refine wp_of e252 c252_56 (rw_icmp_ne (p1 := 63) (p2 := 59) (by decide) rfl ⟨b1392.1, b1392.2⟩ ⟨Int.le_trans (by decide) b1395, Int.le_trans b1396 (by decide)⟩ (fun c1397 => ?_) (fun c1397 => ?_))
        · refine wp_of e252 c252_63 (rw_iload (pc' := 65) (z := z1391) rfl rfl ?_)
          refine wp_of e252 c252_65 (rw_if_ne (p1 := 72) (p2 := 68) (by decide) rfl ⟨b1392.1, b1392.2⟩ (fun c1398 => ?_) (fun c1398 => ?_))
          · refine wp_of e252 c252_72 (rw_iconst (pc' := 73) rfl ?_)
            refine wp_of e252 c252_73 (xc_V (pc' := 76) (r := r0) (as := [vI 1]) (st := []) (lm_9_58) rfl rfl (Nat.le_of_ble_eq_true rfl) w1389 g0 sh_42 (by decide) rfl (by decide) (s_209 w1389 g0 ⟨by decide, by decide⟩) (fun R1399 T1400 H1401 p1402 => ?_))
            obtain ⟨e1403, w1405, f1406, z1407, e1404, b1408⟩ := p1402
            subst e1403
            subst e1404
            have f1409 := f1393.tr f1406 rfl
            show wp _ _ 252 76 [(4, vI z1391), (3, vI z1356), (0, .ref r0), (1, vI a1), (2, vI a2)] [vI z1407] _ H1401 _
            have k1410 : wKI H1401 r0 = wKI H1350 r0 := ((wKI_fr w1389 g0 f1406 rfl).trans (wKI_fr w1354 g0 f1390 rfl))
            have h1411 : KNN T H1401 r0 e d := (KNN_fr w1389 g0 f1406 rfl (KNN_fr w1354 g0 f1390 rfl a1367))
            exact wp_ireturn e252 c252_76 rfl ⟨rfl, w1405, f1409, z1407, rfl, ⟨b1408.1, b1408.2⟩, ⟨by omega, h1411⟩⟩
          · refine wp_of e252 c252_68 (rw_iconst (pc' := 69) rfl ?_)
            refine wp_of e252 c252_69 (rw_goto (p1 := 73) (by decide) ?_)
            refine wp_of e252 c252_73 (xc_V (pc' := 76) (r := r0) (as := [vI 0]) (st := []) (lm_9_58) rfl rfl (Nat.le_of_ble_eq_true rfl) w1389 g0 sh_42 (by decide) rfl (by decide) (s_209 w1389 g0 ⟨by decide, by decide⟩) (fun R1412 T1413 H1414 p1415 => ?_))
            obtain ⟨e1416, w1418, f1419, z1420, e1417, b1421⟩ := p1415
            subst e1416
            subst e1417
            have f1422 := f1393.tr f1419 rfl
            show wp _ _ 252 76 [(4, vI z1391), (3, vI z1356), (0, .ref r0), (1, vI a1), (2, vI a2)] [vI z1420] _ H1414 _
            have k1423 : wKI H1414 r0 = wKI H1350 r0 := ((wKI_fr w1389 g0 f1419 rfl).trans (wKI_fr w1354 g0 f1390 rfl))
            have h1424 : KNN T H1414 r0 e d := (KNN_fr w1389 g0 f1419 rfl (KNN_fr w1354 g0 f1390 rfl a1367))
            exact wp_ireturn e252 c252_76 rfl ⟨rfl, w1418, f1422, z1420, rfl, ⟨b1421.1, b1421.2⟩, ⟨by omega, h1424⟩⟩
        · refine wp_of e252 c252_59 (rw_iconst (pc' := 60) rfl ?_)
          refine wp_of e252 c252_60 (rw_goto (p1 := 73) (by decide) ?_)
          refine wp_of e252 c252_73 (xc_V (pc' := 76) (r := r0) (as := [vI 2]) (st := []) (lm_9_58) rfl rfl (Nat.le_of_ble_eq_true rfl) w1389 g0 sh_42 (by decide) rfl (by decide) (s_209 w1389 g0 ⟨by decide, by decide⟩) (fun R1425 T1426 H1427 p1428 => ?_))
          obtain ⟨e1429, w1431, f1432, z1433, e1430, b1434⟩ := p1428
          subst e1429
          subst e1430
          have f1435 := f1393.tr f1432 rfl
          show wp _ _ 252 76 [(4, vI z1391), (3, vI z1356), (0, .ref r0), (1, vI a1), (2, vI a2)] [vI z1433] _ H1427 _
          have k1436 : wKI H1427 r0 = wKI H1350 r0 := ((wKI_fr w1389 g0 f1432 rfl).trans (wKI_fr w1354 g0 f1390 rfl))
          have h1437 : KNN T H1427 r0 e d := (KNN_fr w1389 g0 f1432 rfl (KNN_fr w1354 g0 f1390 rfl a1367))
          exact wp_ireturn e252 c252_76 rfl ⟨rfl, w1431, f1435, z1433, rfl, ⟨b1434.1, b1434.2⟩, ⟨by omega, h1437⟩⟩
      · exfalso
        omega
    · have f1438 := f1331.tr f1355 rfl
      show wp _ _ 252 30 [(0, .ref r0), (1, vI a1), (2, vI a2)] [vI z1356] _ H1350 _
      have k1439 : wLM H1350 r0 = wLM H r0 := ((wLM_fr w1330 g0 f1355 rfl).trans (wLM_fr hW g0 ((wfr.rf (l := [(42, 0)])).put' e1329 g0 rfl) rfl))
      refine wp_of e252 c252_30 (rw_istore_n (pc' := 31) (z := z1356) (L' := [(3, vI z1356), (0, .ref r0), (1, vI a1), (2, vI a2)]) rfl rfl rfl ?_)
      refine wp_of e252 c252_31 (rw_iload_n (pc' := 32) (z := z1356) rfl rfl ?_)
      refine wp_of e252 c252_32 (rw_if_le (p1 := 41) (p2 := 35) (by decide) rfl ⟨Int.le_trans (by decide) b1357.1, Int.le_trans b1357.2 (by decide)⟩ (fun c1440 => ?_) (fun c1440 => ?_))
      · exfalso
        omega
      · refine wp_of e252 c252_35 (rw_aload_n (pc' := 36) (v := .ref r0) rfl rfl rfl ?_)
        refine wp_of e252 c252_36 (rw_iload_n (pc' := 37) (z := z1356) rfl rfl ?_)
        refine wp_of e252 c252_37 (xc_V (pc' := 40) (r := r0) (as := [vI z1356]) (st := []) (lm_9_54) rfl rfl (Nat.le_of_ble_eq_true rfl) w1354 g0 sh_42 (by decide) rfl (by decide) (s_170 w1354 g0 ⟨Int.le_trans (by decide) b1357.1, Int.le_trans b1357.2 (by decide)⟩) (fun R1441 T1442 H1443 p1444 => ?_))
        obtain ⟨e1445, w1447, f1448, z1449, e1446, b1450⟩ := p1444
        subst e1445
        subst e1446
        have f1451 := f1438.tr f1448 rfl
        show wp _ _ 252 40 [(3, vI z1356), (0, .ref r0), (1, vI a1), (2, vI a2)] [vI z1449] _ H1443 _
        have k1452 : wKI H1443 r0 = wKI H1350 r0 := (wKI_fr w1354 g0 f1448 rfl)
        have h1453 : KNN T H1443 r0 e d := (KNN_fr w1354 g0 f1448 rfl a1375)
        exact wp_ireturn e252 c252_40 rfl ⟨rfl, w1447, f1451, z1449, rfl, ⟨b1450.1, b1450.2⟩, ⟨by omega, h1453⟩⟩
  · refine wp_of e252 c252_14 (rw_aload_n (pc' := 15) (v := .ref r0) rfl rfl rfl ?_)
    refine wp_of e252 c252_15 (rw_iload_n (pc' := 16) (z := a2) rfl rfl ?_)
    refine wp_of e252 c252_16 (xc_V (pc' := 19) (r := r0) (as := [vI a2]) (st := [.ref r0]) (lm_9_373) rfl rfl (Nat.le_of_ble_eq_true rfl) w1330 g0 sh_42 (by decide) rfl (by decide) (s_218 w1330 g0 ⟨i2.1, i2.2⟩) (fun R1454 T1455 H1456 p1457 => ?_))
    obtain ⟨e1458, e1460, z1462, e1459, b1463, p1461⟩ := p1457
    subst e1458
    subst e1459
    subst e1460
    show wp _ _ 252 19 [(0, .ref r0), (1, vI a1), (2, vI a2)] [vI z1462, .ref r0] _ H1328 _
    refine wp_of e252 c252_19 (rw_if_eq (p1 := 26) (p2 := 22) (by decide) rfl ⟨Int.le_trans (by decide) b1463.1, Int.le_trans b1463.2 (by decide)⟩ (fun c1464 => ?_) (fun c1464 => ?_))
    · refine wp_of e252 c252_26 (rw_iconst (pc' := 27) rfl ?_)
      have k1465 : H1328 r0 3 = H r0 3 := (wq_u_j e1329 rfl)
      have k1466 : wKI H1328 r0 = wKI H r0 := (wKI_fr hW g0 ((wfr.rf (l := [(42, 0)])).put' e1329 g0 rfl) rfl)
      have h1467 : RB T H1328 r0 e d := (RB_fr hW g0 ((wfr.rf (l := [(42, 0)])).put' e1329 g0 rfl) rfl hRB_r0)
      have h1468 : KNN T H1328 r0 e d := (KNN_fr hW g0 ((wfr.rf (l := [(42, 0)])).put' e1329 g0 rfl) rfl hKNN_r0)
      refine wp_of e252 c252_27 (xc_V (pc' := 30) (r := r0) (as := [vI 0]) (st := []) (lm_9_447) rfl rfl (Nat.le_of_ble_eq_true rfl) w1330 g0 sh_42 (by decide) rfl (by decide) (u_253 (e := e) (d := d) w1330 g0 ⟨by decide, by decide⟩ (by omega) (by omega) (by assumption) (by assumption) (by assumption) (by assumption) h1467 h1468) (fun R1469 T1470 H1471 p1472 => ?_))
      obtain ⟨e1473, w1475, f1476, z1477, e1474, b1478, p1479⟩ := p1472
      subst e1473
      subst e1474
      rcases p1479 with ⟨a1480, a1481, a1482, a1483, a1484, a1485, a1486, a1487, a1488, a1489⟩ | ⟨a1490, a1491, a1492, a1493, a1494, a1495, a1496⟩
      · have f1497 := f1331.tr f1476 rfl
        show wp _ _ 252 30 [(0, .ref r0), (1, vI a1), (2, vI a2)] [vI z1477] _ H1471 _
        have k1498 : wLM H1471 r0 = wLM H r0 := ((wLM_fr w1330 g0 f1476 rfl).trans (wLM_fr hW g0 ((wfr.rf (l := [(42, 0)])).put' e1329 g0 rfl) rfl))
        refine wp_of e252 c252_30 (rw_istore_n (pc' := 31) (z := z1477) (L' := [(3, vI z1477), (0, .ref r0), (1, vI a1), (2, vI a2)]) rfl rfl rfl ?_)
        refine wp_of e252 c252_31 (rw_iload_n (pc' := 32) (z := z1477) rfl rfl ?_)
        refine wp_of e252 c252_32 (rw_if_le (p1 := 41) (p2 := 35) (by decide) rfl ⟨Int.le_trans (by decide) b1478.1, Int.le_trans b1478.2 (by decide)⟩ (fun c1499 => ?_) (fun c1499 => ?_))
        · refine wp_of e252 c252_41 (rw_aload_n (pc' := 42) (v := .ref r0) rfl rfl rfl ?_)
          refine wp_of e252 c252_42 (rw_iload_n (pc' := 43) (z := a1) rfl rfl ?_)
          refine wp_of e252 c252_43 (rw_iload_n (pc' := 44) (z := a2) rfl rfl ?_)
          have k1500 : H1471 r0 3 = H1328 r0 3 := (f1476 r0 3 _ g0 rfl)
          obtain ⟨r1501, q1502, g1503⟩ := (w1475.opt g0 (t' := 54) (n := 33) (j := 3) (p := 0) (q := 0) rfl (by decide) rfl).resolve_left (by omega)
          refine wp_of e252 c252_44 (xc_V (pc' := 47) (r := r0) (as := [vI a1, vI a2]) (st := []) (lm_9_444) rfl rfl (Nat.le_of_ble_eq_true rfl) w1475 g0 sh_42 (by decide) rfl (by decide) (s_251 w1475 g0 ⟨by omega, by omega⟩ ⟨i2.1, i2.2⟩ q1502 g1503 (by omega)) (fun R1504 T1505 H1506 p1507 => ?_))
          obtain ⟨e1508, w1510, f1511, z1512, e1509, b1513⟩ := p1507
          subst e1508
          subst e1509
          have f1514 := f1497.tr f1511 rfl
          show wp _ _ 252 47 [(3, vI z1477), (0, .ref r0), (1, vI a1), (2, vI a2)] [vI z1512] _ H1506 _
          refine wp_of e252 c252_47 (rw_istore (pc' := 49) (z := z1512) (L' := [(4, vI z1512), (3, vI z1477), (0, .ref r0), (1, vI a1), (2, vI a2)]) rfl rfl rfl ?_)
          refine wp_of e252 c252_49 (rw_aload_n (pc' := 50) (v := .ref r0) rfl rfl rfl ?_)
          refine wp_of e252 c252_50 (rw_iload (pc' := 52) (z := z1512) rfl rfl ?_)
          refine wp_of e252 c252_52 (rw_aload_n (pc' := 53) (v := .ref r0) rfl rfl rfl ?_)
          have k1515 : H1506 r0 29 = H1471 r0 29 := (f1511 r0 29 _ g0 rfl)
          refine wp_of e252 c252_53 (xg_I (pc' := 56) lf_9_422 w1510 g0 sh_42 (by decide) (by decide) ty_42_29 rfl rfl (fun b1516 b1517 => ?_))
          refine wp_of e252 c252_56 (rw_icmp_ne (p1 := 63) (p2 := 59) (by decide) rfl ⟨b1513.1, b1513.2⟩ ⟨Int.le_trans (by decide) b1516, Int.le_trans b1517 (by decide)⟩ (fun c1518 => ?_) (fun c1518 => ?_))
          · refine wp_of e252 c252_63 (rw_iload (pc' := 65) (z := z1512) rfl rfl ?_)
            refine wp_of e252 c252_65 (rw_if_ne (p1 := 72) (p2 := 68) (by decide) rfl ⟨b1513.1, b1513.2⟩ (fun c1519 => ?_) (fun c1519 => ?_))
            · refine wp_of e252 c252_72 (rw_iconst (pc' := 73) rfl ?_)
              refine wp_of e252 c252_73 (xc_V (pc' := 76) (r := r0) (as := [vI 1]) (st := []) (lm_9_58) rfl rfl (Nat.le_of_ble_eq_true rfl) w1510 g0 sh_42 (by decide) rfl (by decide) (s_209 w1510 g0 ⟨by decide, by decide⟩) (fun R1520 T1521 H1522 p1523 => ?_))
              obtain ⟨e1524, w1526, f1527, z1528, e1525, b1529⟩ := p1523
              subst e1524
              subst e1525
              have f1530 := f1514.tr f1527 rfl
              show wp _ _ 252 76 [(4, vI z1512), (3, vI z1477), (0, .ref r0), (1, vI a1), (2, vI a2)] [vI z1528] _ H1522 _
              have k1531 : wKI H1522 r0 = wKI H1471 r0 := ((wKI_fr w1510 g0 f1527 rfl).trans (wKI_fr w1475 g0 f1511 rfl))
              have h1532 : KNN T H1522 r0 e d := (KNN_fr w1510 g0 f1527 rfl (KNN_fr w1475 g0 f1511 rfl a1488))
              exact wp_ireturn e252 c252_76 rfl ⟨rfl, w1526, f1530, z1528, rfl, ⟨b1529.1, b1529.2⟩, ⟨by omega, h1532⟩⟩
            · refine wp_of e252 c252_68 (rw_iconst (pc' := 69) rfl ?_)
              refine wp_of e252 c252_69 (rw_goto (p1 := 73) (by decide) ?_)
              refine wp_of e252 c252_73 (xc_V (pc' := 76) (r := r0) (as := [vI 0]) (st := []) (lm_9_58) rfl rfl (Nat.le_of_ble_eq_true rfl) w1510 g0 sh_42 (by decide) rfl (by decide) (s_209 w1510 g0 ⟨by decide, by decide⟩) (fun R1533 T1534 H1535 p1536 => ?_))
              obtain ⟨e1537, w1539, f1540, z1541, e1538, b1542⟩ := p1536
              subst e1537
              subst e1538
              have f1543 := f1514.tr f1540 rfl
              show wp _ _ 252 76 [(4, vI z1512), (3, vI z1477), (0, .ref r0), (1, vI a1), (2, vI a2)] [vI z1541] _ H1535 _
              have k1544 : wKI H1535 r0 = wKI H1471 r0 := ((wKI_fr w1510 g0 f1540 rfl).trans (wKI_fr w1475 g0 f1511 rfl))
              have h1545 : KNN T H1535 r0 e d := (KNN_fr w1510 g0 f1540 rfl (KNN_fr w1475 g0 f1511 rfl a1488))
              exact wp_ireturn e252 c252_76 rfl ⟨rfl, w1539, f1543, z1541, rfl, ⟨b1542.1, b1542.2⟩, ⟨by omega, h1545⟩⟩
          · refine wp_of e252 c252_59 (rw_iconst (pc' := 60) rfl ?_)
            refine wp_of e252 c252_60 (rw_goto (p1 := 73) (by decide) ?_)
            refine wp_of e252 c252_73 (xc_V (pc' := 76) (r := r0) (as := [vI 2]) (st := []) (lm_9_58) rfl rfl (Nat.le_of_ble_eq_true rfl) w1510 g0 sh_42 (by decide) rfl (by decide) (s_209 w1510 g0 ⟨by decide, by decide⟩) (fun R1546 T1547 H1548 p1549 => ?_))
            obtain ⟨e1550, w1552, f1553, z1554, e1551, b1555⟩ := p1549
            subst e1550
            subst e1551
            have f1556 := f1514.tr f1553 rfl
            show wp _ _ 252 76 [(4, vI z1512), (3, vI z1477), (0, .ref r0), (1, vI a1), (2, vI a2)] [vI z1554] _ H1548 _
            have k1557 : wKI H1548 r0 = wKI H1471 r0 := ((wKI_fr w1510 g0 f1553 rfl).trans (wKI_fr w1475 g0 f1511 rfl))
            have h1558 : KNN T H1548 r0 e d := (KNN_fr w1510 g0 f1553 rfl (KNN_fr w1475 g0 f1511 rfl a1488))
            exact wp_ireturn e252 c252_76 rfl ⟨rfl, w1552, f1556, z1554, rfl, ⟨b1555.1, b1555.2⟩, ⟨by omega, h1558⟩⟩
        · exfalso
          omega
      · have f1559 := f1331.tr f1476 rfl
        show wp _ _ 252 30 [(0, .ref r0), (1, vI a1), (2, vI a2)] [vI z1477] _ H1471 _
        have k1560 : wLM H1471 r0 = wLM H r0 := ((wLM_fr w1330 g0 f1476 rfl).trans (wLM_fr hW g0 ((wfr.rf (l := [(42, 0)])).put' e1329 g0 rfl) rfl))
        refine wp_of e252 c252_30 (rw_istore_n (pc' := 31) (z := z1477) (L' := [(3, vI z1477), (0, .ref r0), (1, vI a1), (2, vI a2)]) rfl rfl rfl ?_)
        refine wp_of e252 c252_31 (rw_iload_n (pc' := 32) (z := z1477) rfl rfl ?_)
        refine wp_of e252 c252_32 (rw_if_le (p1 := 41) (p2 := 35) (by decide) rfl ⟨Int.le_trans (by decide) b1478.1, Int.le_trans b1478.2 (by decide)⟩ (fun c1561 => ?_) (fun c1561 => ?_))
        · exfalso
          omega
        · refine wp_of e252 c252_35 (rw_aload_n (pc' := 36) (v := .ref r0) rfl rfl rfl ?_)
          refine wp_of e252 c252_36 (rw_iload_n (pc' := 37) (z := z1477) rfl rfl ?_)
          refine wp_of e252 c252_37 (xc_V (pc' := 40) (r := r0) (as := [vI z1477]) (st := []) (lm_9_54) rfl rfl (Nat.le_of_ble_eq_true rfl) w1475 g0 sh_42 (by decide) rfl (by decide) (s_170 w1475 g0 ⟨Int.le_trans (by decide) b1478.1, Int.le_trans b1478.2 (by decide)⟩) (fun R1562 T1563 H1564 p1565 => ?_))
          obtain ⟨e1566, w1568, f1569, z1570, e1567, b1571⟩ := p1565
          subst e1566
          subst e1567
          have f1572 := f1559.tr f1569 rfl
          show wp _ _ 252 40 [(3, vI z1477), (0, .ref r0), (1, vI a1), (2, vI a2)] [vI z1570] _ H1564 _
          have k1573 : wKI H1564 r0 = wKI H1471 r0 := (wKI_fr w1475 g0 f1569 rfl)
          have h1574 : KNN T H1564 r0 e d := (KNN_fr w1475 g0 f1569 rfl a1496)
          exact wp_ireturn e252 c252_40 rfl ⟨rfl, w1568, f1572, z1570, rfl, ⟨b1571.1, b1571.2⟩, ⟨by omega, h1574⟩⟩
    · refine wp_of e252 c252_22 (rw_iconst (pc' := 23) rfl ?_)
      refine wp_of e252 c252_23 (rw_goto (p1 := 27) (by decide) ?_)
      have k1575 : H1328 r0 3 = H r0 3 := (wq_u_j e1329 rfl)
      have k1576 : wKI H1328 r0 = wKI H r0 := (wKI_fr hW g0 ((wfr.rf (l := [(42, 0)])).put' e1329 g0 rfl) rfl)
      have h1577 : RB T H1328 r0 e d := (RB_fr hW g0 ((wfr.rf (l := [(42, 0)])).put' e1329 g0 rfl) rfl hRB_r0)
      have h1578 : KNN T H1328 r0 e d := (KNN_fr hW g0 ((wfr.rf (l := [(42, 0)])).put' e1329 g0 rfl) rfl hKNN_r0)
      refine wp_of e252 c252_27 (xc_V (pc' := 30) (r := r0) (as := [vI 1]) (st := []) (lm_9_447) rfl rfl (Nat.le_of_ble_eq_true rfl) w1330 g0 sh_42 (by decide) rfl (by decide) (u_253 (e := e) (d := d) w1330 g0 ⟨by decide, by decide⟩ (by omega) (by omega) (by assumption) (by assumption) (by assumption) (by assumption) h1577 h1578) (fun R1579 T1580 H1581 p1582 => ?_))
      obtain ⟨e1583, w1585, f1586, z1587, e1584, b1588, p1589⟩ := p1582
      subst e1583
      subst e1584
      rcases p1589 with ⟨a1590, a1591, a1592, a1593, a1594, a1595, a1596, a1597, a1598, a1599⟩ | ⟨a1600, a1601, a1602, a1603, a1604, a1605, a1606⟩
      · have f1607 := f1331.tr f1586 rfl
        show wp _ _ 252 30 [(0, .ref r0), (1, vI a1), (2, vI a2)] [vI z1587] _ H1581 _
        have k1608 : wLM H1581 r0 = wLM H r0 := ((wLM_fr w1330 g0 f1586 rfl).trans (wLM_fr hW g0 ((wfr.rf (l := [(42, 0)])).put' e1329 g0 rfl) rfl))
        refine wp_of e252 c252_30 (rw_istore_n (pc' := 31) (z := z1587) (L' := [(3, vI z1587), (0, .ref r0), (1, vI a1), (2, vI a2)]) rfl rfl rfl ?_)
        refine wp_of e252 c252_31 (rw_iload_n (pc' := 32) (z := z1587) rfl rfl ?_)
        refine wp_of e252 c252_32 (rw_if_le (p1 := 41) (p2 := 35) (by decide) rfl ⟨Int.le_trans (by decide) b1588.1, Int.le_trans b1588.2 (by decide)⟩ (fun c1609 => ?_) (fun c1609 => ?_))
        · refine wp_of e252 c252_41 (rw_aload_n (pc' := 42) (v := .ref r0) rfl rfl rfl ?_)
          refine wp_of e252 c252_42 (rw_iload_n (pc' := 43) (z := a1) rfl rfl ?_)
          refine wp_of e252 c252_43 (rw_iload_n (pc' := 44) (z := a2) rfl rfl ?_)
          have k1610 : H1581 r0 3 = H1328 r0 3 := (f1586 r0 3 _ g0 rfl)
          obtain ⟨r1611, q1612, g1613⟩ := (w1585.opt g0 (t' := 54) (n := 33) (j := 3) (p := 0) (q := 0) rfl (by decide) rfl).resolve_left (by omega)
          refine wp_of e252 c252_44 (xc_V (pc' := 47) (r := r0) (as := [vI a1, vI a2]) (st := []) (lm_9_444) rfl rfl (Nat.le_of_ble_eq_true rfl) w1585 g0 sh_42 (by decide) rfl (by decide) (s_251 w1585 g0 ⟨by omega, by omega⟩ ⟨i2.1, i2.2⟩ q1612 g1613 (by omega)) (fun R1614 T1615 H1616 p1617 => ?_))
          obtain ⟨e1618, w1620, f1621, z1622, e1619, b1623⟩ := p1617
          subst e1618
          subst e1619
          have f1624 := f1607.tr f1621 rfl
          show wp _ _ 252 47 [(3, vI z1587), (0, .ref r0), (1, vI a1), (2, vI a2)] [vI z1622] _ H1616 _
          refine wp_of e252 c252_47 (rw_istore (pc' := 49) (z := z1622) (L' := [(4, vI z1622), (3, vI z1587), (0, .ref r0), (1, vI a1), (2, vI a2)]) rfl rfl rfl ?_)
          refine wp_of e252 c252_49 (rw_aload_n (pc' := 50) (v := .ref r0) rfl rfl rfl ?_)
          refine wp_of e252 c252_50 (rw_iload (pc' := 52) (z := z1622) rfl rfl ?_)
          refine wp_of e252 c252_52 (rw_aload_n (pc' := 53) (v := .ref r0) rfl rfl rfl ?_)
          have k1625 : H1616 r0 29 = H1581 r0 29 := (f1621 r0 29 _ g0 rfl)
          refine wp_of e252 c252_53 (xg_I (pc' := 56) lf_9_422 w1620 g0 sh_42 (by decide) (by decide) ty_42_29 rfl rfl (fun b1626 b1627 => ?_))
          refine wp_of e252 c252_56 (rw_icmp_ne (p1 := 63) (p2 := 59) (by decide) rfl ⟨b1623.1, b1623.2⟩ ⟨Int.le_trans (by decide) b1626, Int.le_trans b1627 (by decide)⟩ (fun c1628 => ?_) (fun c1628 => ?_))
          · refine wp_of e252 c252_63 (rw_iload (pc' := 65) (z := z1622) rfl rfl ?_)
            refine wp_of e252 c252_65 (rw_if_ne (p1 := 72) (p2 := 68) (by decide) rfl ⟨b1623.1, b1623.2⟩ (fun c1629 => ?_) (fun c1629 => ?_))
            · refine wp_of e252 c252_72 (rw_iconst (pc' := 73) rfl ?_)
              refine wp_of e252 c252_73 (xc_V (pc' := 76) (r := r0) (as := [vI 1]) (st := []) (lm_9_58) rfl rfl (Nat.le_of_ble_eq_true rfl) w1620 g0 sh_42 (by decide) rfl (by decide) (s_209 w1620 g0 ⟨by decide, by decide⟩) (fun R1630 T1631 H1632 p1633 => ?_))
              obtain ⟨e1634, w1636, f1637, z1638, e1635, b1639⟩ := p1633
              subst e1634
              subst e1635
              have f1640 := f1624.tr f1637 rfl
              show wp _ _ 252 76 [(4, vI z1622), (3, vI z1587), (0, .ref r0), (1, vI a1), (2, vI a2)] [vI z1638] _ H1632 _
              have k1641 : wKI H1632 r0 = wKI H1581 r0 := ((wKI_fr w1620 g0 f1637 rfl).trans (wKI_fr w1585 g0 f1621 rfl))
              have h1642 : KNN T H1632 r0 e d := (KNN_fr w1620 g0 f1637 rfl (KNN_fr w1585 g0 f1621 rfl a1598))
              exact wp_ireturn e252 c252_76 rfl ⟨rfl, w1636, f1640, z1638, rfl, ⟨b1639.1, b1639.2⟩, ⟨by omega, h1642⟩⟩
            · refine wp_of e252 c252_68 (rw_iconst (pc' := 69) rfl ?_)
              refine wp_of e252 c252_69 (rw_goto (p1 := 73) (by decide) ?_)
              refine wp_of e252 c252_73 (xc_V (pc' := 76) (r := r0) (as := [vI 0]) (st := []) (lm_9_58) rfl rfl (Nat.le_of_ble_eq_true rfl) w1620 g0 sh_42 (by decide) rfl (by decide) (s_209 w1620 g0 ⟨by decide, by decide⟩) (fun R1643 T1644 H1645 p1646 => ?_))
              obtain ⟨e1647, w1649, f1650, z1651, e1648, b1652⟩ := p1646
              subst e1647
              subst e1648
              have f1653 := f1624.tr f1650 rfl
              show wp _ _ 252 76 [(4, vI z1622), (3, vI z1587), (0, .ref r0), (1, vI a1), (2, vI a2)] [vI z1651] _ H1645 _
              have k1654 : wKI H1645 r0 = wKI H1581 r0 := ((wKI_fr w1620 g0 f1650 rfl).trans (wKI_fr w1585 g0 f1621 rfl))
              have h1655 : KNN T H1645 r0 e d := (KNN_fr w1620 g0 f1650 rfl (KNN_fr w1585 g0 f1621 rfl a1598))
              exact wp_ireturn e252 c252_76 rfl ⟨rfl, w1649, f1653, z1651, rfl, ⟨b1652.1, b1652.2⟩, ⟨by omega, h1655⟩⟩
          · refine wp_of e252 c252_59 (rw_iconst (pc' := 60) rfl ?_)
            refine wp_of e252 c252_60 (rw_goto (p1 := 73) (by decide) ?_)
            refine wp_of e252 c252_73 (xc_V (pc' := 76) (r := r0) (as := [vI 2]) (st := []) (lm_9_58) rfl rfl (Nat.le_of_ble_eq_true rfl) w1620 g0 sh_42 (by decide) rfl (by decide) (s_209 w1620 g0 ⟨by decide, by decide⟩) (fun R1656 T1657 H1658 p1659 => ?_))
            obtain ⟨e1660, w1662, f1663, z1664, e1661, b1665⟩ := p1659
            subst e1660
            subst e1661
            have f1666 := f1624.tr f1663 rfl
            show wp _ _ 252 76 [(4, vI z1622), (3, vI z1587), (0, .ref r0), (1, vI a1), (2, vI a2)] [vI z1664] _ H1658 _
            have k1667 : wKI H1658 r0 = wKI H1581 r0 := ((wKI_fr w1620 g0 f1663 rfl).trans (wKI_fr w1585 g0 f1621 rfl))
            have h1668 : KNN T H1658 r0 e d := (KNN_fr w1620 g0 f1663 rfl (KNN_fr w1585 g0 f1621 rfl a1598))
            exact wp_ireturn e252 c252_76 rfl ⟨rfl, w1662, f1666, z1664, rfl, ⟨b1665.1, b1665.2⟩, ⟨by omega, h1668⟩⟩
        · exfalso
          omega
      · have f1669 := f1331.tr f1586 rfl
        show wp _ _ 252 30 [(0, .ref r0), (1, vI a1), (2, vI a2)] [vI z1587] _ H1581 _
        have k1670 : wLM H1581 r0 = wLM H r0 := ((wLM_fr w1330 g0 f1586 rfl).trans (wLM_fr hW g0 ((wfr.rf (l := [(42, 0)])).put' e1329 g0 rfl) rfl))
        refine wp_of e252 c252_30 (rw_istore_n (pc' := 31) (z := z1587) (L' := [(3, vI z1587), (0, .ref r0), (1, vI a1), (2, vI a2)]) rfl rfl rfl ?_)
        refine wp_of e252 c252_31 (rw_iload_n (pc' := 32) (z := z1587) rfl rfl ?_)
        refine wp_of e252 c252_32 (rw_if_le (p1 := 41) (p2 := 35) (by decide) rfl ⟨Int.le_trans (by decide) b1588.1, Int.le_trans b1588.2 (by decide)⟩ (fun c1671 => ?_) (fun c1671 => ?_))
        · exfalso
          omega
        · refine wp_of e252 c252_35 (rw_aload_n (pc' := 36) (v := .ref r0) rfl rfl rfl ?_)
          refine wp_of e252 c252_36 (rw_iload_n (pc' := 37) (z := z1587) rfl rfl ?_)
          refine wp_of e252 c252_37 (xc_V (pc' := 40) (r := r0) (as := [vI z1587]) (st := []) (lm_9_54) rfl rfl (Nat.le_of_ble_eq_true rfl) w1585 g0 sh_42 (by decide) rfl (by decide) (s_170 w1585 g0 ⟨Int.le_trans (by decide) b1588.1, Int.le_trans b1588.2 (by decide)⟩) (fun R1672 T1673 H1674 p1675 => ?_))
          obtain ⟨e1676, w1678, f1679, z1680, e1677, b1681⟩ := p1675
          subst e1676
          subst e1677
          have f1682 := f1669.tr f1679 rfl
          show wp _ _ 252 40 [(3, vI z1587), (0, .ref r0), (1, vI a1), (2, vI a2)] [vI z1680] _ H1674 _
          have k1683 : wKI H1674 r0 = wKI H1581 r0 := (wKI_fr w1585 g0 f1679 rfl)
          have h1684 : KNN T H1674 r0 e d := (KNN_fr w1585 g0 f1679 rfl a1606)
          exact wp_ireturn e252 c252_40 rfl ⟨rfl, w1678, f1682, z1680, rfl, ⟨b1681.1, b1681.2⟩, ⟨by omega, h1684⟩⟩
/-! StrikeAwakeModel.surely(IZ)I  -/
abbrev uq_254 (r0 : Nat) (a1 : Int) (a2 : Int) (e : xD) (d : xD) (T : wq_T) (H : wq_H) : Option Value → wq_T → wq_H → Prop := fun r T' H' => T = T' ∧ WT T H' ∧ wfr [(42, 0), (42, 1), (42, 2), (42, 28), (42, 29), (51, 999), (52, 999)] T H H' ∧ ∃ z : Int, some (vI z) = r ∧ ((-2147483648) ≤ z ∧ z ≤ 2147483647) ∧ (((wKI H' r0 = 1) ∧ KNN T H' r0 e d))
set_option maxHeartbeats 4000000 in
theorem u_254 {kt : Nat → Option mc_E} {T : wq_T} {H : wq_H} {r0 : Nat} {a1 : Int} {a2 : Int} {e : xD} {d : xD} (hW : WT T H) (g0 : T.2.2.2 r0 = some 42) (i1 : (-2147483648) ≤ a1 ∧ a1 ≤ 2147483647) (i2 : 0 ≤ a2 ∧ a2 ≤ 1) (p0 : wKI H r0 = 1) (p1 : XW d) (p2 : ∀ h : Nat, d 0 0 ≤ (h : Int) → h < 24 → e 13 h = 0) (p3 : XN d) (p4 : ∀ h : Nat, h < 24 → 0 ≤ e 13 h ∧ e 13 h ≤ 100) (hRB_r0 : RB T H r0 e d) (hKNN_r0 : KNN T H r0 e d) : wpc kt 9 254 [.ref r0, vI a1, vI a2] T H (uq_254 r0 a1 a2 e d T H) := by
  refine wp_enter e254 (Nat.le_of_ble_eq_true rfl) rfl ?_
  have f0 : wfr [(42, 0), (42, 1), (42, 2), (42, 28), (42, 29), (51, 999), (52, 999)] T H H := wfr.rf
  show wp _ _ 254 0 [(0, .ref r0), (1, vI a1), (2, vI a2)] [] _ H _
  have _b := RB_b hW hRB_r0
  have _nu := RB_n3 hRB_r0
  have _lm := RB_lm hRB_r0
  refine wp_of e254 c254_0 (rw_aload_n (pc' := 1) (v := .ref r0) rfl rfl rfl ?_)
  refine wp_of e254 c254_1 (rw_iconst (pc' := 2) rfl ?_)
  refine wp_of e254 c254_2 (xp_I (pc' := 5) lf_9_48 hW g0 sh_42 (by decide) (by decide) ty_42_0 rfl rfl (by decide) (by decide) ⟨by decide, by decide⟩ rfl (fun H1379 e1380 w1381 => ?_))
  have f1382 := f0.put' e1380 g0 rfl
  have k1383 : H1379 r0 0 = 0 := wq_u_s e1380
  refine wp_of e254 c254_5 (rw_aload_n (pc' := 6) (v := .ref r0) rfl rfl rfl ?_)
  refine wp_of e254 c254_6 (rw_aload_n (pc' := 7) (v := .ref r0) rfl rfl rfl ?_)
  refine wp_of e254 c254_7 (rw_iload_n (pc' := 8) (z := a1) rfl rfl ?_)
  refine wp_of e254 c254_8 (xc_V (pc' := 11) (r := r0) (as := [vI a1]) (st := [.ref r0]) (lm_9_373) rfl rfl (Nat.le_of_ble_eq_true rfl) w1381 g0 sh_42 (by decide) rfl (by decide) (s_218 w1381 g0 ⟨i1.1, i1.2⟩) (fun R1384 T1385 H1386 p1387 => ?_))
  obtain ⟨e1388, e1390, z1392, e1389, b1393, p1391⟩ := p1387
  subst e1388
  subst e1389
  subst e1390
  show wp _ _ 254 11 [(0, .ref r0), (1, vI a1), (2, vI a2)] [vI z1392, .ref r0] _ H1379 _
  have k1394 : H1379 r0 3 = H r0 3 := (wq_u_j e1380 rfl)
  have k1395 : wKI H1379 r0 = wKI H r0 := (wKI_fr hW g0 ((wfr.rf (l := [(42, 0)])).put' e1380 g0 rfl) rfl)
  have h1396 : RB T H1379 r0 e d := (RB_fr hW g0 ((wfr.rf (l := [(42, 0)])).put' e1380 g0 rfl) rfl hRB_r0)
  have h1397 : KNN T H1379 r0 e d := (KNN_fr hW g0 ((wfr.rf (l := [(42, 0)])).put' e1380 g0 rfl) rfl hKNN_r0)
  refine wp_of e254 c254_11 (xc_V (pc' := 14) (r := r0) (as := [vI z1392]) (st := []) (lm_9_447) rfl rfl (Nat.le_of_ble_eq_true rfl) w1381 g0 sh_42 (by decide) rfl (by decide) (u_253 (e := e) (d := d) w1381 g0 ⟨b1393.1, b1393.2⟩ (by omega) (by omega) (by assumption) (by assumption) (by assumption) (by assumption) h1396 h1397) (fun R1398 T1399 H1400 p1401 => ?_))
  obtain ⟨e1402, w1404, f1405, z1406, e1403, b1407, p1408⟩ := p1401
  subst e1402
  subst e1403
  rcases p1408 with ⟨a1409, a1410, a1411, a1412, a1413, a1414, a1415, a1416, a1417, a1418⟩ | ⟨a1419, a1420, a1421, a1422, a1423, a1424, a1425⟩
  · have f1426 := f1382.tr f1405 rfl
    show wp _ _ 254 14 [(0, .ref r0), (1, vI a1), (2, vI a2)] [vI z1406] _ H1400 _
    have k1427 : wLM H1400 r0 = wLM H r0 := ((wLM_fr w1381 g0 f1405 rfl).trans (wLM_fr hW g0 ((wfr.rf (l := [(42, 0)])).put' e1380 g0 rfl) rfl))
    refine wp_of e254 c254_14 (rw_istore_n (pc' := 15) (z := z1406) (L' := [(3, vI z1406), (0, .ref r0), (1, vI a1), (2, vI a2)]) rfl rfl rfl ?_)
    refine wp_of e254 c254_15 (rw_iload_n (pc' := 16) (z := z1406) rfl rfl ?_)
    refine wp_of e254 c254_16 (rw_if_le (p1 := 25) (p2 := 19) (by decide) rfl ⟨Int.le_trans (by decide) b1407.1, Int.le_trans b1407.2 (by decide)⟩ (fun c1428 => ?_) (fun c1428 => ?_))
    · refine wp_of e254 c254_25 (rw_iconst (pc' := 26) rfl ?_)
      refine wp_of e254 c254_26 (rw_istore (pc' := 28) (z := 0) (L' := [(4, vI 0), (3, vI z1406), (0, .ref r0), (1, vI a1), (2, vI a2)]) rfl rfl rfl ?_)
      refine wp_of e254 c254_28 (rw_iconst (pc' := 29) rfl ?_)
      refine wp_of e254 c254_29 (rw_istore (pc' := 31) (z := 0) (L' := [(5, vI 0), (4, vI 0), (3, vI z1406), (0, .ref r0), (1, vI a1), (2, vI a2)]) rfl rfl rfl ?_)
      have lp1695 : ∀ (n1696 : Nat) (v1698 : Int) (v1699 : Int) (H1700 : wq_H), WT T H1700 → wfr [(51, 999)] T H1400 H1700 → (0 ≤ v1698 ∧ v1698 ≤ 6) → (0 ≤ v1699 ∧ v1699 ≤ 16777215) → (6 - v1698).toNat = n1696 → wp kt 8 254 31 [(5, vI v1698), (4, vI v1699), (0, .ref r0), (1, vI a1), (2, vI a2)] [] T H1700 (uq_254 r0 a1 a2 e d T H) := by
        intro n1696
        induction n1696 using Nat.strongRecOn with
        | _ n1696 ih1697 =>
          intro v1698 v1699 H1700 w1701 f1702 b1703 b1704 m1705
          have f1706 := f1426.tr f1702 rfl
          refine wp_of e254 c254_31 (rw_iload (pc' := 33) (z := v1698) rfl rfl ?_)
          refine wp_of e254 c254_33 (rw_aload_n (pc' := 34) (v := .ref r0) rfl rfl rfl ?_)
          have k1707 : H1700 r0 3 = H1379 r0 3 := ((f1702 r0 3 _ g0 rfl).trans (f1405 r0 3 _ g0 rfl))
          refine wp_of e254 c254_34 (xg_O (pc' := 37) lf_9_337 w1701 g0 sh_42 (by decide) (by decide) ty_42_3 rfl rfl (fun q1709 => ?_) (fun r1708 q1709 g1710 => ?_))
          · exfalso
            omega
          · refine wp_of e254 c254_37 (xg_I (pc' := 40) lf_9_188 w1701 g1710 sh_54 (by decide) (by decide) ty_54_3 rfl rfl (fun b1711 b1712 => ?_))
            refine wp_of e254 c254_40 (rw_icmp_ge (p1 := 84) (p2 := 43) (by decide) rfl ⟨Int.le_trans (by decide) b1703.1, Int.le_trans b1703.2 (by decide)⟩ ⟨Int.le_trans (by decide) b1711, Int.le_trans b1712 (by decide)⟩ (fun c1713 => ?_) (fun c1713 => ?_))
            · refine wp_of e254 c254_84 (rw_aload_n (pc' := 85) (v := .ref r0) rfl rfl rfl ?_)
              refine wp_of e254 c254_85 (rw_iload (pc' := 87) (z := v1699) rfl rfl ?_)
              refine wp_of e254 c254_87 (xc_V (pc' := 90) (r := r0) (as := [vI v1699]) (st := []) (lm_9_58) rfl rfl (Nat.le_of_ble_eq_true rfl) w1701 g0 sh_42 (by decide) rfl (by decide) (s_209 w1701 g0 ⟨Int.le_trans (by decide) b1704.1, Int.le_trans b1704.2 (by decide)⟩) (fun R1714 T1715 H1716 p1717 => ?_))
              obtain ⟨e1718, w1720, f1721, z1722, e1719, b1723⟩ := p1717
              subst e1718
              subst e1719
              have f1724 := f1706.tr f1721 rfl
              show wp _ _ 254 90 [(5, vI v1698), (4, vI v1699), (0, .ref r0), (1, vI a1), (2, vI a2)] [vI z1722] _ H1716 _
              have k1725 : wKI H1716 r0 = wKI H1400 r0 := ((wKI_fr w1701 g0 f1721 rfl).trans (wKI_fr w1404 g0 f1702 rfl))
              have h1726 : KNN T H1716 r0 e d := (KNN_fr w1701 g0 f1721 rfl (KNN_fr w1404 g0 f1702 rfl a1417))
              exact wp_ireturn e254 c254_90 rfl ⟨rfl, w1720, f1724, z1722, rfl, ⟨b1723.1, b1723.2⟩, ⟨by omega, h1726⟩⟩
            · refine wp_of e254 c254_43 (rw_iload (pc' := 45) (z := v1699) rfl rfl ?_)
              refine wp_of e254 c254_45 (rw_aload_n (pc' := 46) (v := .ref r0) rfl rfl rfl ?_)
              refine wp_of e254 c254_46 (rw_iload (pc' := 48) (z := v1698) rfl rfl ?_)
              refine wp_of e254 c254_48 (rw_iload_n (pc' := 49) (z := a1) rfl rfl ?_)
              have k1727 : H1700 r0 29 = H1400 r0 29 := (f1702 r0 29 _ g0 rfl)
              have k1728 : wLM H1700 r0 = wLM H1400 r0 := (wLM_fr w1404 g0 f1702 rfl)
              refine wp_of e254 c254_49 (xc_V (pc' := 52) (r := r0) (as := [vI v1698, vI a1]) (st := [vI v1699]) (lm_9_444) rfl rfl (Nat.le_of_ble_eq_true rfl) w1701 g0 sh_42 (by decide) rfl (by decide) (s_251 w1701 g0 ⟨b1703.1, by omega⟩ ⟨i1.1, i1.2⟩ q1709 g1710 (by omega)) (fun R1729 T1730 H1731 p1732 => ?_))
              obtain ⟨e1733, w1735, f1736, z1737, e1734, b1738⟩ := p1732
              subst e1733
              subst e1734
              have f1739 := f1706.tr f1736 rfl
              have f1740 := f1702.tr f1736 rfl
              show wp _ _ 254 52 [(5, vI v1698), (4, vI v1699), (0, .ref r0), (1, vI a1), (2, vI a2)] [vI z1737, vI v1699] _ H1731 _
              refine wp_of e254 c254_52 (rw_iload_n (pc' := 53) (z := a2) rfl rfl ?_)
              refine wp_of e254 c254_53 (rw_if_eq (p1 := 63) (p2 := 56) (by decide) rfl ⟨Int.le_trans (by decide) i2.1, Int.le_trans i2.2 (by decide)⟩ (fun c1741 => ?_) (fun c1741 => ?_))
              · refine wp_of e254 c254_63 (rw_iconst (pc' := 64) rfl ?_)
                refine wp_of e254 c254_64 (rw_icmp_ne (p1 := 74) (p2 := 67) (by decide) rfl ⟨b1738.1, b1738.2⟩ ⟨by decide, by decide⟩ (fun c1742 => ?_) (fun c1742 => ?_))
                · refine wp_of e254 c254_74 (rw_iconst (pc' := 75) rfl ?_)
                  refine wp_of e254 c254_75 (rw_ior (pc' := 76) rfl ?_)
                  obtain ⟨v1743, e1744⟩ : ∃ x : Int, x = wq_or v1699 0 := ⟨_, rfl⟩
                  rw [← e1744]
                  have b1745 : 0 ≤ v1743 ∧ v1743 ≤ 16777215 := by
                    rw [e1744]
                    exact wq_or_24 ⟨by omega, by omega⟩ ⟨by omega, by omega⟩
                  refine wp_of e254 c254_76 (rw_istore (pc' := 78) (z := v1743) (L' := [(4, vI v1743), (5, vI v1698), (0, .ref r0), (1, vI a1), (2, vI a2)]) rfl rfl rfl ?_)
                  refine wp_of e254 c254_78 (rw_iinc (pc' := 81) (z := v1698) (L' := [(5, vI (v1698 + 1)), (4, vI v1743), (0, .ref r0), (1, vI a1), (2, vI a2)]) rfl rfl rfl rfl ?_)
                  refine wp_of e254 c254_81 (rw_goto (p1 := 31) (by decide) ?_)
                  exact wp_lc (ks := [5, 4, 0, 1, 2]) (wl_c rfl (wl_c rfl (wl_c rfl (wl_c rfl (wl_c rfl wl_n))))) rfl (by decide) (ih1697 _ (by omega) (v1698 + 1) v1743 H1731 w1735 f1740 ⟨by omega, by omega⟩ ⟨b1745.1, b1745.2⟩ rfl)
                · refine wp_of e254 c254_67 (rw_iconst (pc' := 68) rfl ?_)
                  refine wp_of e254 c254_68 (rw_iload (pc' := 70) (z := v1698) rfl rfl ?_)
                  refine wp_of e254 c254_70 (rw_ishl (pc' := 71) rfl ?_)
                  obtain ⟨v1746, e1747⟩ : ∃ x : Int, x = wq_shl 1 v1698 := ⟨_, rfl⟩
                  rw [← e1747]
                  have b1748 : 1 ≤ v1746 ∧ v1746 ≤ 64 := by
                    rw [e1747]
                    exact wq_shl1_6 ⟨by omega, by omega⟩
                  refine wp_of e254 c254_71 (rw_goto (p1 := 75) (by decide) ?_)
                  refine wp_of e254 c254_75 (rw_ior (pc' := 76) rfl ?_)
                  obtain ⟨v1749, e1750⟩ : ∃ x : Int, x = wq_or v1699 v1746 := ⟨_, rfl⟩
                  rw [← e1750]
                  have b1751 : 0 ≤ v1749 ∧ v1749 ≤ 16777215 := by
                    rw [e1750]
                    exact wq_or_24 ⟨by omega, by omega⟩ ⟨by omega, by omega⟩
                  refine wp_of e254 c254_76 (rw_istore (pc' := 78) (z := v1749) (L' := [(4, vI v1749), (5, vI v1698), (0, .ref r0), (1, vI a1), (2, vI a2)]) rfl rfl rfl ?_)
                  refine wp_of e254 c254_78 (rw_iinc (pc' := 81) (z := v1698) (L' := [(5, vI (v1698 + 1)), (4, vI v1749), (0, .ref r0), (1, vI a1), (2, vI a2)]) rfl rfl rfl rfl ?_)
                  refine wp_of e254 c254_81 (rw_goto (p1 := 31) (by decide) ?_)
                  exact wp_lc (ks := [5, 4, 0, 1, 2]) (wl_c rfl (wl_c rfl (wl_c rfl (wl_c rfl (wl_c rfl wl_n))))) rfl (by decide) (ih1697 _ (by omega) (v1698 + 1) v1749 H1731 w1735 f1740 ⟨by omega, by omega⟩ ⟨b1751.1, b1751.2⟩ rfl)
              · refine wp_of e254 c254_56 (rw_aload_n (pc' := 57) (v := .ref r0) rfl rfl rfl ?_)
                have k1752 : H1731 r0 29 = H1700 r0 29 := (f1736 r0 29 _ g0 rfl)
                refine wp_of e254 c254_57 (xg_I (pc' := 60) lf_9_422 w1735 g0 sh_42 (by decide) (by decide) ty_42_29 rfl rfl (fun b1753 b1754 => ?_))
                refine wp_of e254 c254_60 (rw_goto (p1 := 64) (by decide) ?_)
                refine wp_of e254 c254_64 (rw_icmp_ne (p1 := 74) (p2 := 67) (by decide) rfl ⟨b1738.1, b1738.2⟩ ⟨Int.le_trans (by decide) b1753, Int.le_trans b1754 (by decide)⟩ (fun c1755 => ?_) (fun c1755 => ?_))
                · refine wp_of e254 c254_74 (rw_iconst (pc' := 75) rfl ?_)
                  refine wp_of e254 c254_75 (rw_ior (pc' := 76) rfl ?_)
                  obtain ⟨v1756, e1757⟩ : ∃ x : Int, x = wq_or v1699 0 := ⟨_, rfl⟩
                  rw [← e1757]
                  have b1758 : 0 ≤ v1756 ∧ v1756 ≤ 16777215 := by
                    rw [e1757]
                    exact wq_or_24 ⟨by omega, by omega⟩ ⟨by omega, by omega⟩
                  refine wp_of e254 c254_76 (rw_istore (pc' := 78) (z := v1756) (L' := [(4, vI v1756), (5, vI v1698), (0, .ref r0), (1, vI a1), (2, vI a2)]) rfl rfl rfl ?_)
                  refine wp_of e254 c254_78 (rw_iinc (pc' := 81) (z := v1698) (L' := [(5, vI (v1698 + 1)), (4, vI v1756), (0, .ref r0), (1, vI a1), (2, vI a2)]) rfl rfl rfl rfl ?_)
                  refine wp_of e254 c254_81 (rw_goto (p1 := 31) (by decide) ?_)
                  exact wp_lc (ks := [5, 4, 0, 1, 2]) (wl_c rfl (wl_c rfl (wl_c rfl (wl_c rfl (wl_c rfl wl_n))))) rfl (by decide) (ih1697 _ (by omega) (v1698 + 1) v1756 H1731 w1735 f1740 ⟨by omega, by omega⟩ ⟨b1758.1, b1758.2⟩ rfl)
                · refine wp_of e254 c254_67 (rw_iconst (pc' := 68) rfl ?_)
                  refine wp_of e254 c254_68 (rw_iload (pc' := 70) (z := v1698) rfl rfl ?_)
                  refine wp_of e254 c254_70 (rw_ishl (pc' := 71) rfl ?_)
                  obtain ⟨v1759, e1760⟩ : ∃ x : Int, x = wq_shl 1 v1698 := ⟨_, rfl⟩
                  rw [← e1760]
                  have b1761 : 1 ≤ v1759 ∧ v1759 ≤ 64 := by
                    rw [e1760]
                    exact wq_shl1_6 ⟨by omega, by omega⟩
                  refine wp_of e254 c254_71 (rw_goto (p1 := 75) (by decide) ?_)
                  refine wp_of e254 c254_75 (rw_ior (pc' := 76) rfl ?_)
                  obtain ⟨v1762, e1763⟩ : ∃ x : Int, x = wq_or v1699 v1759 := ⟨_, rfl⟩
                  rw [← e1763]
                  have b1764 : 0 ≤ v1762 ∧ v1762 ≤ 16777215 := by
                    rw [e1763]
                    exact wq_or_24 ⟨by omega, by omega⟩ ⟨by omega, by omega⟩
                  refine wp_of e254 c254_76 (rw_istore (pc' := 78) (z := v1762) (L' := [(4, vI v1762), (5, vI v1698), (0, .ref r0), (1, vI a1), (2, vI a2)]) rfl rfl rfl ?_)
                  refine wp_of e254 c254_78 (rw_iinc (pc' := 81) (z := v1698) (L' := [(5, vI (v1698 + 1)), (4, vI v1762), (0, .ref r0), (1, vI a1), (2, vI a2)]) rfl rfl rfl rfl ?_)
                  refine wp_of e254 c254_81 (rw_goto (p1 := 31) (by decide) ?_)
                  exact wp_lc (ks := [5, 4, 0, 1, 2]) (wl_c rfl (wl_c rfl (wl_c rfl (wl_c rfl (wl_c rfl wl_n))))) rfl (by decide) (ih1697 _ (by omega) (v1698 + 1) v1762 H1731 w1735 f1740 ⟨by omega, by omega⟩ ⟨b1764.1, b1764.2⟩ rfl)
      exact wp_lc (ks := [5, 4, 3, 0, 1, 2]) (wl_c rfl (wl_c rfl (wl_c rfl (wl_c rfl (wl_c rfl wl_n))))) rfl (by decide) (lp1695 _ 0 0 H1400 w1404 wfr.rf ⟨by decide, by decide⟩ ⟨by decide, by decide⟩ rfl)
    · exfalso
      omega
  · have f1765 := f1382.tr f1405 rfl
    show wp _ _ 254 14 [(0, .ref r0), (1, vI a1), (2, vI a2)] [vI z1406] _ H1400 _
    have k1766 : wLM H1400 r0 = wLM H r0 := ((wLM_fr w1381 g0 f1405 rfl).trans (wLM_fr hW g0 ((wfr.rf (l := [(42, 0)])).put' e1380 g0 rfl) rfl))
    refine wp_of e254 c254_14 (rw_istore_n (pc' := 15) (z := z1406) (L' := [(3, vI z1406), (0, .ref r0), (1, vI a1), (2, vI a2)]) rfl rfl rfl ?_)
    refine wp_of e254 c254_15 (rw_iload_n (pc' := 16) (z := z1406) rfl rfl ?_)
    refine wp_of e254 c254_16 (rw_if_le (p1 := 25) (p2 := 19) (by decide) rfl ⟨Int.le_trans (by decide) b1407.1, Int.le_trans b1407.2 (by decide)⟩ (fun c1767 => ?_) (fun c1767 => ?_))
    · exfalso
      omega
    · refine wp_of e254 c254_19 (rw_aload_n (pc' := 20) (v := .ref r0) rfl rfl rfl ?_)
      refine wp_of e254 c254_20 (rw_iload_n (pc' := 21) (z := z1406) rfl rfl ?_)
      refine wp_of e254 c254_21 (xc_V (pc' := 24) (r := r0) (as := [vI z1406]) (st := []) (lm_9_54) rfl rfl (Nat.le_of_ble_eq_true rfl) w1404 g0 sh_42 (by decide) rfl (by decide) (s_170 w1404 g0 ⟨Int.le_trans (by decide) b1407.1, Int.le_trans b1407.2 (by decide)⟩) (fun R1768 T1769 H1770 p1771 => ?_))
      obtain ⟨e1772, w1774, f1775, z1776, e1773, b1777⟩ := p1771
      subst e1772
      subst e1773
      have f1778 := f1765.tr f1775 rfl
      show wp _ _ 254 24 [(3, vI z1406), (0, .ref r0), (1, vI a1), (2, vI a2)] [vI z1776] _ H1770 _
      have k1779 : wKI H1770 r0 = wKI H1400 r0 := (wKI_fr w1404 g0 f1775 rfl)
      have h1780 : KNN T H1770 r0 e d := (KNN_fr w1404 g0 f1775 rfl a1425)
      exact wp_ireturn e254 c254_24 rfl ⟨rfl, w1774, f1778, z1776, rfl, ⟨b1777.1, b1777.2⟩, ⟨by omega, h1780⟩⟩
