/-! what methods do (own work, written by wip/gen3/sx3.py) -/
/-! StrikeAwake$Reader.readsPerson(LStrikeAwake$Parish;)Z  -/
abbrev uq_25 (r0 : Nat) (r1 : Nat) (tk : Nat) (rb : Nat) (B : Nat → Int) (n : Int) (q : Int) (d : xD) (T : wq_T) (H : wq_H) : Option Value → wq_T → wq_H → Prop := fun r T' H' => T = T' ∧ WT T H' ∧ wfr [(35, 6), (35, 7), (35, 8), (35, 9), (35, 10), (35, 11), (35, 12), (35, 13), (35, 14), (35, 15), (35, 16), (35, 17), (3, 1), (3, 2), (3, 3), (3, 4), (4, 2), (4, 3), (4, 4), (4, 5), (4, 6)] T H H' ∧ ∃ z : Int, some (vI z) = r ∧ (0 ≤ z ∧ z ≤ 1) ∧ (((z = 1) ∧ ((xbd B n q d).1 = 0) ∧ (q ≤ (xN B n (xN B n (xN B n (xN B n (xN B n (xN B n (xN B n (xN B n (xN B n q)))))))))) ∧ ((xbd B n q d).2.2 = (xN B n (xN B n (xN B n (xN B n (xN B n (xN B n (xN B n (xN B n (xN B n q)))))))))) ∧ (H' r0 3 = H r0 3) ∧ TC T H' tk B n (xN B n (xN B n (xN B n (xN B n (xN B n (xN B n (xN B n (xN B n (xN B n q))))))))) ∧ DC T H' r1 d ∧ PK T H' r1 B n q d ∧ CZ T H' r1 (d 0 3 + 1)) ∨ ((z = 0) ∧ ((xbd B n q d).1 ≠ 0) ∧ ((xbd B n q d).2.2 = (xbd B n q d).2.1) ∧ (H' r0 3 = (xbd B n q d).1) ∧ (H' r0 4 = (xbd B n q d).2.1)))
set_option maxHeartbeats 4000000 in
theorem u_25 {kt : Nat → Option mc_E} {T : wq_T} {H : wq_H} {r0 : Nat} {r1 : Nat} {tk : Nat} {rb : Nat} {B : Nat → Int} {n : Int} {q : Int} {d : xD} (hW : WT T H) (g0 : T.2.2.2 r0 = some 3) (g1 : T.2.2.2 r1 = some 27) (qtk : H r0 0 = (tk : Int)) (gtk : T.2.2.2 tk = some 4) (qrb : H tk 0 = (rb : Int)) (grb : T.2.2.2 rb = some 2) (p0 : d 0 3 ≤ 5) (hTC_tk : TC T H tk B n q) (hDC_r1 : DC T H r1 d) (hDD_r1 : DD T H r1 ) (hCZ_r1 : CZ T H r1 (d 0 3)) : wpc kt 4 25 [.ref r0, .ref r1] T H (uq_25 r0 r1 tk rb B n q d T H) := by
  refine wp_enter e25 (Nat.le_of_ble_eq_true rfl) rfl ?_
  have f0 : wfr [(35, 6), (35, 7), (35, 8), (35, 9), (35, 10), (35, 11), (35, 12), (35, 13), (35, 14), (35, 15), (35, 16), (35, 17), (3, 1), (3, 2), (3, 3), (3, 4), (4, 2), (4, 3), (4, 4), (4, 5), (4, 6)] T H H := wfr.rf
  show wp _ _ 25 0 [(0, .ref r0), (1, .ref r1)] [] _ H _
  have u1265 := TC_k hTC_tk
  have u1266 := DC_k hDC_r1
  have h1267 : ST T H r1 (d 13) := hDC_r1.2.2.1
  have h1268 : SV T H r1 (d 13) 24 := hDC_r1.2.2.2.1
  have h1269 : DA3 T H r1 (d 0 5) (d 12) := hDC_r1.2.2.2.2.1
  have h1270 : DA4 T H r1 (d 0 6) (d 14) := hDC_r1.2.2.2.2.2.1
  have h1271 : DA5 T H r1 (d 0 6) (d 15) := hDC_r1.2.2.2.2.2.2.1
  have h1272 : DA6 T H r1 (d 0 7) (d 16) := hDC_r1.2.2.2.2.2.2.2
  have _i := TC_i hTC_tk
  have _x := @xre_b B n q
  have _m := @xnm_b B n q d
  refine wp_of e25 c25_0 (rw_aload_n (pc' := 1) (v := .ref r0) rfl rfl rfl ?_)
  refine wp_of e25 c25_1 (xc_V (pc' := 4) (r := r0) (as := []) (st := []) (lm_1_131) rfl rfl (Nat.le_of_ble_eq_true rfl) hW g0 sh_3 (by decide) rfl (by decide) (u_26 (B := B) (n := n) (q := q) hW g0 qtk gtk qrb grb hTC_tk) (fun R1273 T1274 H1275 p1276 => ?_))
  obtain ⟨e1277, e1279, z1280, e1278, b1281, p1282⟩ := p1276
  subst e1277
  subst e1278
  subst e1279
  rcases p1282 with ⟨a1283, a1284⟩ | ⟨a1285, a1286⟩
  · show wp _ _ 25 4 [(0, .ref r0), (1, .ref r1)] [vI z1280] _ H _
    refine wp_of e25 c25_4 (rw_if_ne (p1 := 13) (p2 := 7) (by decide) rfl ⟨Int.le_trans (by decide) b1281.1, Int.le_trans b1281.2 (by decide)⟩ (fun c1287 => ?_) (fun c1287 => ?_))
    · refine wp_of e25 c25_13 (rw_aload_n (pc' := 14) (v := .ref r1) rfl rfl rfl ?_)
      refine wp_of e25 c25_14 (rw_aload_n (pc' := 15) (v := .ref r0) rfl rfl rfl ?_)
      refine wp_of e25 c25_15 (xg_K (pc' := 18) lf_1_12 hW g0 sh_3 (by decide) (by decide) rfl qtk rfl ?_)
      refine wp_of e25 c25_18 (xg_L (pc' := 21) lf_1_135 hW gtk sh_4 (by decide) (by decide) ty_4_6 rfl rfl (fun b1288 b1289 => ?_))
      refine wp_of e25 c25_21 (xc_V (pc' := 24) (r := r1) (as := [vL (H tk 6)]) (st := []) (lm_1_139) rfl rfl (Nat.le_of_ble_eq_true rfl) hW g1 sh_27 (by decide) rfl (by decide) (u_27 (d := d) (y := (xY B n q)) hW g1 ⟨b1288, b1289⟩ (by omega) hDC_r1) (fun R1290 T1291 H1292 p1293 => ?_))
      obtain ⟨e1294, e1296, z1297, e1295, b1298, p1299⟩ := p1293
      subst e1294
      subst e1295
      subst e1296
      obtain ⟨a1300, a1301⟩ := p1299
      show wp _ _ 25 24 [(0, .ref r0), (1, .ref r1)] [vI z1297] _ H _
      refine wp_of e25 c25_24 (rw_if_lt (p1 := 33) (p2 := 27) (by decide) rfl ⟨b1298.1, b1298.2⟩ (fun c1302 => ?_) (fun c1302 => ?_))
      · refine wp_of e25 c25_33 (rw_aload_n (pc' := 34) (v := .ref r1) rfl rfl rfl ?_)
        refine wp_of e25 c25_34 (xg_R (pc' := 37) lf_1_143 hW g1 sh_27 (by decide) (by decide) ty_27_0 rfl rfl (fun r1303 q1304 g1305 => ?_))
        refine wp_of e25 c25_37 (rw_aload_n (pc' := 38) (v := .ref r1) rfl rfl rfl ?_)
        refine wp_of e25 c25_38 (xg_I (pc' := 41) lf_1_44 hW g1 sh_27 (by decide) (by decide) ty_27_10 rfl rfl (fun b1306 b1307 => ?_))
        refine wp_of e25 c25_41 (xa_R (pc' := 42) (by decide) hW g1305 sh_28 (by decide) (ty_28 _) (b1306) (by omega) rfl (fun r1308 q1309 g1310 => ?_))
        refine wp_of e25 c25_42 (rw_astore_n (pc' := 43) (v := .ref r1308) (L' := [(2, .ref r1308), (0, .ref r0), (1, .ref r1)]) rfl rfl rfl rfl ?_)
        refine wp_of e25 c25_43 (rw_aload_n (pc' := 44) (v := .ref r1308) rfl rfl rfl ?_)
        refine wp_of e25 c25_44 (rw_aload_n (pc' := 45) (v := .ref r0) rfl rfl rfl ?_)
        refine wp_of e25 c25_45 (xg_K (pc' := 48) lf_1_12 hW g0 sh_3 (by decide) (by decide) rfl qtk rfl ?_)
        refine wp_of e25 c25_48 (xg_L (pc' := 51) lf_1_135 hW gtk sh_4 (by decide) (by decide) ty_4_6 rfl rfl (fun b1311 b1312 => ?_))
        refine wp_of e25 c25_51 (xc_V (pc' := 54) (r := r1308) (as := [vL (H tk 6)]) (st := []) (lm_1_147) rfl rfl (Nat.le_of_ble_eq_true rfl) hW g1310 sh_35 (by decide) rfl (by decide) (u_28  hW g1310 ⟨b1311, b1312⟩) (fun R1313 T1314 H1315 p1316 => ?_))
        obtain ⟨e1317, w1319, f1320, e1318, p1321⟩ := p1316
        subst e1317
        subst e1318
        obtain ⟨a1322, a1323, a1324, a1325, a1326, a1327, a1328, a1329⟩ := p1321
        have f1330 := f0.tr f1320 rfl
        show wp _ _ 25 54 [(2, .ref r1308), (0, .ref r0), (1, .ref r1)] [] _ H1315 _
        refine wp_of e25 c25_54 (rw_aload_n (pc' := 55) (v := .ref r0) rfl rfl rfl ?_)
        have k1331 : H1315 r0 0 = H r0 0 := (f1320 r0 0 _ g0 rfl)
        have q1332 : H1315 r0 0 = (tk : Int) := k1331.trans qtk
        refine wp_of e25 c25_55 (xg_K (pc' := 58) lf_1_12 w1319 g0 sh_3 (by decide) (by decide) rfl q1332 rfl ?_)
        have k1333 : H1315 tk 0 = H tk 0 := (f1320 tk 0 _ gtk rfl)
        have q1334 : H1315 tk 0 = (rb : Int) := k1333.trans qrb
        have k1335 : H1315 tk 1 = H tk 1 := (f1320 tk 1 _ gtk rfl)
        have k1336 : H1315 tk 2 = H tk 2 := (f1320 tk 2 _ gtk rfl)
        have h1337 : TC T H1315 tk B n q := (TC_fr hW gtk f1320 rfl hTC_tk)
        have h1338 : TP T H1315 rb B := TC_tp h1337 q1334
        refine wp_of e25 c25_58 (xc_V (pc' := 61) (r := tk) (as := []) (st := []) (lm_1_74) rfl rfl (Nat.le_of_ble_eq_true rfl) w1319 gtk sh_4 (by decide) rfl (by decide) (u_16 (B := B) (n := n) (a := (xE B n q)) (q := (xN B n q)) w1319 gtk q1334 grb (by omega) (by omega) (by omega) (rfl) h1338) (fun R1339 T1340 H1341 p1342 => ?_))
        obtain ⟨e1343, w1345, f1346, e1344, p1347⟩ := p1342
        subst e1343
        subst e1344
        have f1349 := f1330.tr f1346 rfl
        show wp _ _ 25 61 [(2, .ref r1308), (0, .ref r0), (1, .ref r1)] [] _ H1341 _
        have u1350 := TC_k p1347
        refine wp_of e25 c25_61 (rw_aload_n (pc' := 62) (v := .ref r0) rfl rfl rfl ?_)
        refine wp_of e25 c25_62 (rw_ldcS (pc' := 64) (k := 67) rfl rfl rfl rfl ?_)
        have k1351 : H1341 r0 0 = H1315 r0 0 := (f1346 r0 0 _ g0 rfl)
        have q1352 : H1341 r0 0 = (tk : Int) := k1351.trans q1332
        have k1353 : H1341 tk 0 = H1315 tk 0 := (f1346 tk 0 _ gtk rfl)
        have q1354 : H1341 tk 0 = (rb : Int) := k1353.trans q1334
        have k1355 : H1341 r0 3 = H r0 3 := ((f1346 r0 3 _ g0 rfl).trans (f1320 r0 3 _ g0 rfl))
        refine wp_of e25 c25_64 (xc_V (pc' := 67) (r := r0) (as := [.ref 67]) (st := []) (lm_1_115) rfl rfl (Nat.le_of_ble_eq_true rfl) w1345 g0 sh_3 (by decide) rfl (by decide) (u_23 (B := B) (n := n) (q := ((xN B n q))) (kk := 2212) w1345 g0 rfl q1352 gtk q1354 grb (by decide +kernel) p1347) (fun R1356 T1357 H1358 p1359 => ?_))
        obtain ⟨e1360, w1362, f1363, z1364, e1361, b1365, p1366⟩ := p1359
        subst e1360
        subst e1361
        rcases p1366 with ⟨a1367, a1368, a1369, a1370⟩ | ⟨a1371, a1372, a1373, a1374⟩
        · have f1375 := f1349.tr f1363 rfl
          show wp _ _ 25 67 [(2, .ref r1308), (0, .ref r0), (1, .ref r1)] [vI z1364] _ H1358 _
          have u1376 := TC_k a1370
          refine wp_of e25 c25_67 (rw_if_eq (p1 := 84) (p2 := 70) (by decide) rfl ⟨Int.le_trans (by decide) b1365.1, Int.le_trans b1365.2 (by decide)⟩ (fun c1377 => ?_) (fun c1377 => ?_))
          · exfalso
            omega
          · refine wp_of e25 c25_70 (rw_aload_n (pc' := 71) (v := .ref r0) rfl rfl rfl ?_)
            refine wp_of e25 c25_71 (rw_bipush (pc' := 73) (z := 23) rfl (by decide) ?_)
            refine wp_of e25 c25_73 (rw_iconst (pc' := 74) rfl ?_)
            refine wp_of e25 c25_74 (rw_bipush (pc' := 76) (z := 7) rfl (by decide) ?_)
            refine wp_of e25 c25_76 (rw_bipush (pc' := 78) (z := 23) rfl (by decide) ?_)
            have k1378 : H1358 r0 0 = H1341 r0 0 := (f1363 r0 0 _ g0 rfl)
            have q1379 : H1358 r0 0 = (tk : Int) := k1378.trans q1352
            have k1380 : H1358 tk 0 = H1341 tk 0 := (f1363 tk 0 _ gtk rfl)
            have q1381 : H1358 tk 0 = (rb : Int) := k1380.trans q1354
            refine wp_of e25 c25_78 (xc_V (pc' := 81) (r := r0) (as := [vI 23, vI 0, vI 7, vI 23]) (st := []) (lm_1_154) rfl rfl (Nat.le_of_ble_eq_true rfl) w1362 g0 sh_3 (by decide) rfl (by decide) (u_29 (B := B) (n := n) (q := ((xN B n ((xN B n q))))) w1362 g0 ⟨by decide, by decide⟩ ⟨by decide, by decide⟩ ⟨by decide, by decide⟩ ⟨by decide, by decide⟩ q1379 gtk q1381 grb a1370) (fun R1382 T1383 H1384 p1385 => ?_))
            obtain ⟨e1386, w1388, f1389, z1390, e1387, b1391, p1392⟩ := p1385
            subst e1386
            subst e1387
            rcases p1392 with ⟨a1393, a1394, a1395, a1396, a1397, a1398, a1399, a1400, a1401⟩ | ⟨a1402, a1403, a1404, a1405, a1406⟩
            · have f1407 := f1375.tr f1389 rfl
              show wp _ _ 25 81 [(2, .ref r1308), (0, .ref r0), (1, .ref r1)] [vI z1390] _ H1384 _
              have u1408 := TC_k a1401
              refine wp_of e25 c25_81 (rw_if_ne (p1 := 86) (p2 := 84) (by decide) rfl ⟨Int.le_trans (by decide) b1391.1, Int.le_trans b1391.2 (by decide)⟩ (fun c1409 => ?_) (fun c1409 => ?_))
              · refine wp_of e25 c25_86 (rw_aload_n (pc' := 87) (v := .ref r1308) rfl rfl rfl ?_)
                refine wp_of e25 c25_87 (rw_aload_n (pc' := 88) (v := .ref r0) rfl rfl rfl ?_)
                refine wp_of e25 c25_88 (xg_I (pc' := 91) lf_1_158 w1388 g0 sh_3 (by decide) (by decide) ty_3_1 rfl rfl (fun b1410 b1411 => ?_))
                refine wp_of e25 c25_91 (xp_I (pc' := 94) lf_1_161 w1388 g1310 sh_35 (by decide) (by decide) ty_35_7 rfl rfl (b1410) (b1411) ⟨Int.le_trans (by decide) b1410, Int.le_trans b1411 (by decide)⟩ rfl (fun H1412 e1413 w1414 => ?_))
                have f1415 := f1407.put' e1413 g1310 rfl
                have k1416 : H1412 r1308 7 = H1384 r0 1 := wq_u_s e1413
                refine wp_of e25 c25_94 (rw_aload_n (pc' := 95) (v := .ref r1308) rfl rfl rfl ?_)
                refine wp_of e25 c25_95 (rw_aload_n (pc' := 96) (v := .ref r0) rfl rfl rfl ?_)
                have k1417 : H1412 r0 2 = H1384 r0 2 := (wq_u_t e1413 g1310 g0 rfl 2)
                refine wp_of e25 c25_96 (xg_I (pc' := 99) lf_1_164 w1414 g0 sh_3 (by decide) (by decide) ty_3_2 rfl rfl (fun b1418 b1419 => ?_))
                refine wp_of e25 c25_99 (xp_I (pc' := 102) lf_1_167 w1414 g1310 sh_35 (by decide) (by decide) ty_35_8 rfl rfl (b1418) (b1419) ⟨Int.le_trans (by decide) b1418, Int.le_trans b1419 (by decide)⟩ rfl (fun H1420 e1421 w1422 => ?_))
                have f1423 := f1415.put' e1421 g1310 rfl
                have k1424 : H1420 r1308 8 = H1412 r0 2 := wq_u_s e1421
                refine wp_of e25 c25_102 (rw_aload_n (pc' := 103) (v := .ref r0) rfl rfl rfl ?_)
                refine wp_of e25 c25_103 (rw_ldcS (pc' := 105) (k := 69) rfl rfl rfl rfl ?_)
                have k1425 : H1420 r0 0 = H1358 r0 0 := ((wq_u_t e1421 g1310 g0 rfl 0).trans ((wq_u_t e1413 g1310 g0 rfl 0).trans (f1389 r0 0 _ g0 rfl)))
                have q1426 : H1420 r0 0 = (tk : Int) := k1425.trans q1379
                have k1427 : H1420 tk 0 = H1358 tk 0 := ((wq_u_t e1421 g1310 gtk rfl 0).trans ((wq_u_t e1413 g1310 gtk rfl 0).trans (f1389 tk 0 _ gtk rfl)))
                have q1428 : H1420 tk 0 = (rb : Int) := k1427.trans q1381
                have k1429 : H1420 r0 3 = H1384 r0 3 := ((wq_u_t e1421 g1310 g0 rfl 3).trans (wq_u_t e1413 g1310 g0 rfl 3))
                have h1430 : TC T H1420 tk B n (xN B n (xN B n (xN B n ((xN B n ((xN B n q))))))) := (TC_fr w1414 gtk ((wfr.rf (l := [(35, 8)])).put' e1421 g1310 rfl) rfl (TC_fr w1388 gtk ((wfr.rf (l := [(35, 7)])).put' e1413 g1310 rfl) rfl a1401))
                refine wp_of e25 c25_105 (xc_V (pc' := 108) (r := r0) (as := [.ref 69]) (st := []) (lm_1_115) rfl rfl (Nat.le_of_ble_eq_true rfl) w1422 g0 sh_3 (by decide) rfl (by decide) (u_23 (B := B) (n := n) (q := ((xN B n (xN B n (xN B n ((xN B n ((xN B n q))))))))) (kk := 409031) w1422 g0 rfl q1426 gtk q1428 grb (by decide +kernel) h1430) (fun R1431 T1432 H1433 p1434 => ?_))
                obtain ⟨e1435, w1437, f1438, z1439, e1436, b1440, p1441⟩ := p1434
                subst e1435
                subst e1436
                rcases p1441 with ⟨a1442, a1443, a1444, a1445⟩ | ⟨a1446, a1447, a1448, a1449⟩
                · have f1450 := f1423.tr f1438 rfl
                  show wp _ _ 25 108 [(2, .ref r1308), (0, .ref r0), (1, .ref r1)] [vI z1439] _ H1433 _
                  have u1451 := TC_k a1445
                  refine wp_of e25 c25_108 (rw_if_eq (p1 := 124) (p2 := 111) (by decide) rfl ⟨Int.le_trans (by decide) b1440.1, Int.le_trans b1440.2 (by decide)⟩ (fun c1452 => ?_) (fun c1452 => ?_))
                  · exfalso
                    omega
                  · refine wp_of e25 c25_111 (rw_aload_n (pc' := 112) (v := .ref r0) rfl rfl rfl ?_)
                    refine wp_of e25 c25_112 (rw_bipush (pc' := 114) (z := 12) rfl (by decide) ?_)
                    refine wp_of e25 c25_114 (rw_iconst (pc' := 115) rfl ?_)
                    refine wp_of e25 c25_115 (rw_iconst (pc' := 116) rfl ?_)
                    refine wp_of e25 c25_116 (rw_bipush (pc' := 118) (z := 12) rfl (by decide) ?_)
                    have k1453 : H1433 r0 0 = H1420 r0 0 := (f1438 r0 0 _ g0 rfl)
                    have q1454 : H1433 r0 0 = (tk : Int) := k1453.trans q1426
                    have k1455 : H1433 tk 0 = H1420 tk 0 := (f1438 tk 0 _ gtk rfl)
                    have q1456 : H1433 tk 0 = (rb : Int) := k1455.trans q1428
                    refine wp_of e25 c25_118 (xc_V (pc' := 121) (r := r0) (as := [vI 12, vI 0, vI 4, vI 12]) (st := []) (lm_1_154) rfl rfl (Nat.le_of_ble_eq_true rfl) w1437 g0 sh_3 (by decide) rfl (by decide) (u_29 (B := B) (n := n) (q := ((xN B n ((xN B n (xN B n (xN B n ((xN B n ((xN B n q))))))))))) w1437 g0 ⟨by decide, by decide⟩ ⟨by decide, by decide⟩ ⟨by decide, by decide⟩ ⟨by decide, by decide⟩ q1454 gtk q1456 grb a1445) (fun R1457 T1458 H1459 p1460 => ?_))
                    obtain ⟨e1461, w1463, f1464, z1465, e1462, b1466, p1467⟩ := p1460
                    subst e1461
                    subst e1462
                    rcases p1467 with ⟨a1468, a1469, a1470, a1471, a1472, a1473, a1474, a1475, a1476⟩ | ⟨a1477, a1478, a1479, a1480, a1481⟩
                    · have f1482 := f1450.tr f1464 rfl
                      show wp _ _ 25 121 [(2, .ref r1308), (0, .ref r0), (1, .ref r1)] [vI z1465] _ H1459 _
                      have u1483 := TC_k a1476
                      refine wp_of e25 c25_121 (rw_if_ne (p1 := 126) (p2 := 124) (by decide) rfl ⟨Int.le_trans (by decide) b1466.1, Int.le_trans b1466.2 (by decide)⟩ (fun c1484 => ?_) (fun c1484 => ?_))
                      · refine wp_of e25 c25_126 (rw_aload_n (pc' := 127) (v := .ref r1308) rfl rfl rfl ?_)
                        refine wp_of e25 c25_127 (rw_aload_n (pc' := 128) (v := .ref r0) rfl rfl rfl ?_)
                        refine wp_of e25 c25_128 (xg_I (pc' := 131) lf_1_158 w1463 g0 sh_3 (by decide) (by decide) ty_3_1 rfl rfl (fun b1485 b1486 => ?_))
                        refine wp_of e25 c25_131 (xp_I (pc' := 134) lf_1_172 w1463 g1310 sh_35 (by decide) (by decide) ty_35_9 rfl rfl (b1485) (b1486) ⟨Int.le_trans (by decide) b1485, Int.le_trans b1486 (by decide)⟩ rfl (fun H1487 e1488 w1489 => ?_))
                        have f1490 := f1482.put' e1488 g1310 rfl
                        have k1491 : H1487 r1308 9 = H1459 r0 1 := wq_u_s e1488
                        refine wp_of e25 c25_134 (rw_aload_n (pc' := 135) (v := .ref r1308) rfl rfl rfl ?_)
                        refine wp_of e25 c25_135 (rw_aload_n (pc' := 136) (v := .ref r0) rfl rfl rfl ?_)
                        have k1492 : H1487 r0 2 = H1459 r0 2 := (wq_u_t e1488 g1310 g0 rfl 2)
                        refine wp_of e25 c25_136 (xg_I (pc' := 139) lf_1_164 w1489 g0 sh_3 (by decide) (by decide) ty_3_2 rfl rfl (fun b1493 b1494 => ?_))
                        refine wp_of e25 c25_139 (xp_I (pc' := 142) lf_1_175 w1489 g1310 sh_35 (by decide) (by decide) ty_35_10 rfl rfl (b1493) (b1494) ⟨Int.le_trans (by decide) b1493, Int.le_trans b1494 (by decide)⟩ rfl (fun H1495 e1496 w1497 => ?_))
                        have f1498 := f1490.put' e1496 g1310 rfl
                        have k1499 : H1495 r1308 10 = H1487 r0 2 := wq_u_s e1496
                        refine wp_of e25 c25_142 (rw_iconst (pc' := 143) rfl ?_)
                        have k1500 : H1495 r0 3 = H1459 r0 3 := ((wq_u_t e1496 g1310 g0 rfl 3).trans (wq_u_t e1488 g1310 g0 rfl 3))
                        have k1501 : H1495 r1 7 = H r1 7 := ((wq_u_t e1496 g1310 g1 rfl 7).trans ((wq_u_t e1488 g1310 g1 rfl 7).trans ((f1464 r1 7 _ g1 rfl).trans ((f1438 r1 7 _ g1 rfl).trans ((wq_u_t e1421 g1310 g1 rfl 7).trans ((wq_u_t e1413 g1310 g1 rfl 7).trans ((f1389 r1 7 _ g1 rfl).trans ((f1363 r1 7 _ g1 rfl).trans ((f1346 r1 7 _ g1 rfl).trans (f1320 r1 7 _ g1 rfl))))))))))
                        have k1502 : H1495 r1 8 = H r1 8 := ((wq_u_t e1496 g1310 g1 rfl 8).trans ((wq_u_t e1488 g1310 g1 rfl 8).trans ((f1464 r1 8 _ g1 rfl).trans ((f1438 r1 8 _ g1 rfl).trans ((wq_u_t e1421 g1310 g1 rfl 8).trans ((wq_u_t e1413 g1310 g1 rfl 8).trans ((f1389 r1 8 _ g1 rfl).trans ((f1363 r1 8 _ g1 rfl).trans ((f1346 r1 8 _ g1 rfl).trans (f1320 r1 8 _ g1 rfl))))))))))
                        have k1503 : H1495 r1 9 = H r1 9 := ((wq_u_t e1496 g1310 g1 rfl 9).trans ((wq_u_t e1488 g1310 g1 rfl 9).trans ((f1464 r1 9 _ g1 rfl).trans ((f1438 r1 9 _ g1 rfl).trans ((wq_u_t e1421 g1310 g1 rfl 9).trans ((wq_u_t e1413 g1310 g1 rfl 9).trans ((f1389 r1 9 _ g1 rfl).trans ((f1363 r1 9 _ g1 rfl).trans ((f1346 r1 9 _ g1 rfl).trans (f1320 r1 9 _ g1 rfl))))))))))
                        have k1504 : H1495 r1 10 = H r1 10 := ((wq_u_t e1496 g1310 g1 rfl 10).trans ((wq_u_t e1488 g1310 g1 rfl 10).trans ((f1464 r1 10 _ g1 rfl).trans ((f1438 r1 10 _ g1 rfl).trans ((wq_u_t e1421 g1310 g1 rfl 10).trans ((wq_u_t e1413 g1310 g1 rfl 10).trans ((f1389 r1 10 _ g1 rfl).trans ((f1363 r1 10 _ g1 rfl).trans ((f1346 r1 10 _ g1 rfl).trans (f1320 r1 10 _ g1 rfl))))))))))
                        have k1505 : H1495 r1 11 = H r1 11 := ((wq_u_t e1496 g1310 g1 rfl 11).trans ((wq_u_t e1488 g1310 g1 rfl 11).trans ((f1464 r1 11 _ g1 rfl).trans ((f1438 r1 11 _ g1 rfl).trans ((wq_u_t e1421 g1310 g1 rfl 11).trans ((wq_u_t e1413 g1310 g1 rfl 11).trans ((f1389 r1 11 _ g1 rfl).trans ((f1363 r1 11 _ g1 rfl).trans ((f1346 r1 11 _ g1 rfl).trans (f1320 r1 11 _ g1 rfl))))))))))
                        have k1506 : H1495 r1 12 = H r1 12 := ((wq_u_t e1496 g1310 g1 rfl 12).trans ((wq_u_t e1488 g1310 g1 rfl 12).trans ((f1464 r1 12 _ g1 rfl).trans ((f1438 r1 12 _ g1 rfl).trans ((wq_u_t e1421 g1310 g1 rfl 12).trans ((wq_u_t e1413 g1310 g1 rfl 12).trans ((f1389 r1 12 _ g1 rfl).trans ((f1363 r1 12 _ g1 rfl).trans ((f1346 r1 12 _ g1 rfl).trans (f1320 r1 12 _ g1 rfl))))))))))
                        have k1507 : H1495 r1 13 = H r1 13 := ((wq_u_t e1496 g1310 g1 rfl 13).trans ((wq_u_t e1488 g1310 g1 rfl 13).trans ((f1464 r1 13 _ g1 rfl).trans ((f1438 r1 13 _ g1 rfl).trans ((wq_u_t e1421 g1310 g1 rfl 13).trans ((wq_u_t e1413 g1310 g1 rfl 13).trans ((f1389 r1 13 _ g1 rfl).trans ((f1363 r1 13 _ g1 rfl).trans ((f1346 r1 13 _ g1 rfl).trans (f1320 r1 13 _ g1 rfl))))))))))
                        have k1508 : H1495 r1 14 = H r1 14 := ((wq_u_t e1496 g1310 g1 rfl 14).trans ((wq_u_t e1488 g1310 g1 rfl 14).trans ((f1464 r1 14 _ g1 rfl).trans ((f1438 r1 14 _ g1 rfl).trans ((wq_u_t e1421 g1310 g1 rfl 14).trans ((wq_u_t e1413 g1310 g1 rfl 14).trans ((f1389 r1 14 _ g1 rfl).trans ((f1363 r1 14 _ g1 rfl).trans ((f1346 r1 14 _ g1 rfl).trans (f1320 r1 14 _ g1 rfl))))))))))
                        have k1509 : H1495 r1 15 = H r1 15 := ((wq_u_t e1496 g1310 g1 rfl 15).trans ((wq_u_t e1488 g1310 g1 rfl 15).trans ((f1464 r1 15 _ g1 rfl).trans ((f1438 r1 15 _ g1 rfl).trans ((wq_u_t e1421 g1310 g1 rfl 15).trans ((wq_u_t e1413 g1310 g1 rfl 15).trans ((f1389 r1 15 _ g1 rfl).trans ((f1363 r1 15 _ g1 rfl).trans ((f1346 r1 15 _ g1 rfl).trans (f1320 r1 15 _ g1 rfl))))))))))
                        have k1510 : H1495 r1 16 = H r1 16 := ((wq_u_t e1496 g1310 g1 rfl 16).trans ((wq_u_t e1488 g1310 g1 rfl 16).trans ((f1464 r1 16 _ g1 rfl).trans ((f1438 r1 16 _ g1 rfl).trans ((wq_u_t e1421 g1310 g1 rfl 16).trans ((wq_u_t e1413 g1310 g1 rfl 16).trans ((f1389 r1 16 _ g1 rfl).trans ((f1363 r1 16 _ g1 rfl).trans ((f1346 r1 16 _ g1 rfl).trans (f1320 r1 16 _ g1 rfl))))))))))
                        have k1511 : H1495 r1308 6 = H1315 r1308 6 := ((wq_u_j e1496 rfl).trans ((wq_u_j e1488 rfl).trans ((f1464 r1308 6 _ g1310 rfl).trans ((f1438 r1308 6 _ g1310 rfl).trans ((wq_u_j e1421 rfl).trans ((wq_u_j e1413 rfl).trans ((f1389 r1308 6 _ g1310 rfl).trans ((f1363 r1308 6 _ g1310 rfl).trans (f1346 r1308 6 _ g1310 rfl)))))))))
                        have k1512 : H1495 r1308 7 = H1412 r1308 7 := ((wq_u_j e1496 rfl).trans ((wq_u_j e1488 rfl).trans ((f1464 r1308 7 _ g1310 rfl).trans ((f1438 r1308 7 _ g1310 rfl).trans (wq_u_j e1421 rfl)))))
                        have k1513 : H1495 r1308 8 = H1420 r1308 8 := ((wq_u_j e1496 rfl).trans ((wq_u_j e1488 rfl).trans ((f1464 r1308 8 _ g1310 rfl).trans (f1438 r1308 8 _ g1310 rfl))))
                        have k1514 : H1495 r1308 9 = H1487 r1308 9 := (wq_u_j e1496 rfl)
                        have k1515 : H1495 r1308 11 = H1315 r1308 11 := ((wq_u_j e1496 rfl).trans ((wq_u_j e1488 rfl).trans ((f1464 r1308 11 _ g1310 rfl).trans ((f1438 r1308 11 _ g1310 rfl).trans ((wq_u_j e1421 rfl).trans ((wq_u_j e1413 rfl).trans ((f1389 r1308 11 _ g1310 rfl).trans ((f1363 r1308 11 _ g1310 rfl).trans (f1346 r1308 11 _ g1310 rfl)))))))))
                        have k1516 : H1495 r1308 12 = H1315 r1308 12 := ((wq_u_j e1496 rfl).trans ((wq_u_j e1488 rfl).trans ((f1464 r1308 12 _ g1310 rfl).trans ((f1438 r1308 12 _ g1310 rfl).trans ((wq_u_j e1421 rfl).trans ((wq_u_j e1413 rfl).trans ((f1389 r1308 12 _ g1310 rfl).trans ((f1363 r1308 12 _ g1310 rfl).trans (f1346 r1308 12 _ g1310 rfl)))))))))
                        have k1517 : H1495 r1308 13 = H1315 r1308 13 := ((wq_u_j e1496 rfl).trans ((wq_u_j e1488 rfl).trans ((f1464 r1308 13 _ g1310 rfl).trans ((f1438 r1308 13 _ g1310 rfl).trans ((wq_u_j e1421 rfl).trans ((wq_u_j e1413 rfl).trans ((f1389 r1308 13 _ g1310 rfl).trans ((f1363 r1308 13 _ g1310 rfl).trans (f1346 r1308 13 _ g1310 rfl)))))))))
                        have k1518 : H1495 r1308 14 = H1315 r1308 14 := ((wq_u_j e1496 rfl).trans ((wq_u_j e1488 rfl).trans ((f1464 r1308 14 _ g1310 rfl).trans ((f1438 r1308 14 _ g1310 rfl).trans ((wq_u_j e1421 rfl).trans ((wq_u_j e1413 rfl).trans ((f1389 r1308 14 _ g1310 rfl).trans ((f1363 r1308 14 _ g1310 rfl).trans (f1346 r1308 14 _ g1310 rfl)))))))))
                        have k1519 : H1495 r1308 15 = H1315 r1308 15 := ((wq_u_j e1496 rfl).trans ((wq_u_j e1488 rfl).trans ((f1464 r1308 15 _ g1310 rfl).trans ((f1438 r1308 15 _ g1310 rfl).trans ((wq_u_j e1421 rfl).trans ((wq_u_j e1413 rfl).trans ((f1389 r1308 15 _ g1310 rfl).trans ((f1363 r1308 15 _ g1310 rfl).trans (f1346 r1308 15 _ g1310 rfl)))))))))
                        have k1520 : H1495 r1308 16 = H1315 r1308 16 := ((wq_u_j e1496 rfl).trans ((wq_u_j e1488 rfl).trans ((f1464 r1308 16 _ g1310 rfl).trans ((f1438 r1308 16 _ g1310 rfl).trans ((wq_u_j e1421 rfl).trans ((wq_u_j e1413 rfl).trans ((f1389 r1308 16 _ g1310 rfl).trans ((f1363 r1308 16 _ g1310 rfl).trans (f1346 r1308 16 _ g1310 rfl)))))))))
                        have o1521 : (xbd B n q d) = (0, q, (xN B n (xN B n (xN B n ((xN B n ((xN B n (xN B n (xN B n ((xN B n ((xN B n q)))))))))))))) := by
                          unfold xbd
                          repeat first | rw [xs_0 (Int.le_antisymm (by omega -splitDisjunctions) (by omega -splitDisjunctions))] | rw [xs_1 (by omega -splitDisjunctions)] | rw [if_pos (Int.le_antisymm (by omega -splitDisjunctions) (by omega -splitDisjunctions))] | rw [if_pos (by omega -splitDisjunctions)] | rw [if_pos (And.intro (by omega -splitDisjunctions) (by omega -splitDisjunctions))] | rw [if_neg (by omega -splitDisjunctions)] | rw [xs_1 (by omega)] | rw [if_neg (by omega)] | rw [xs_0 (by omega)] | rw [if_pos (by omega)]
                          first | done | rfl | assumption | (exfalso; omega -splitDisjunctions) | (refine Prod.ext ?_ (Prod.ext ?_ ?_) <;> (try dsimp only) <;> omega) | (exfalso; omega)
                        have o1521a : ((xbd B n q d)).1 = 0 := by rw [o1521]
                        have o1521b : ((xbd B n q d)).2.1 = q := by rw [o1521]
                        have o1521c : ((xbd B n q d)).2.2 = (xN B n (xN B n (xN B n ((xN B n ((xN B n (xN B n (xN B n ((xN B n ((xN B n q))))))))))))) := by rw [o1521]
                        have h1522 : TC T H1495 tk B n (xN B n (xN B n (xN B n ((xN B n ((xN B n (xN B n (xN B n ((xN B n ((xN B n q))))))))))))) := (TC_fr w1489 gtk ((wfr.rf (l := [(35, 10)])).put' e1496 g1310 rfl) rfl (TC_fr w1463 gtk ((wfr.rf (l := [(35, 9)])).put' e1488 g1310 rfl) rfl a1476))
                        have k1523 : H1495 r1 0 = H r1 0 := ((wq_u_t e1496 g1310 g1 rfl 0).trans ((wq_u_t e1488 g1310 g1 rfl 0).trans ((f1464 r1 0 _ g1 rfl).trans ((f1438 r1 0 _ g1 rfl).trans ((wq_u_t e1421 g1310 g1 rfl 0).trans ((wq_u_t e1413 g1310 g1 rfl 0).trans ((f1389 r1 0 _ g1 rfl).trans ((f1363 r1 0 _ g1 rfl).trans ((f1346 r1 0 _ g1 rfl).trans (f1320 r1 0 _ g1 rfl))))))))))
                        have q1524 : H1495 r1 0 = (r1303 : Int) := k1523.trans q1304
                        have k1525 : H1495 r1303 ((H r1 10).toNat) = H r1303 ((H r1 10).toNat) := ((wq_u_t e1496 g1310 g1305 rfl ((H r1 10).toNat)).trans ((wq_u_t e1488 g1310 g1305 rfl ((H r1 10).toNat)).trans ((f1464 r1303 ((H r1 10).toNat) _ g1305 rfl).trans ((f1438 r1303 ((H r1 10).toNat) _ g1305 rfl).trans ((wq_u_t e1421 g1310 g1305 rfl ((H r1 10).toNat)).trans ((wq_u_t e1413 g1310 g1305 rfl ((H r1 10).toNat)).trans ((f1389 r1303 ((H r1 10).toNat) _ g1305 rfl).trans ((f1363 r1303 ((H r1 10).toNat) _ g1305 rfl).trans ((f1346 r1303 ((H r1 10).toNat) _ g1305 rfl).trans (f1320 r1303 ((H r1 10).toNat) _ g1305 rfl))))))))))
                        have q1526 : H1495 r1303 ((H r1 10).toNat) = (r1308 : Int) := k1525.trans q1309
                        have h1527 : ST T H1495 r1 (d 13) := (ST_fr w1489 g1 ((wfr.rf (l := [(35, 10)])).put' e1496 g1310 rfl) rfl (ST_fr w1463 g1 ((wfr.rf (l := [(35, 9)])).put' e1488 g1310 rfl) rfl (ST_fr w1437 g1 f1464 rfl (ST_fr w1422 g1 f1438 rfl (ST_fr w1414 g1 ((wfr.rf (l := [(35, 8)])).put' e1421 g1310 rfl) rfl (ST_fr w1388 g1 ((wfr.rf (l := [(35, 7)])).put' e1413 g1310 rfl) rfl (ST_fr w1362 g1 f1389 rfl (ST_fr w1345 g1 f1363 rfl (ST_fr w1319 g1 f1346 rfl (ST_fr hW g1 f1320 rfl h1267))))))))))
                        have h1528 : SV T H1495 r1 (d 13) 24 := (SV_fr w1489 g1 ((wfr.rf (l := [(35, 10)])).put' e1496 g1310 rfl) rfl (SV_fr w1463 g1 ((wfr.rf (l := [(35, 9)])).put' e1488 g1310 rfl) rfl (SV_fr w1437 g1 f1464 rfl (SV_fr w1422 g1 f1438 rfl (SV_fr w1414 g1 ((wfr.rf (l := [(35, 8)])).put' e1421 g1310 rfl) rfl (SV_fr w1388 g1 ((wfr.rf (l := [(35, 7)])).put' e1413 g1310 rfl) rfl (SV_fr w1362 g1 f1389 rfl (SV_fr w1345 g1 f1363 rfl (SV_fr w1319 g1 f1346 rfl (SV_fr hW g1 f1320 rfl h1268))))))))))
                        have h1529 : DA3 T H1495 r1 (d 0 5) (d 12) := (DA3_fr w1489 g1 ((wfr.rf (l := [(35, 10)])).put' e1496 g1310 rfl) rfl (DA3_fr w1463 g1 ((wfr.rf (l := [(35, 9)])).put' e1488 g1310 rfl) rfl (DA3_fr w1437 g1 f1464 rfl (DA3_fr w1422 g1 f1438 rfl (DA3_fr w1414 g1 ((wfr.rf (l := [(35, 8)])).put' e1421 g1310 rfl) rfl (DA3_fr w1388 g1 ((wfr.rf (l := [(35, 7)])).put' e1413 g1310 rfl) rfl (DA3_fr w1362 g1 f1389 rfl (DA3_fr w1345 g1 f1363 rfl (DA3_fr w1319 g1 f1346 rfl (DA3_fr hW g1 f1320 rfl h1269))))))))))
                        have h1530 : DA4 T H1495 r1 (d 0 6) (d 14) := (DA4_fr w1489 g1 ((wfr.rf (l := [(35, 10)])).put' e1496 g1310 rfl) rfl (DA4_fr w1463 g1 ((wfr.rf (l := [(35, 9)])).put' e1488 g1310 rfl) rfl (DA4_fr w1437 g1 f1464 rfl (DA4_fr w1422 g1 f1438 rfl (DA4_fr w1414 g1 ((wfr.rf (l := [(35, 8)])).put' e1421 g1310 rfl) rfl (DA4_fr w1388 g1 ((wfr.rf (l := [(35, 7)])).put' e1413 g1310 rfl) rfl (DA4_fr w1362 g1 f1389 rfl (DA4_fr w1345 g1 f1363 rfl (DA4_fr w1319 g1 f1346 rfl (DA4_fr hW g1 f1320 rfl h1270))))))))))
                        have h1531 : DA5 T H1495 r1 (d 0 6) (d 15) := (DA5_fr w1489 g1 ((wfr.rf (l := [(35, 10)])).put' e1496 g1310 rfl) rfl (DA5_fr w1463 g1 ((wfr.rf (l := [(35, 9)])).put' e1488 g1310 rfl) rfl (DA5_fr w1437 g1 f1464 rfl (DA5_fr w1422 g1 f1438 rfl (DA5_fr w1414 g1 ((wfr.rf (l := [(35, 8)])).put' e1421 g1310 rfl) rfl (DA5_fr w1388 g1 ((wfr.rf (l := [(35, 7)])).put' e1413 g1310 rfl) rfl (DA5_fr w1362 g1 f1389 rfl (DA5_fr w1345 g1 f1363 rfl (DA5_fr w1319 g1 f1346 rfl (DA5_fr hW g1 f1320 rfl h1271))))))))))
                        have h1532 : DA6 T H1495 r1 (d 0 7) (d 16) := (DA6_fr w1489 g1 ((wfr.rf (l := [(35, 10)])).put' e1496 g1310 rfl) rfl (DA6_fr w1463 g1 ((wfr.rf (l := [(35, 9)])).put' e1488 g1310 rfl) rfl (DA6_fr w1437 g1 f1464 rfl (DA6_fr w1422 g1 f1438 rfl (DA6_fr w1414 g1 ((wfr.rf (l := [(35, 8)])).put' e1421 g1310 rfl) rfl (DA6_fr w1388 g1 ((wfr.rf (l := [(35, 7)])).put' e1413 g1310 rfl) rfl (DA6_fr w1362 g1 f1389 rfl (DA6_fr w1345 g1 f1363 rfl (DA6_fr w1319 g1 f1346 rfl (DA6_fr hW g1 f1320 rfl h1272))))))))))
                        exact wp_zreturn e25 c25_143 rfl (by omega) ⟨rfl, w1497, f1498, 1, rfl, ⟨by decide, by decide⟩, (Or.inl ⟨by omega, by omega, by omega, by omega, by omega, h1522, DC_mk ⟨by omega, by omega, by omega, by omega, by omega, by omega, by omega, by omega, by omega, by omega, by omega, by omega, by omega, by omega, by omega, by omega⟩ (DQ_oth hW g1 f1498 rfl hDD_r1 q1524 q1526 (by omega) (by omega) (fun a ha ga => ((wq_u_nf e1496 ha).trans ((wq_u_nf e1488 ha).trans ((f1464.fn ga rfl).trans ((f1438.fn ga rfl).trans ((wq_u_nf e1421 ha).trans ((wq_u_nf e1413 ha).trans ((f1389.fn ga rfl).trans ((f1363.fn ga rfl).trans ((f1346.fn ga rfl).trans (a1329 a ha ga))))))))))) hDC_r1.2.1) h1527 h1528 h1529 h1530 h1531 h1532 ⟨rfl, rfl, rfl, rfl, rfl⟩ ⟨rfl, rfl, rfl⟩, ⟨r1308, by rw [q1524, Int.toNat_natCast, show (d 0 3).toNat = (H r1 10).toNat by omega]; exact q1526, g1310, by omega, by omega, by omega, by omega, by omega, by omega, by omega, by omega, by omega⟩, CZ_add (k := (H r1 10).toNat) hW g1 f1498 rfl hDD_r1 q1304 q1309 g1310 (by omega) (by omega) (fun a ha ga => ((wq_u_nf e1496 ha).trans ((wq_u_nf e1488 ha).trans ((f1464.fn ga rfl).trans ((f1438.fn ga rfl).trans ((wq_u_nf e1421 ha).trans ((wq_u_nf e1413 ha).trans ((f1389.fn ga rfl).trans ((f1363.fn ga rfl).trans ((f1346.fn ga rfl).trans (a1329 a ha ga))))))))))) (by omega) (by omega) hCZ_r1⟩)⟩
                      · exfalso
                        omega
                    · have f1533 := f1450.tr f1464 rfl
                      show wp _ _ 25 121 [(2, .ref r1308), (0, .ref r0), (1, .ref r1)] [vI z1465] _ H1459 _
                      refine wp_of e25 c25_121 (rw_if_ne (p1 := 126) (p2 := 124) (by decide) rfl ⟨Int.le_trans (by decide) b1466.1, Int.le_trans b1466.2 (by decide)⟩ (fun c1534 => ?_) (fun c1534 => ?_))
                      · exfalso
                        omega
                      · refine wp_of e25 c25_124 (rw_iconst (pc' := 125) rfl ?_)
                        have o1535 : (xbd B n q d) = ((xrg B n ((xN B n ((xN B n (xN B n (xN B n ((xN B n ((xN B n q)))))))))) 12 0 4 12).1, (xrg B n ((xN B n ((xN B n (xN B n (xN B n ((xN B n ((xN B n q)))))))))) 12 0 4 12).2.1, (xrg B n ((xN B n ((xN B n (xN B n (xN B n ((xN B n ((xN B n q)))))))))) 12 0 4 12).2.2) := by
                          unfold xbd
                          repeat first | rw [xs_0 (Int.le_antisymm (by omega -splitDisjunctions) (by omega -splitDisjunctions))] | rw [xs_1 (by omega -splitDisjunctions)] | rw [if_pos (Int.le_antisymm (by omega -splitDisjunctions) (by omega -splitDisjunctions))] | rw [if_pos (by omega -splitDisjunctions)] | rw [if_pos (And.intro (by omega -splitDisjunctions) (by omega -splitDisjunctions))] | rw [if_neg (by omega -splitDisjunctions)] | rw [xs_1 (by omega)] | rw [if_neg (by omega)] | rw [xs_0 (by omega)] | rw [if_pos (by omega)]
                          first | done | rfl | assumption | (exfalso; omega -splitDisjunctions) | (refine Prod.ext ?_ (Prod.ext ?_ ?_) <;> (try dsimp only) <;> omega) | (exfalso; omega)
                        have o1535a : ((xbd B n q d)).1 = (xrg B n ((xN B n ((xN B n (xN B n (xN B n ((xN B n ((xN B n q)))))))))) 12 0 4 12).1 := by rw [o1535]
                        have o1535b : ((xbd B n q d)).2.1 = (xrg B n ((xN B n ((xN B n (xN B n (xN B n ((xN B n ((xN B n q)))))))))) 12 0 4 12).2.1 := by rw [o1535]
                        have o1535c : ((xbd B n q d)).2.2 = (xrg B n ((xN B n ((xN B n (xN B n (xN B n ((xN B n ((xN B n q)))))))))) 12 0 4 12).2.2 := by rw [o1535]
                        exact wp_zreturn e25 c25_125 rfl (by omega) ⟨rfl, w1463, f1533, 0, rfl, ⟨by decide, by decide⟩, (Or.inr ⟨by omega, by omega, by omega, by omega, by omega⟩)⟩
                · have f1536 := f1423.tr f1438 rfl
                  show wp _ _ 25 108 [(2, .ref r1308), (0, .ref r0), (1, .ref r1)] [vI z1439] _ H1433 _
                  refine wp_of e25 c25_108 (rw_if_eq (p1 := 124) (p2 := 111) (by decide) rfl ⟨Int.le_trans (by decide) b1440.1, Int.le_trans b1440.2 (by decide)⟩ (fun c1537 => ?_) (fun c1537 => ?_))
                  · refine wp_of e25 c25_124 (rw_iconst (pc' := 125) rfl ?_)
                    have o1538 : (xbd B n q d) = (xw B n ((xN B n (xN B n (xN B n ((xN B n ((xN B n q)))))))) 409031, ((xN B n (xN B n (xN B n ((xN B n ((xN B n q)))))))), ((xN B n (xN B n (xN B n ((xN B n ((xN B n q))))))))) := by
                      unfold xbd
                      repeat first | rw [xs_0 (Int.le_antisymm (by omega -splitDisjunctions) (by omega -splitDisjunctions))] | rw [xs_1 (by omega -splitDisjunctions)] | rw [if_pos (Int.le_antisymm (by omega -splitDisjunctions) (by omega -splitDisjunctions))] | rw [if_pos (by omega -splitDisjunctions)] | rw [if_pos (And.intro (by omega -splitDisjunctions) (by omega -splitDisjunctions))] | rw [if_neg (by omega -splitDisjunctions)] | rw [xs_1 (by omega)] | rw [if_neg (by omega)] | rw [xs_0 (by omega)] | rw [if_pos (by omega)]
                      first | done | rfl | assumption | (exfalso; omega -splitDisjunctions) | (refine Prod.ext ?_ (Prod.ext ?_ ?_) <;> (try dsimp only) <;> omega) | (exfalso; omega)
                    have o1538a : ((xbd B n q d)).1 = xw B n ((xN B n (xN B n (xN B n ((xN B n ((xN B n q)))))))) 409031 := by rw [o1538]
                    have o1538b : ((xbd B n q d)).2.1 = ((xN B n (xN B n (xN B n ((xN B n ((xN B n q)))))))) := by rw [o1538]
                    have o1538c : ((xbd B n q d)).2.2 = ((xN B n (xN B n (xN B n ((xN B n ((xN B n q)))))))) := by rw [o1538]
                    exact wp_zreturn e25 c25_125 rfl (by omega) ⟨rfl, w1437, f1536, 0, rfl, ⟨by decide, by decide⟩, (Or.inr ⟨by omega, by omega, by omega, by omega, by omega⟩)⟩
                  · exfalso
                    omega
              · exfalso
                omega
            · have f1539 := f1375.tr f1389 rfl
              show wp _ _ 25 81 [(2, .ref r1308), (0, .ref r0), (1, .ref r1)] [vI z1390] _ H1384 _
              refine wp_of e25 c25_81 (rw_if_ne (p1 := 86) (p2 := 84) (by decide) rfl ⟨Int.le_trans (by decide) b1391.1, Int.le_trans b1391.2 (by decide)⟩ (fun c1540 => ?_) (fun c1540 => ?_))
              · exfalso
                omega
              · refine wp_of e25 c25_84 (rw_iconst (pc' := 85) rfl ?_)
                have o1541 : (xbd B n q d) = ((xrg B n ((xN B n ((xN B n q)))) 23 0 7 23).1, (xrg B n ((xN B n ((xN B n q)))) 23 0 7 23).2.1, (xrg B n ((xN B n ((xN B n q)))) 23 0 7 23).2.2) := by
                  unfold xbd
                  repeat first | rw [xs_0 (Int.le_antisymm (by omega -splitDisjunctions) (by omega -splitDisjunctions))] | rw [xs_1 (by omega -splitDisjunctions)] | rw [if_pos (Int.le_antisymm (by omega -splitDisjunctions) (by omega -splitDisjunctions))] | rw [if_pos (by omega -splitDisjunctions)] | rw [if_pos (And.intro (by omega -splitDisjunctions) (by omega -splitDisjunctions))] | rw [if_neg (by omega -splitDisjunctions)] | rw [xs_1 (by omega)] | rw [if_neg (by omega)] | rw [xs_0 (by omega)] | rw [if_pos (by omega)]
                  first | done | rfl | assumption | (exfalso; omega -splitDisjunctions) | (refine Prod.ext ?_ (Prod.ext ?_ ?_) <;> (try dsimp only) <;> omega) | (exfalso; omega)
                have o1541a : ((xbd B n q d)).1 = (xrg B n ((xN B n ((xN B n q)))) 23 0 7 23).1 := by rw [o1541]
                have o1541b : ((xbd B n q d)).2.1 = (xrg B n ((xN B n ((xN B n q)))) 23 0 7 23).2.1 := by rw [o1541]
                have o1541c : ((xbd B n q d)).2.2 = (xrg B n ((xN B n ((xN B n q)))) 23 0 7 23).2.2 := by rw [o1541]
                exact wp_zreturn e25 c25_85 rfl (by omega) ⟨rfl, w1388, f1539, 0, rfl, ⟨by decide, by decide⟩, (Or.inr ⟨by omega, by omega, by omega, by omega, by omega⟩)⟩
        · have f1542 := f1349.tr f1363 rfl
          show wp _ _ 25 67 [(2, .ref r1308), (0, .ref r0), (1, .ref r1)] [vI z1364] _ H1358 _
          refine wp_of e25 c25_67 (rw_if_eq (p1 := 84) (p2 := 70) (by decide) rfl ⟨Int.le_trans (by decide) b1365.1, Int.le_trans b1365.2 (by decide)⟩ (fun c1543 => ?_) (fun c1543 => ?_))
          · refine wp_of e25 c25_84 (rw_iconst (pc' := 85) rfl ?_)
            have o1544 : (xbd B n q d) = (xw B n ((xN B n q)) 2212, ((xN B n q)), ((xN B n q))) := by
              unfold xbd
              repeat first | rw [xs_0 (Int.le_antisymm (by omega -splitDisjunctions) (by omega -splitDisjunctions))] | rw [xs_1 (by omega -splitDisjunctions)] | rw [if_pos (Int.le_antisymm (by omega -splitDisjunctions) (by omega -splitDisjunctions))] | rw [if_pos (by omega -splitDisjunctions)] | rw [if_pos (And.intro (by omega -splitDisjunctions) (by omega -splitDisjunctions))] | rw [if_neg (by omega -splitDisjunctions)] | rw [xs_1 (by omega)] | rw [if_neg (by omega)] | rw [xs_0 (by omega)] | rw [if_pos (by omega)]
              first | done | rfl | assumption | (exfalso; omega -splitDisjunctions) | (refine Prod.ext ?_ (Prod.ext ?_ ?_) <;> (try dsimp only) <;> omega) | (exfalso; omega)
            have o1544a : ((xbd B n q d)).1 = xw B n ((xN B n q)) 2212 := by rw [o1544]
            have o1544b : ((xbd B n q d)).2.1 = ((xN B n q)) := by rw [o1544]
            have o1544c : ((xbd B n q d)).2.2 = ((xN B n q)) := by rw [o1544]
            exact wp_zreturn e25 c25_85 rfl (by omega) ⟨rfl, w1362, f1542, 0, rfl, ⟨by decide, by decide⟩, (Or.inr ⟨by omega, by omega, by omega, by omega, by omega⟩)⟩
          · exfalso
            omega
      · refine wp_of e25 c25_27 (rw_aload_n (pc' := 28) (v := .ref r0) rfl rfl rfl ?_)
        refine wp_of e25 c25_28 (rw_iconst (pc' := 29) rfl ?_)
        refine wp_of e25 c25_29 (xc_V (pc' := 32) (r := r0) (as := [vI 3]) (st := []) (lm_1_47) rfl rfl (Nat.le_of_ble_eq_true rfl) hW g0 sh_3 (by decide) rfl (by decide) (u_20  hW g0 ⟨by decide, by decide⟩ qtk gtk) (fun R1545 T1546 H1547 p1548 => ?_))
        obtain ⟨e1549, w1551, f1552, z1553, e1550, b1554, p1555⟩ := p1548
        subst e1549
        subst e1550
        obtain ⟨a1556, a1557, a1558⟩ := p1555
        have f1559 := f0.tr f1552 rfl
        show wp _ _ 25 32 [(0, .ref r0), (1, .ref r1)] [vI z1553] _ H1547 _
        have o1560 : (xbd B n q d) = (xnm B n q d, q, q) := by
          unfold xbd
          repeat first | rw [xs_0 (Int.le_antisymm (by omega -splitDisjunctions) (by omega -splitDisjunctions))] | rw [xs_1 (by omega -splitDisjunctions)] | rw [if_pos (Int.le_antisymm (by omega -splitDisjunctions) (by omega -splitDisjunctions))] | rw [if_pos (by omega -splitDisjunctions)] | rw [if_pos (And.intro (by omega -splitDisjunctions) (by omega -splitDisjunctions))] | rw [if_neg (by omega -splitDisjunctions)] | rw [xs_1 (by omega)] | rw [if_neg (by omega)] | rw [xs_0 (by omega)] | rw [if_pos (by omega)]
          first | done | rfl | assumption | (exfalso; omega -splitDisjunctions) | (refine Prod.ext ?_ (Prod.ext ?_ ?_) <;> (try dsimp only) <;> omega) | (exfalso; omega)
        have o1560a : ((xbd B n q d)).1 = xnm B n q d := by rw [o1560]
        have o1560b : ((xbd B n q d)).2.1 = q := by rw [o1560]
        have o1560c : ((xbd B n q d)).2.2 = q := by rw [o1560]
        exact wp_zreturn e25 c25_32 rfl (by omega) ⟨rfl, w1551, f1559, z1553, rfl, ⟨b1554.1, b1554.2⟩, (Or.inr ⟨by omega, by omega, by omega, by omega, by omega⟩)⟩
    · exfalso
      omega
  · show wp _ _ 25 4 [(0, .ref r0), (1, .ref r1)] [vI z1280] _ H _
    refine wp_of e25 c25_4 (rw_if_ne (p1 := 13) (p2 := 7) (by decide) rfl ⟨Int.le_trans (by decide) b1281.1, Int.le_trans b1281.2 (by decide)⟩ (fun c1561 => ?_) (fun c1561 => ?_))
    · exfalso
      omega
    · refine wp_of e25 c25_7 (rw_aload_n (pc' := 8) (v := .ref r0) rfl rfl rfl ?_)
      refine wp_of e25 c25_8 (rw_iconst (pc' := 9) rfl ?_)
      refine wp_of e25 c25_9 (xc_V (pc' := 12) (r := r0) (as := [vI 1]) (st := []) (lm_1_47) rfl rfl (Nat.le_of_ble_eq_true rfl) hW g0 sh_3 (by decide) rfl (by decide) (u_20  hW g0 ⟨by decide, by decide⟩ qtk gtk) (fun R1562 T1563 H1564 p1565 => ?_))
      obtain ⟨e1566, w1568, f1569, z1570, e1567, b1571, p1572⟩ := p1565
      subst e1566
      subst e1567
      obtain ⟨a1573, a1574, a1575⟩ := p1572
      have f1576 := f0.tr f1569 rfl
      show wp _ _ 25 12 [(0, .ref r0), (1, .ref r1)] [vI z1570] _ H1564 _
      have o1577 : (xbd B n q d) = (xnm B n q d, q, q) := by
        unfold xbd
        repeat first | rw [xs_0 (Int.le_antisymm (by omega -splitDisjunctions) (by omega -splitDisjunctions))] | rw [xs_1 (by omega -splitDisjunctions)] | rw [if_pos (Int.le_antisymm (by omega -splitDisjunctions) (by omega -splitDisjunctions))] | rw [if_pos (by omega -splitDisjunctions)] | rw [if_pos (And.intro (by omega -splitDisjunctions) (by omega -splitDisjunctions))] | rw [if_neg (by omega -splitDisjunctions)] | rw [xs_1 (by omega)] | rw [if_neg (by omega)] | rw [xs_0 (by omega)] | rw [if_pos (by omega)]
        first | done | rfl | assumption | (exfalso; omega -splitDisjunctions) | (refine Prod.ext ?_ (Prod.ext ?_ ?_) <;> (try dsimp only) <;> omega) | (exfalso; omega)
      have o1577a : ((xbd B n q d)).1 = xnm B n q d := by rw [o1577]
      have o1577b : ((xbd B n q d)).2.1 = q := by rw [o1577]
      have o1577c : ((xbd B n q d)).2.2 = q := by rw [o1577]
      exact wp_zreturn e25 c25_12 rfl (by omega) ⟨rfl, w1568, f1576, z1570, rfl, ⟨b1571.1, b1571.2⟩, (Or.inr ⟨by omega, by omega, by omega, by omega, by omega⟩)⟩
