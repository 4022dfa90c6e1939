/-! what methods do (own work, written by wip/gen3/sx3.py) -/
/-! StrikeAwake.world(II)I  -/
abbrev uq_93 (r0 : Nat) (a1 : Int) (a2 : Int) (cu : Nat) (wa : Nat) (ce : Nat) (e : xD) (d : xD) (n : Int) (T : wq_T) (H : wq_H) : Option Value → wq_T → wq_H → Prop := fun r T' H' => T = T' ∧ WT T H' ∧ wfr [(12, 5), (12, 6), (12, 7), (12, 8), (12, 9), (1, 10), (6, 5), (8, 999), (10, 999), (15, 999), (9, 999), (18, 999), (19, 999), (7, 999), (11, 999), (17, 999), (13, 999)] T H H' ∧ ∃ z : Int, some (vI z) = r ∧ ((-2147483648) ≤ z ∧ z ≤ 2147483647) ∧ ((CEN T H' ce e d))
set_option maxHeartbeats 4000000 in
theorem u_93 {kt : Nat → Option mc_E} {T : wq_T} {H : wq_H} {r0 : Nat} {a1 : Int} {a2 : Int} {cu : Nat} {wa : Nat} {ce : Nat} {e : xD} {d : xD} {n : Int} (hW : WT T H) (g0 : T.2.2.2 r0 = some 1) (i1 : (-2147483648) ≤ a1 ∧ a1 ≤ 2147483647) (i2 : (-2147483648) ≤ a2 ∧ a2 ≤ 2147483647) (qcu : H r0 6 = (cu : Int)) (gcu : T.2.2.2 cu = some 27) (qwa : H r0 2 = (wa : Int)) (gwa : T.2.2.2 wa = some 6) (qce : H r0 3 = (ce : Int)) (gce : T.2.2.2 ce = some 12) (p0 : ∀ i, i ≠ 13 → e i = d i) (p1 : XW d) (p2 : e 0 3 = d 0 3) (p3 : e 0 0 = d 0 0) (p4 : H r0 8 = 0 ∨ n = xlots d) (p5 : H r0 8 ≠ 0 ∨ (d 0 3 = 0 ∧ d 0 0 = 0)) (hCU_cu : CU T H cu e d n) (hCEN_ce : CEN T H ce e d) (hHDR_ce : HDR T H ce ) : wpc kt 6 93 [.ref r0, vI a1, vI a2] T H (uq_93 r0 a1 a2 cu wa ce e d n T H) := by
  refine wp_enter e93 (Nat.le_of_ble_eq_true rfl) rfl ?_
  have f0 : wfr [(12, 5), (12, 6), (12, 7), (12, 8), (12, 9), (1, 10), (6, 5), (8, 999), (10, 999), (15, 999), (9, 999), (18, 999), (19, 999), (7, 999), (11, 999), (17, 999), (13, 999)] T H H := wfr.rf
  show wp _ _ 93 0 [(0, .ref r0), (1, vI a1), (2, vI a2)] [] _ H _
  have u1264 := CU_k hCU_cu
  have b1265 : 0 ≤ H r0 8 ∧ H r0 8 ≤ 1 := hW.box g0 (n := 13) rfl (by decide) rfl
  have _c7 : d 0 0 ≤ 24 := p1.2.1.2.1
  refine wp_of e93 c93_0 (rw_aload_n (pc' := 1) (v := .ref r0) rfl rfl rfl ?_)
  refine wp_of e93 c93_1 (rw_aload_n (pc' := 2) (v := .ref r0) rfl rfl rfl ?_)
  refine wp_of e93 c93_2 (rw_iload_n (pc' := 3) (z := a2) rfl rfl ?_)
  refine wp_of e93 c93_3 (xc_V (pc' := 6) (r := r0) (as := [vI a2]) (st := [.ref r0]) (lm_0_105) rfl rfl (Nat.le_of_ble_eq_true rfl) hW g0 sh_1 (by decide) rfl (by decide) (u_55  hW g0 ⟨i2.1, i2.2⟩ qcu gcu) (fun R1266 T1267 H1268 p1269 => ?_))
  obtain ⟨e1270, e1272, z1273, e1271, b1274, p1275⟩ := p1269
  subst e1270
  subst e1271
  subst e1272
  rcases p1275 with ⟨a1276, a1277⟩ | ⟨a1278, a1279⟩
  · show wp _ _ 93 6 [(0, .ref r0), (1, vI a1), (2, vI a2)] [vI z1273, .ref r0] _ H _
    refine wp_of e93 c93_6 (rw_if_eq (p1 := 17) (p2 := 9) (by decide) rfl ⟨Int.le_trans (by decide) b1274.1, Int.le_trans b1274.2 (by decide)⟩ (fun c1280 => ?_) (fun c1280 => ?_))
    · exfalso
      omega
    · refine wp_of e93 c93_9 (rw_iload_n (pc' := 10) (z := a1) rfl rfl ?_)
      refine wp_of e93 c93_10 (rw_if_lt (p1 := 17) (p2 := 13) (by decide) rfl ⟨i1.1, i1.2⟩ (fun c1281 => ?_) (fun c1281 => ?_))
      · refine wp_of e93 c93_17 (rw_iconst (pc' := 18) rfl ?_)
        refine wp_of e93 c93_18 (xc_V (pc' := 21) (r := r0) (as := [vI 0]) (st := []) (lm_0_174) rfl rfl (Nat.le_of_ble_eq_true rfl) hW g0 sh_1 (by decide) rfl (by decide) (u_83 (e := e) (d := d) (n := n) hW g0 ⟨by decide, by decide⟩ qcu gcu qwa gwa qce gce (by assumption) (by assumption) (by omega) (by omega) (by omega) hCU_cu hCEN_ce hHDR_ce) (fun R1282 T1283 H1284 p1285 => ?_))
        obtain ⟨e1286, w1288, f1289, z1290, e1287, b1291, p1292⟩ := p1285
        subst e1286
        subst e1287
        rcases p1292 with ⟨a1293, a1294, a1295, a1296, a1297, a1298⟩ | ⟨a1299, a1300, a1301⟩
        · exfalso
          omega
        · have f1302 := f0.tr f1289 rfl
          show wp _ _ 93 21 [(0, .ref r0), (1, vI a1), (2, vI a2)] [vI z1290] _ H1284 _
          refine wp_of e93 c93_21 (rw_istore_n (pc' := 22) (z := z1290) (L' := [(3, vI z1290), (0, .ref r0), (1, vI a1), (2, vI a2)]) rfl rfl rfl ?_)
          refine wp_of e93 c93_22 (rw_iload_n (pc' := 23) (z := z1290) rfl rfl ?_)
          refine wp_of e93 c93_23 (rw_if_eq (p1 := 32) (p2 := 26) (by decide) rfl ⟨Int.le_trans (by decide) b1291.1, Int.le_trans b1291.2 (by decide)⟩ (fun c1303 => ?_) (fun c1303 => ?_))
          · exfalso
            omega
          · refine wp_of e93 c93_26 (rw_aload_n (pc' := 27) (v := .ref r0) rfl rfl rfl ?_)
            refine wp_of e93 c93_27 (rw_iload_n (pc' := 28) (z := z1290) rfl rfl ?_)
            refine wp_of e93 c93_28 (xc_V (pc' := 31) (r := r0) (as := [vI z1290]) (st := []) (lm_0_70) rfl rfl (Nat.le_of_ble_eq_true rfl) w1288 g0 sh_1 (by decide) rfl (by decide) (s_12 w1288 g0 ⟨Int.le_trans (by decide) b1291.1, Int.le_trans b1291.2 (by decide)⟩) (fun R1304 T1305 H1306 p1307 => ?_))
            obtain ⟨e1308, w1310, f1311, z1312, e1309, b1313⟩ := p1307
            subst e1308
            subst e1309
            have f1314 := f1302.tr f1311 rfl
            show wp _ _ 93 31 [(3, vI z1290), (0, .ref r0), (1, vI a1), (2, vI a2)] [vI z1312] _ H1306 _
            have h1315 : CEN T H1306 ce e d := (CEN_fr w1288 gce f1311 rfl a1301)
            exact wp_ireturn e93 c93_31 rfl ⟨rfl, w1310, f1314, z1312, rfl, ⟨b1313.1, b1313.2⟩, (h1315)⟩
      · refine wp_of e93 c93_13 (rw_iconst (pc' := 14) rfl ?_)
        refine wp_of e93 c93_14 (rw_goto (p1 := 18) (by decide) ?_)
        refine wp_of e93 c93_18 (xc_V (pc' := 21) (r := r0) (as := [vI 1]) (st := []) (lm_0_174) rfl rfl (Nat.le_of_ble_eq_true rfl) hW g0 sh_1 (by decide) rfl (by decide) (u_83 (e := e) (d := d) (n := n) hW g0 ⟨by decide, by decide⟩ qcu gcu qwa gwa qce gce (by assumption) (by assumption) (by omega) (by omega) (by omega) hCU_cu hCEN_ce hHDR_ce) (fun R1316 T1317 H1318 p1319 => ?_))
        obtain ⟨e1320, w1322, f1323, z1324, e1321, b1325, p1326⟩ := p1319
        subst e1320
        subst e1321
        rcases p1326 with ⟨a1327, a1328, a1329, a1330, a1331, a1332⟩ | ⟨a1333, a1334, a1335⟩
        · have f1336 := f0.tr f1323 rfl
          show wp _ _ 93 21 [(0, .ref r0), (1, vI a1), (2, vI a2)] [vI z1324] _ H1318 _
          refine wp_of e93 c93_21 (rw_istore_n (pc' := 22) (z := z1324) (L' := [(3, vI z1324), (0, .ref r0), (1, vI a1), (2, vI a2)]) rfl rfl rfl ?_)
          refine wp_of e93 c93_22 (rw_iload_n (pc' := 23) (z := z1324) rfl rfl ?_)
          refine wp_of e93 c93_23 (rw_if_eq (p1 := 32) (p2 := 26) (by decide) rfl ⟨Int.le_trans (by decide) b1325.1, Int.le_trans b1325.2 (by decide)⟩ (fun c1337 => ?_) (fun c1337 => ?_))
          · refine wp_of e93 c93_32 (rw_iload_n (pc' := 33) (z := a1) rfl rfl ?_)
            refine wp_of e93 c93_33 (rw_aload_n (pc' := 34) (v := .ref r0) rfl rfl rfl ?_)
            have k1338 : H1318 r0 3 = H r0 3 := (f1323 r0 3 _ g0 rfl)
            have q1339 : H1318 r0 3 = (ce : Int) := k1338.trans qce
            refine wp_of e93 c93_34 (xg_K (pc' := 37) lf_0_30 w1322 g0 sh_1 (by decide) (by decide) rfl q1339 rfl ?_)
            refine wp_of e93 c93_37 (xg_I (pc' := 40) lf_0_177 w1322 gce sh_12 (by decide) (by decide) ty_12_5 rfl rfl (fun b1340 b1341 => ?_))
            refine wp_of e93 c93_40 (rw_icmp_lt (p1 := 49) (p2 := 43) (by decide) rfl ⟨i1.1, i1.2⟩ ⟨b1340, b1341⟩ (fun c1342 => ?_) (fun c1342 => ?_))
            · refine wp_of e93 c93_49 (rw_aload_n (pc' := 50) (v := .ref r0) rfl rfl rfl ?_)
              refine wp_of e93 c93_50 (rw_aload_n (pc' := 51) (v := .ref r0) rfl rfl rfl ?_)
              have k1343 : H1318 r0 6 = H r0 6 := (f1323 r0 6 _ g0 rfl)
              have q1344 : H1318 r0 6 = (cu : Int) := k1343.trans qcu
              refine wp_of e93 c93_51 (xg_K (pc' := 54) lf_0_51 w1322 g0 sh_1 (by decide) (by decide) rfl q1344 rfl ?_)
              refine wp_of e93 c93_54 (rw_aload_n (pc' := 55) (v := .ref r0) rfl rfl rfl ?_)
              refine wp_of e93 c93_55 (xg_K (pc' := 58) lf_0_30 w1322 g0 sh_1 (by decide) (by decide) rfl q1339 rfl ?_)
              refine wp_of e93 c93_58 (rw_iload_n (pc' := 59) (z := a1) rfl rfl ?_)
              refine wp_of e93 c93_59 (xc_V (pc' := 62) (r := ce) (as := [vI a1]) (st := [.ref cu, .ref r0]) (lm_0_180) rfl rfl (Nat.le_of_ble_eq_true rfl) w1322 gce sh_12 (by decide) rfl (by decide) (s_94 w1322 gce ⟨i1.1, i1.2⟩) (fun R1345 T1346 H1347 p1348 => ?_))
              obtain ⟨e1349, e1351, z1352, e1350, b1353⟩ := p1348
              subst e1349
              subst e1350
              subst e1351
              show wp _ _ 93 62 [(3, vI z1324), (0, .ref r0), (1, vI a1), (2, vI a2)] [vI z1352, .ref cu, .ref r0] _ H1318 _
              refine wp_of e93 c93_62 (rw_iload_n (pc' := 63) (z := a2) rfl rfl ?_)
              refine wp_of e93 c93_63 (xc_V (pc' := 66) (r := cu) (as := [vI z1352, vI a2]) (st := [.ref r0]) (lm_0_183) rfl rfl (Nat.le_of_ble_eq_true rfl) w1322 gcu sh_27 (by decide) rfl (by decide) (s_96 w1322 gcu ⟨b1353.1, Int.le_trans b1353.2 (by decide)⟩ ⟨by omega, by omega⟩) (fun R1354 T1355 H1356 p1357 => ?_))
              obtain ⟨e1358, e1360, z1361, e1359, b1362⟩ := p1357
              subst e1358
              subst e1359
              subst e1360
              show wp _ _ 93 66 [(3, vI z1324), (0, .ref r0), (1, vI a1), (2, vI a2)] [vI z1361, .ref r0] _ H1318 _
              refine wp_of e93 c93_66 (xc_V (pc' := 69) (r := r0) (as := [vI z1361]) (st := []) (lm_0_99) rfl rfl (Nat.le_of_ble_eq_true rfl) w1322 g0 sh_1 (by decide) rfl (by decide) (s_51 w1322 g0 ⟨Int.le_trans (by decide) b1362.1, Int.le_trans b1362.2 (by decide)⟩) (fun R1363 T1364 H1365 p1366 => ?_))
              obtain ⟨e1367, w1369, f1370, z1371, e1368, b1372⟩ := p1366
              subst e1367
              subst e1368
              have f1373 := f1336.tr f1370 rfl
              show wp _ _ 93 69 [(3, vI z1324), (0, .ref r0), (1, vI a1), (2, vI a2)] [vI z1371] _ H1365 _
              have h1374 : CEN T H1365 ce e d := (CEN_fr w1322 gce f1370 rfl a1330)
              exact wp_ireturn e93 c93_69 rfl ⟨rfl, w1369, f1373, z1371, rfl, ⟨b1372.1, b1372.2⟩, (h1374)⟩
            · refine wp_of e93 c93_43 (rw_aload_n (pc' := 44) (v := .ref r0) rfl rfl rfl ?_)
              refine wp_of e93 c93_44 (rw_iconst (pc' := 45) rfl ?_)
              refine wp_of e93 c93_45 (xc_V (pc' := 48) (r := r0) (as := [vI 1]) (st := []) (lm_0_70) rfl rfl (Nat.le_of_ble_eq_true rfl) w1322 g0 sh_1 (by decide) rfl (by decide) (s_12 w1322 g0 ⟨by decide, by decide⟩) (fun R1375 T1376 H1377 p1378 => ?_))
              obtain ⟨e1379, w1381, f1382, z1383, e1380, b1384⟩ := p1378
              subst e1379
              subst e1380
              have f1385 := f1336.tr f1382 rfl
              show wp _ _ 93 48 [(3, vI z1324), (0, .ref r0), (1, vI a1), (2, vI a2)] [vI z1383] _ H1377 _
              have h1386 : CEN T H1377 ce e d := (CEN_fr w1322 gce f1382 rfl a1330)
              exact wp_ireturn e93 c93_48 rfl ⟨rfl, w1381, f1385, z1383, rfl, ⟨b1384.1, b1384.2⟩, (h1386)⟩
          · exfalso
            omega
        · have f1387 := f0.tr f1323 rfl
          show wp _ _ 93 21 [(0, .ref r0), (1, vI a1), (2, vI a2)] [vI z1324] _ H1318 _
          refine wp_of e93 c93_21 (rw_istore_n (pc' := 22) (z := z1324) (L' := [(3, vI z1324), (0, .ref r0), (1, vI a1), (2, vI a2)]) rfl rfl rfl ?_)
          refine wp_of e93 c93_22 (rw_iload_n (pc' := 23) (z := z1324) rfl rfl ?_)
          refine wp_of e93 c93_23 (rw_if_eq (p1 := 32) (p2 := 26) (by decide) rfl ⟨Int.le_trans (by decide) b1325.1, Int.le_trans b1325.2 (by decide)⟩ (fun c1388 => ?_) (fun c1388 => ?_))
          · exfalso
            omega
          · refine wp_of e93 c93_26 (rw_aload_n (pc' := 27) (v := .ref r0) rfl rfl rfl ?_)
            refine wp_of e93 c93_27 (rw_iload_n (pc' := 28) (z := z1324) rfl rfl ?_)
            refine wp_of e93 c93_28 (xc_V (pc' := 31) (r := r0) (as := [vI z1324]) (st := []) (lm_0_70) rfl rfl (Nat.le_of_ble_eq_true rfl) w1322 g0 sh_1 (by decide) rfl (by decide) (s_12 w1322 g0 ⟨Int.le_trans (by decide) b1325.1, Int.le_trans b1325.2 (by decide)⟩) (fun R1389 T1390 H1391 p1392 => ?_))
            obtain ⟨e1393, w1395, f1396, z1397, e1394, b1398⟩ := p1392
            subst e1393
            subst e1394
            have f1399 := f1387.tr f1396 rfl
            show wp _ _ 93 31 [(3, vI z1324), (0, .ref r0), (1, vI a1), (2, vI a2)] [vI z1397] _ H1391 _
            have h1400 : CEN T H1391 ce e d := (CEN_fr w1322 gce f1396 rfl a1335)
            exact wp_ireturn e93 c93_31 rfl ⟨rfl, w1395, f1399, z1397, rfl, ⟨b1398.1, b1398.2⟩, (h1400)⟩
  · show wp _ _ 93 6 [(0, .ref r0), (1, vI a1), (2, vI a2)] [vI z1273, .ref r0] _ H _
    refine wp_of e93 c93_6 (rw_if_eq (p1 := 17) (p2 := 9) (by decide) rfl ⟨Int.le_trans (by decide) b1274.1, Int.le_trans b1274.2 (by decide)⟩ (fun c1401 => ?_) (fun c1401 => ?_))
    · refine wp_of e93 c93_17 (rw_iconst (pc' := 18) rfl ?_)
      refine wp_of e93 c93_18 (xc_V (pc' := 21) (r := r0) (as := [vI 0]) (st := []) (lm_0_174) rfl rfl (Nat.le_of_ble_eq_true rfl) hW g0 sh_1 (by decide) rfl (by decide) (u_83 (e := e) (d := d) (n := n) hW g0 ⟨by decide, by decide⟩ qcu gcu qwa gwa qce gce (by assumption) (by assumption) (by omega) (by omega) (by omega) hCU_cu hCEN_ce hHDR_ce) (fun R1402 T1403 H1404 p1405 => ?_))
      obtain ⟨e1406, w1408, f1409, z1410, e1407, b1411, p1412⟩ := p1405
      subst e1406
      subst e1407
      rcases p1412 with ⟨a1413, a1414, a1415, a1416, a1417, a1418⟩ | ⟨a1419, a1420, a1421⟩
      · exfalso
        omega
      · have f1422 := f0.tr f1409 rfl
        show wp _ _ 93 21 [(0, .ref r0), (1, vI a1), (2, vI a2)] [vI z1410] _ H1404 _
        refine wp_of e93 c93_21 (rw_istore_n (pc' := 22) (z := z1410) (L' := [(3, vI z1410), (0, .ref r0), (1, vI a1), (2, vI a2)]) rfl rfl rfl ?_)
        refine wp_of e93 c93_22 (rw_iload_n (pc' := 23) (z := z1410) rfl rfl ?_)
        refine wp_of e93 c93_23 (rw_if_eq (p1 := 32) (p2 := 26) (by decide) rfl ⟨Int.le_trans (by decide) b1411.1, Int.le_trans b1411.2 (by decide)⟩ (fun c1423 => ?_) (fun c1423 => ?_))
        · exfalso
          omega
        · refine wp_of e93 c93_26 (rw_aload_n (pc' := 27) (v := .ref r0) rfl rfl rfl ?_)
          refine wp_of e93 c93_27 (rw_iload_n (pc' := 28) (z := z1410) rfl rfl ?_)
          refine wp_of e93 c93_28 (xc_V (pc' := 31) (r := r0) (as := [vI z1410]) (st := []) (lm_0_70) rfl rfl (Nat.le_of_ble_eq_true rfl) w1408 g0 sh_1 (by decide) rfl (by decide) (s_12 w1408 g0 ⟨Int.le_trans (by decide) b1411.1, Int.le_trans b1411.2 (by decide)⟩) (fun R1424 T1425 H1426 p1427 => ?_))
          obtain ⟨e1428, w1430, f1431, z1432, e1429, b1433⟩ := p1427
          subst e1428
          subst e1429
          have f1434 := f1422.tr f1431 rfl
          show wp _ _ 93 31 [(3, vI z1410), (0, .ref r0), (1, vI a1), (2, vI a2)] [vI z1432] _ H1426 _
          have h1435 : CEN T H1426 ce e d := (CEN_fr w1408 gce f1431 rfl a1421)
          exact wp_ireturn e93 c93_31 rfl ⟨rfl, w1430, f1434, z1432, rfl, ⟨b1433.1, b1433.2⟩, (h1435)⟩
    · exfalso
      omega
/-! StrikeAwake.weights()J  -/
abbrev uq_97 (r0 : Nat) (cu : Nat) (wa : Nat) (ce : Nat) (e : xD) (d : xD) (n : Int) (T : wq_T) (H : wq_H) : Option Value → wq_T → wq_H → Prop := fun r T' H' => T = T' ∧ WT T H' ∧ wfr [(12, 5), (12, 6), (12, 7), (12, 8), (12, 9), (1, 10), (6, 5), (8, 999), (10, 999), (15, 999), (9, 999), (18, 999), (19, 999), (7, 999), (11, 999), (17, 999), (13, 999)] T H H' ∧ ∃ z : Int, some (vL z) = r ∧ ((-9223372036854775808) ≤ z ∧ z ≤ 9223372036854775807) ∧ ((CEN T H' ce e d))
set_option maxHeartbeats 4000000 in
theorem u_97 {kt : Nat → Option mc_E} {T : wq_T} {H : wq_H} {r0 : Nat} {cu : Nat} {wa : Nat} {ce : Nat} {e : xD} {d : xD} {n : Int} (hW : WT T H) (g0 : T.2.2.2 r0 = some 1) (qcu : H r0 6 = (cu : Int)) (gcu : T.2.2.2 cu = some 27) (qwa : H r0 2 = (wa : Int)) (gwa : T.2.2.2 wa = some 6) (qce : H r0 3 = (ce : Int)) (gce : T.2.2.2 ce = some 12) (p0 : ∀ i, i ≠ 13 → e i = d i) (p1 : XW d) (p2 : e 0 3 = d 0 3) (p3 : e 0 0 = d 0 0) (p4 : H r0 8 = 0 ∨ n = xlots d) (p5 : H r0 8 ≠ 0 ∨ (d 0 3 = 0 ∧ d 0 0 = 0)) (hCU_cu : CU T H cu e d n) (hCEN_ce : CEN T H ce e d) (hHDR_ce : HDR T H ce ) : wpc kt 6 97 [.ref r0] T H (uq_97 r0 cu wa ce e d n T H) := by
  refine wp_enter e97 (Nat.le_of_ble_eq_true rfl) rfl ?_
  have f0 : wfr [(12, 5), (12, 6), (12, 7), (12, 8), (12, 9), (1, 10), (6, 5), (8, 999), (10, 999), (15, 999), (9, 999), (18, 999), (19, 999), (7, 999), (11, 999), (17, 999), (13, 999)] T H H := wfr.rf
  show wp _ _ 97 0 [(0, .ref r0)] [] _ H _
  have u1047 := CU_k hCU_cu
  have b1048 : 0 ≤ H r0 8 ∧ H r0 8 ≤ 1 := hW.box g0 (n := 13) rfl (by decide) rfl
  have _c7 : d 0 0 ≤ 24 := p1.2.1.2.1
  refine wp_of e97 c97_0 (rw_aload_n (pc' := 1) (v := .ref r0) rfl rfl rfl ?_)
  refine wp_of e97 c97_1 (rw_aload_n (pc' := 2) (v := .ref r0) rfl rfl rfl ?_)
  refine wp_of e97 c97_2 (xg_I (pc' := 5) lf_0_58 hW g0 sh_1 (by decide) (by decide) ty_1_8 rfl rfl (fun b1049 b1050 => ?_))
  refine wp_of e97 c97_5 (xc_V (pc' := 8) (r := r0) (as := [vI (H r0 8)]) (st := []) (lm_0_174) rfl rfl (Nat.le_of_ble_eq_true rfl) hW g0 sh_1 (by decide) rfl (by decide) (u_83 (e := e) (d := d) (n := n) hW g0 ⟨b1049, b1050⟩ qcu gcu qwa gwa qce gce (by assumption) (by assumption) (by omega) (by omega) (by omega) hCU_cu hCEN_ce hHDR_ce) (fun R1051 T1052 H1053 p1054 => ?_))
  obtain ⟨e1055, w1057, f1058, z1059, e1056, b1060, p1061⟩ := p1054
  subst e1055
  subst e1056
  rcases p1061 with ⟨a1062, a1063, a1064, a1065, a1066, a1067⟩ | ⟨a1068, a1069, a1070⟩
  · have f1071 := f0.tr f1058 rfl
    show wp _ _ 97 8 [(0, .ref r0)] [vI z1059] _ H1053 _
    refine wp_of e97 c97_8 (rw_istore_n (pc' := 9) (z := z1059) (L' := [(1, vI z1059), (0, .ref r0)]) rfl rfl rfl ?_)
    refine wp_of e97 c97_9 (rw_iload_n (pc' := 10) (z := z1059) rfl rfl ?_)
    refine wp_of e97 c97_10 (rw_if_eq (p1 := 20) (p2 := 13) (by decide) rfl ⟨Int.le_trans (by decide) b1060.1, Int.le_trans b1060.2 (by decide)⟩ (fun c1072 => ?_) (fun c1072 => ?_))
    · refine wp_of e97 c97_20 (rw_aload_n (pc' := 21) (v := .ref r0) rfl rfl rfl ?_)
      refine wp_of e97 c97_21 (rw_iconst (pc' := 22) rfl ?_)
      refine wp_of e97 c97_22 (xp_I (pc' := 25) lf_0_102 w1057 g0 sh_1 (by decide) (by decide) ty_1_10 rfl rfl (by decide) (by decide) ⟨by decide, by decide⟩ rfl (fun H1073 e1074 w1075 => ?_))
      have f1076 := f1071.put' e1074 g0 rfl
      have k1077 : H1073 r0 10 = 0 := wq_u_s e1074
      refine wp_of e97 c97_25 (rw_aload_n (pc' := 26) (v := .ref r0) rfl rfl rfl ?_)
      have k1078 : H1073 r0 3 = H r0 3 := ((wq_u_j e1074 rfl).trans (f1058 r0 3 _ g0 rfl))
      have q1079 : H1073 r0 3 = (ce : Int) := k1078.trans qce
      refine wp_of e97 c97_26 (xg_K (pc' := 29) lf_0_30 w1075 g0 sh_1 (by decide) (by decide) rfl q1079 rfl ?_)
      refine wp_of e97 c97_29 (xg_L (pc' := 32) lf_0_187 w1075 gce sh_12 (by decide) (by decide) ty_12_6 rfl rfl (fun b1080 b1081 => ?_))
      have h1082 : CEN T H1073 ce e d := (CEN_fr w1057 gce ((wfr.rf (l := [(1, 10)])).put' e1074 g0 rfl) rfl a1065)
      exact wp_lreturn e97 c97_32 rfl ⟨rfl, w1075, f1076, H1073 ce 6, rfl, ⟨b1080, b1081⟩, (h1082)⟩
    · exfalso
      omega
  · have f1083 := f0.tr f1058 rfl
    show wp _ _ 97 8 [(0, .ref r0)] [vI z1059] _ H1053 _
    refine wp_of e97 c97_8 (rw_istore_n (pc' := 9) (z := z1059) (L' := [(1, vI z1059), (0, .ref r0)]) rfl rfl rfl ?_)
    refine wp_of e97 c97_9 (rw_iload_n (pc' := 10) (z := z1059) rfl rfl ?_)
    refine wp_of e97 c97_10 (rw_if_eq (p1 := 20) (p2 := 13) (by decide) rfl ⟨Int.le_trans (by decide) b1060.1, Int.le_trans b1060.2 (by decide)⟩ (fun c1084 => ?_) (fun c1084 => ?_))
    · exfalso
      omega
    · refine wp_of e97 c97_13 (rw_aload_n (pc' := 14) (v := .ref r0) rfl rfl rfl ?_)
      refine wp_of e97 c97_14 (rw_iload_n (pc' := 15) (z := z1059) rfl rfl ?_)
      refine wp_of e97 c97_15 (xc_V (pc' := 18) (r := r0) (as := [vI z1059]) (st := []) (lm_0_70) rfl rfl (Nat.le_of_ble_eq_true rfl) w1057 g0 sh_1 (by decide) rfl (by decide) (s_12 w1057 g0 ⟨Int.le_trans (by decide) b1060.1, Int.le_trans b1060.2 (by decide)⟩) (fun R1085 T1086 H1087 p1088 => ?_))
      obtain ⟨e1089, w1091, f1092, z1093, e1090, b1094⟩ := p1088
      subst e1089
      subst e1090
      have f1095 := f1083.tr f1092 rfl
      show wp _ _ 97 18 [(1, vI z1059), (0, .ref r0)] [vI z1093] _ H1087 _
      refine wp_of e97 c97_18 (rw_i2l (pc' := 19) rfl ⟨b1094.1, b1094.2⟩ ?_)
      have h1096 : CEN T H1087 ce e d := (CEN_fr w1057 gce f1092 rfl a1070)
      exact wp_lreturn e97 c97_19 rfl ⟨rfl, w1091, f1095, z1093, rfl, ⟨Int.le_trans (by decide) b1094.1, Int.le_trans b1094.2 (by decide)⟩, (h1096)⟩
/-! StrikeAwake.having(II)I  -/
abbrev uq_98 (r0 : Nat) (a1 : Int) (a2 : Int) (cu : Nat) (wa : Nat) (ce : Nat) (e : xD) (d : xD) (n : Int) (T : wq_T) (H : wq_H) : Option Value → wq_T → wq_H → Prop := fun r T' H' => T = T' ∧ WT T H' ∧ wfr [(12, 5), (12, 6), (12, 7), (12, 8), (12, 9), (1, 10), (6, 5), (8, 999), (10, 999), (15, 999), (9, 999), (18, 999), (19, 999), (7, 999), (11, 999), (17, 999), (13, 999)] T H H' ∧ ∃ z : Int, some (vI z) = r ∧ ((-2147483648) ≤ z ∧ z ≤ 2147483647) ∧ ((CEN T H' ce e d))
set_option maxHeartbeats 4000000 in
theorem u_98 {kt : Nat → Option mc_E} {T : wq_T} {H : wq_H} {r0 : Nat} {a1 : Int} {a2 : Int} {cu : Nat} {wa : Nat} {ce : Nat} {e : xD} {d : xD} {n : Int} (hW : WT T H) (g0 : T.2.2.2 r0 = some 1) (i1 : (-2147483648) ≤ a1 ∧ a1 ≤ 2147483647) (i2 : (-2147483648) ≤ a2 ∧ a2 ≤ 2147483647) (qcu : H r0 6 = (cu : Int)) (gcu : T.2.2.2 cu = some 27) (qwa : H r0 2 = (wa : Int)) (gwa : T.2.2.2 wa = some 6) (qce : H r0 3 = (ce : Int)) (gce : T.2.2.2 ce = some 12) (p0 : ∀ i, i ≠ 13 → e i = d i) (p1 : XW d) (p2 : e 0 3 = d 0 3) (p3 : e 0 0 = d 0 0) (p4 : H r0 8 = 0 ∨ n = xlots d) (p5 : H r0 8 ≠ 0 ∨ (d 0 3 = 0 ∧ d 0 0 = 0)) (hCU_cu : CU T H cu e d n) (hCEN_ce : CEN T H ce e d) (hHDR_ce : HDR T H ce ) : wpc kt 6 98 [.ref r0, vI a1, vI a2] T H (uq_98 r0 a1 a2 cu wa ce e d n T H) := by
  refine wp_enter e98 (Nat.le_of_ble_eq_true rfl) rfl ?_
  have f0 : wfr [(12, 5), (12, 6), (12, 7), (12, 8), (12, 9), (1, 10), (6, 5), (8, 999), (10, 999), (15, 999), (9, 999), (18, 999), (19, 999), (7, 999), (11, 999), (17, 999), (13, 999)] T H H := wfr.rf
  show wp _ _ 98 0 [(0, .ref r0), (1, vI a1), (2, vI a2)] [] _ H _
  have u1127 := CU_k hCU_cu
  have b1128 : 0 ≤ H r0 8 ∧ H r0 8 ≤ 1 := hW.box g0 (n := 13) rfl (by decide) rfl
  have _c7 : d 0 0 ≤ 24 := p1.2.1.2.1
  refine wp_of e98 c98_0 (rw_aload_n (pc' := 1) (v := .ref r0) rfl rfl rfl ?_)
  refine wp_of e98 c98_1 (rw_aload_n (pc' := 2) (v := .ref r0) rfl rfl rfl ?_)
  refine wp_of e98 c98_2 (rw_iload_n (pc' := 3) (z := a1) rfl rfl ?_)
  refine wp_of e98 c98_3 (rw_iload_n (pc' := 4) (z := a2) rfl rfl ?_)
  refine wp_of e98 c98_4 (xc_V (pc' := 7) (r := r0) (as := [vI a1, vI a2]) (st := [.ref r0]) (lm_0_118) rfl rfl (Nat.le_of_ble_eq_true rfl) hW g0 sh_1 (by decide) rfl (by decide) (u_57 (e := e) (d := d) (n := n) hW g0 ⟨i1.1, i1.2⟩ ⟨i2.1, i2.2⟩ qcu gcu (by omega) (by omega) hCU_cu) (fun R1129 T1130 H1131 p1132 => ?_))
  obtain ⟨e1133, e1135, z1136, e1134, b1137, p1138⟩ := p1132
  subst e1133
  subst e1134
  subst e1135
  rcases p1138 with ⟨a1139, a1140⟩ | ⟨a1141, a1142⟩
  · show wp _ _ 98 7 [(0, .ref r0), (1, vI a1), (2, vI a2)] [vI z1136, .ref r0] _ H _
    have _xl := @xsp_len d (a1).toNat hCU_cu.2.1.1
    refine wp_of e98 c98_7 (xc_V (pc' := 10) (r := r0) (as := [vI z1136]) (st := []) (lm_0_174) rfl rfl (Nat.le_of_ble_eq_true rfl) hW g0 sh_1 (by decide) rfl (by decide) (u_83 (e := e) (d := d) (n := n) hW g0 ⟨b1137.1, b1137.2⟩ qcu gcu qwa gwa qce gce (by assumption) (by assumption) (by omega) (by omega) (by omega) hCU_cu hCEN_ce hHDR_ce) (fun R1143 T1144 H1145 p1146 => ?_))
    obtain ⟨e1147, w1149, f1150, z1151, e1148, b1152, p1153⟩ := p1146
    subst e1147
    subst e1148
    rcases p1153 with ⟨a1154, a1155, a1156, a1157, a1158, a1159⟩ | ⟨a1160, a1161, a1162⟩
    · have f1163 := f0.tr f1150 rfl
      show wp _ _ 98 10 [(0, .ref r0), (1, vI a1), (2, vI a2)] [vI z1151] _ H1145 _
      refine wp_of e98 c98_10 (rw_istore_n (pc' := 11) (z := z1151) (L' := [(3, vI z1151), (0, .ref r0), (1, vI a1), (2, vI a2)]) rfl rfl rfl ?_)
      refine wp_of e98 c98_11 (rw_iload_n (pc' := 12) (z := z1151) rfl rfl ?_)
      refine wp_of e98 c98_12 (rw_if_eq (p1 := 21) (p2 := 15) (by decide) rfl ⟨Int.le_trans (by decide) b1152.1, Int.le_trans b1152.2 (by decide)⟩ (fun c1164 => ?_) (fun c1164 => ?_))
      · refine wp_of e98 c98_21 (rw_aload_n (pc' := 22) (v := .ref r0) rfl rfl rfl ?_)
        refine wp_of e98 c98_22 (rw_aload_n (pc' := 23) (v := .ref r0) rfl rfl rfl ?_)
        have k1165 : H1145 r0 3 = H r0 3 := (f1150 r0 3 _ g0 rfl)
        have q1166 : H1145 r0 3 = (ce : Int) := k1165.trans qce
        refine wp_of e98 c98_23 (xg_K (pc' := 26) lf_0_30 w1149 g0 sh_1 (by decide) (by decide) rfl q1166 rfl ?_)
        refine wp_of e98 c98_26 (xg_R (pc' := 29) lf_0_190 w1149 gce sh_12 (by decide) (by decide) ty_12_1 rfl rfl (fun r1167 q1168 g1169 => ?_))
        refine wp_of e98 c98_29 (rw_iload_n (pc' := 30) (z := a1) rfl rfl ?_)
        refine wp_of e98 c98_30 (xa_R (pc' := 31) (by decide) w1149 g1169 sh_14 (by decide) (ty_14 _) (by omega) (by omega) rfl (fun r1170 q1171 g1172 => ?_))
        refine wp_of e98 c98_31 (rw_iload_n (pc' := 32) (z := a2) rfl rfl ?_)
        refine wp_of e98 c98_32 (xa_I (so := 0) (pc' := 33) w1149 g1172 sh_15 (by decide) (ty_15 _) (by omega) (by omega) rfl (fun b1173 b1174 => ?_))
        refine wp_of e98 c98_33 (xc_V (pc' := 36) (r := r0) (as := [vI (H1145 r1170 (a2.toNat))]) (st := []) (lm_0_99) rfl rfl (Nat.le_of_ble_eq_true rfl) w1149 g0 sh_1 (by decide) rfl (by decide) (s_51 w1149 g0 ⟨b1173, b1174⟩) (fun R1175 T1176 H1177 p1178 => ?_))
        obtain ⟨e1179, w1181, f1182, z1183, e1180, b1184⟩ := p1178
        subst e1179
        subst e1180
        have f1185 := f1163.tr f1182 rfl
        show wp _ _ 98 36 [(3, vI z1151), (0, .ref r0), (1, vI a1), (2, vI a2)] [vI z1183] _ H1177 _
        have h1186 : CEN T H1177 ce e d := (CEN_fr w1149 gce f1182 rfl a1157)
        exact wp_ireturn e98 c98_36 rfl ⟨rfl, w1181, f1185, z1183, rfl, ⟨b1184.1, b1184.2⟩, (h1186)⟩
      · exfalso
        omega
    · have f1187 := f0.tr f1150 rfl
      show wp _ _ 98 10 [(0, .ref r0), (1, vI a1), (2, vI a2)] [vI z1151] _ H1145 _
      refine wp_of e98 c98_10 (rw_istore_n (pc' := 11) (z := z1151) (L' := [(3, vI z1151), (0, .ref r0), (1, vI a1), (2, vI a2)]) rfl rfl rfl ?_)
      refine wp_of e98 c98_11 (rw_iload_n (pc' := 12) (z := z1151) rfl rfl ?_)
      refine wp_of e98 c98_12 (rw_if_eq (p1 := 21) (p2 := 15) (by decide) rfl ⟨Int.le_trans (by decide) b1152.1, Int.le_trans b1152.2 (by decide)⟩ (fun c1188 => ?_) (fun c1188 => ?_))
      · exfalso
        omega
      · refine wp_of e98 c98_15 (rw_aload_n (pc' := 16) (v := .ref r0) rfl rfl rfl ?_)
        refine wp_of e98 c98_16 (rw_iload_n (pc' := 17) (z := z1151) rfl rfl ?_)
        refine wp_of e98 c98_17 (xc_V (pc' := 20) (r := r0) (as := [vI z1151]) (st := []) (lm_0_70) rfl rfl (Nat.le_of_ble_eq_true rfl) w1149 g0 sh_1 (by decide) rfl (by decide) (s_12 w1149 g0 ⟨Int.le_trans (by decide) b1152.1, Int.le_trans b1152.2 (by decide)⟩) (fun R1189 T1190 H1191 p1192 => ?_))
        obtain ⟨e1193, w1195, f1196, z1197, e1194, b1198⟩ := p1192
        subst e1193
        subst e1194
        have f1199 := f1187.tr f1196 rfl
        show wp _ _ 98 20 [(3, vI z1151), (0, .ref r0), (1, vI a1), (2, vI a2)] [vI z1197] _ H1191 _
        have h1200 : CEN T H1191 ce e d := (CEN_fr w1149 gce f1196 rfl a1162)
        exact wp_ireturn e98 c98_20 rfl ⟨rfl, w1195, f1199, z1197, rfl, ⟨b1198.1, b1198.2⟩, (h1200)⟩
  · show wp _ _ 98 7 [(0, .ref r0), (1, vI a1), (2, vI a2)] [vI z1136, .ref r0] _ H _
    have _xl := @xsp_len d (a1).toNat hCU_cu.2.1.1
    refine wp_of e98 c98_7 (xc_V (pc' := 10) (r := r0) (as := [vI z1136]) (st := []) (lm_0_174) rfl rfl (Nat.le_of_ble_eq_true rfl) hW g0 sh_1 (by decide) rfl (by decide) (u_83 (e := e) (d := d) (n := n) hW g0 ⟨b1137.1, b1137.2⟩ qcu gcu qwa gwa qce gce (by assumption) (by assumption) (by omega) (by omega) (by omega) hCU_cu hCEN_ce hHDR_ce) (fun R1201 T1202 H1203 p1204 => ?_))
    obtain ⟨e1205, w1207, f1208, z1209, e1206, b1210, p1211⟩ := p1204
    subst e1205
    subst e1206
    rcases p1211 with ⟨a1212, a1213, a1214, a1215, a1216, a1217⟩ | ⟨a1218, a1219, a1220⟩
    · exfalso
      omega
    · have f1221 := f0.tr f1208 rfl
      show wp _ _ 98 10 [(0, .ref r0), (1, vI a1), (2, vI a2)] [vI z1209] _ H1203 _
      refine wp_of e98 c98_10 (rw_istore_n (pc' := 11) (z := z1209) (L' := [(3, vI z1209), (0, .ref r0), (1, vI a1), (2, vI a2)]) rfl rfl rfl ?_)
      refine wp_of e98 c98_11 (rw_iload_n (pc' := 12) (z := z1209) rfl rfl ?_)
      refine wp_of e98 c98_12 (rw_if_eq (p1 := 21) (p2 := 15) (by decide) rfl ⟨Int.le_trans (by decide) b1210.1, Int.le_trans b1210.2 (by decide)⟩ (fun c1222 => ?_) (fun c1222 => ?_))
      · exfalso
        omega
      · refine wp_of e98 c98_15 (rw_aload_n (pc' := 16) (v := .ref r0) rfl rfl rfl ?_)
        refine wp_of e98 c98_16 (rw_iload_n (pc' := 17) (z := z1209) rfl rfl ?_)
        refine wp_of e98 c98_17 (xc_V (pc' := 20) (r := r0) (as := [vI z1209]) (st := []) (lm_0_70) rfl rfl (Nat.le_of_ble_eq_true rfl) w1207 g0 sh_1 (by decide) rfl (by decide) (s_12 w1207 g0 ⟨Int.le_trans (by decide) b1210.1, Int.le_trans b1210.2 (by decide)⟩) (fun R1223 T1224 H1225 p1226 => ?_))
        obtain ⟨e1227, w1229, f1230, z1231, e1228, b1232⟩ := p1226
        subst e1227
        subst e1228
        have f1233 := f1221.tr f1230 rfl
        show wp _ _ 98 20 [(3, vI z1209), (0, .ref r0), (1, vI a1), (2, vI a2)] [vI z1231] _ H1225 _
        have h1234 : CEN T H1225 ce e d := (CEN_fr w1207 gce f1230 rfl a1220)
        exact wp_ireturn e98 c98_20 rfl ⟨rfl, w1229, f1233, z1231, rfl, ⟨b1232.1, b1232.2⟩, (h1234)⟩
/-! StrikeAwake.times(II)I  -/
abbrev uq_99 (r0 : Nat) (a1 : Int) (a2 : Int) (cu : Nat) (wa : Nat) (ce : Nat) (e : xD) (d : xD) (n : Int) (T : wq_T) (H : wq_H) : Option Value → wq_T → wq_H → Prop := fun r T' H' => T = T' ∧ WT T H' ∧ wfr [(12, 5), (12, 6), (12, 7), (12, 8), (12, 9), (1, 10), (6, 5), (8, 999), (10, 999), (15, 999), (9, 999), (18, 999), (19, 999), (7, 999), (11, 999), (17, 999), (13, 999)] T H H' ∧ ∃ z : Int, some (vI z) = r ∧ ((-2147483648) ≤ z ∧ z ≤ 2147483647) ∧ ((CEN T H' ce e d))
set_option maxHeartbeats 4000000 in
theorem u_99 {kt : Nat → Option mc_E} {T : wq_T} {H : wq_H} {r0 : Nat} {a1 : Int} {a2 : Int} {cu : Nat} {wa : Nat} {ce : Nat} {e : xD} {d : xD} {n : Int} (hW : WT T H) (g0 : T.2.2.2 r0 = some 1) (i1 : (-2147483648) ≤ a1 ∧ a1 ≤ 2147483647) (i2 : (-2147483648) ≤ a2 ∧ a2 ≤ 2147483647) (qcu : H r0 6 = (cu : Int)) (gcu : T.2.2.2 cu = some 27) (qwa : H r0 2 = (wa : Int)) (gwa : T.2.2.2 wa = some 6) (qce : H r0 3 = (ce : Int)) (gce : T.2.2.2 ce = some 12) (p0 : ∀ i, i ≠ 13 → e i = d i) (p1 : XW d) (p2 : e 0 3 = d 0 3) (p3 : e 0 0 = d 0 0) (p4 : H r0 8 = 0 ∨ n = xlots d) (p5 : H r0 8 ≠ 0 ∨ (d 0 3 = 0 ∧ d 0 0 = 0)) (hCU_cu : CU T H cu e d n) (hCEN_ce : CEN T H ce e d) (hHDR_ce : HDR T H ce ) : wpc kt 6 99 [.ref r0, vI a1, vI a2] T H (uq_99 r0 a1 a2 cu wa ce e d n T H) := by
  refine wp_enter e99 (Nat.le_of_ble_eq_true rfl) rfl ?_
  have f0 : wfr [(12, 5), (12, 6), (12, 7), (12, 8), (12, 9), (1, 10), (6, 5), (8, 999), (10, 999), (15, 999), (9, 999), (18, 999), (19, 999), (7, 999), (11, 999), (17, 999), (13, 999)] T H H := wfr.rf
  show wp _ _ 99 0 [(0, .ref r0), (1, vI a1), (2, vI a2)] [] _ H _
  have u1210 := CU_k hCU_cu
  have b1211 : 0 ≤ H r0 8 ∧ H r0 8 ≤ 1 := hW.box g0 (n := 13) rfl (by decide) rfl
  have _c7 : d 0 0 ≤ 24 := p1.2.1.2.1
  refine wp_of e99 c99_0 (rw_aload_n (pc' := 1) (v := .ref r0) rfl rfl rfl ?_)
  refine wp_of e99 c99_1 (rw_aload_n (pc' := 2) (v := .ref r0) rfl rfl rfl ?_)
  refine wp_of e99 c99_2 (rw_iload_n (pc' := 3) (z := a1) rfl rfl ?_)
  refine wp_of e99 c99_3 (xc_V (pc' := 6) (r := r0) (as := [vI a1]) (st := [.ref r0]) (lm_0_105) rfl rfl (Nat.le_of_ble_eq_true rfl) hW g0 sh_1 (by decide) rfl (by decide) (u_55  hW g0 ⟨i1.1, i1.2⟩ qcu gcu) (fun R1212 T1213 H1214 p1215 => ?_))
  obtain ⟨e1216, e1218, z1219, e1217, b1220, p1221⟩ := p1215
  subst e1216
  subst e1217
  subst e1218
  rcases p1221 with ⟨a1222, a1223⟩ | ⟨a1224, a1225⟩
  · show wp _ _ 99 6 [(0, .ref r0), (1, vI a1), (2, vI a2)] [vI z1219, .ref r0] _ H _
    refine wp_of e99 c99_6 (rw_if_eq (p1 := 21) (p2 := 9) (by decide) rfl ⟨Int.le_trans (by decide) b1220.1, Int.le_trans b1220.2 (by decide)⟩ (fun c1226 => ?_) (fun c1226 => ?_))
    · exfalso
      omega
    · refine wp_of e99 c99_9 (rw_aload_n (pc' := 10) (v := .ref r0) rfl rfl rfl ?_)
      refine wp_of e99 c99_10 (rw_iload_n (pc' := 11) (z := a2) rfl rfl ?_)
      refine wp_of e99 c99_11 (xc_V (pc' := 14) (r := r0) (as := [vI a2]) (st := [.ref r0]) (lm_0_132) rfl rfl (Nat.le_of_ble_eq_true rfl) hW g0 sh_1 (by decide) rfl (by decide) (u_60  hW g0 ⟨i2.1, i2.2⟩ qcu gcu) (fun R1227 T1228 H1229 p1230 => ?_))
      obtain ⟨e1231, e1233, z1234, e1232, b1235, p1236⟩ := p1230
      subst e1231
      subst e1232
      subst e1233
      rcases p1236 with ⟨a1237, a1238⟩ | ⟨a1239, a1240⟩
      · show wp _ _ 99 14 [(0, .ref r0), (1, vI a1), (2, vI a2)] [vI z1234, .ref r0] _ H _
        refine wp_of e99 c99_14 (rw_if_eq (p1 := 21) (p2 := 17) (by decide) rfl ⟨Int.le_trans (by decide) b1235.1, Int.le_trans b1235.2 (by decide)⟩ (fun c1241 => ?_) (fun c1241 => ?_))
        · exfalso
          omega
        · refine wp_of e99 c99_17 (rw_iconst (pc' := 18) rfl ?_)
          refine wp_of e99 c99_18 (rw_goto (p1 := 22) (by decide) ?_)
          refine wp_of e99 c99_22 (xc_V (pc' := 25) (r := r0) (as := [vI 1]) (st := []) (lm_0_174) rfl rfl (Nat.le_of_ble_eq_true rfl) hW g0 sh_1 (by decide) rfl (by decide) (u_83 (e := e) (d := d) (n := n) hW g0 ⟨by decide, by decide⟩ qcu gcu qwa gwa qce gce (by assumption) (by assumption) (by omega) (by omega) (by omega) hCU_cu hCEN_ce hHDR_ce) (fun R1242 T1243 H1244 p1245 => ?_))
          obtain ⟨e1246, w1248, f1249, z1250, e1247, b1251, p1252⟩ := p1245
          subst e1246
          subst e1247
          rcases p1252 with ⟨a1253, a1254, a1255, a1256, a1257, a1258⟩ | ⟨a1259, a1260, a1261⟩
          · have f1262 := f0.tr f1249 rfl
            show wp _ _ 99 25 [(0, .ref r0), (1, vI a1), (2, vI a2)] [vI z1250] _ H1244 _
            refine wp_of e99 c99_25 (rw_istore_n (pc' := 26) (z := z1250) (L' := [(3, vI z1250), (0, .ref r0), (1, vI a1), (2, vI a2)]) rfl rfl rfl ?_)
            refine wp_of e99 c99_26 (rw_iload_n (pc' := 27) (z := z1250) rfl rfl ?_)
            refine wp_of e99 c99_27 (rw_if_eq (p1 := 36) (p2 := 30) (by decide) rfl ⟨Int.le_trans (by decide) b1251.1, Int.le_trans b1251.2 (by decide)⟩ (fun c1263 => ?_) (fun c1263 => ?_))
            · refine wp_of e99 c99_36 (rw_aload_n (pc' := 37) (v := .ref r0) rfl rfl rfl ?_)
              refine wp_of e99 c99_37 (rw_aload_n (pc' := 38) (v := .ref r0) rfl rfl rfl ?_)
              have k1264 : H1244 r0 3 = H r0 3 := (f1249 r0 3 _ g0 rfl)
              have q1265 : H1244 r0 3 = (ce : Int) := k1264.trans qce
              refine wp_of e99 c99_38 (xg_K (pc' := 41) lf_0_30 w1248 g0 sh_1 (by decide) (by decide) rfl q1265 rfl ?_)
              refine wp_of e99 c99_41 (rw_aload_n (pc' := 42) (v := .ref r0) rfl rfl rfl ?_)
              have k1266 : H1244 r0 6 = H r0 6 := (f1249 r0 6 _ g0 rfl)
              have q1267 : H1244 r0 6 = (cu : Int) := k1266.trans qcu
              refine wp_of e99 c99_42 (xg_K (pc' := 45) lf_0_51 w1248 g0 sh_1 (by decide) (by decide) rfl q1267 rfl ?_)
              refine wp_of e99 c99_45 (rw_iload_n (pc' := 46) (z := a1) rfl rfl ?_)
              refine wp_of e99 c99_46 (rw_iload_n (pc' := 47) (z := a2) rfl rfl ?_)
              refine wp_of e99 c99_47 (xc_V (pc' := 50) (r := ce) (as := [.ref cu, vI a1, vI a2]) (st := [.ref r0]) (lm_0_194) rfl rfl (Nat.le_of_ble_eq_true rfl) w1248 gce sh_12 (by decide) rfl (by decide) (s_100 w1248 gce gcu ⟨by omega, by omega⟩ ⟨i2.1, i2.2⟩) (fun R1268 T1269 H1270 p1271 => ?_))
              obtain ⟨e1272, e1274, z1275, e1273, b1276⟩ := p1271
              subst e1272
              subst e1273
              subst e1274
              show wp _ _ 99 50 [(3, vI z1250), (0, .ref r0), (1, vI a1), (2, vI a2)] [vI z1275, .ref r0] _ H1244 _
              refine wp_of e99 c99_50 (xc_V (pc' := 53) (r := r0) (as := [vI z1275]) (st := []) (lm_0_99) rfl rfl (Nat.le_of_ble_eq_true rfl) w1248 g0 sh_1 (by decide) rfl (by decide) (s_51 w1248 g0 ⟨b1276.1, b1276.2⟩) (fun R1277 T1278 H1279 p1280 => ?_))
              obtain ⟨e1281, w1283, f1284, z1285, e1282, b1286⟩ := p1280
              subst e1281
              subst e1282
              have f1287 := f1262.tr f1284 rfl
              show wp _ _ 99 53 [(3, vI z1250), (0, .ref r0), (1, vI a1), (2, vI a2)] [vI z1285] _ H1279 _
              have h1288 : CEN T H1279 ce e d := (CEN_fr w1248 gce f1284 rfl a1256)
              exact wp_ireturn e99 c99_53 rfl ⟨rfl, w1283, f1287, z1285, rfl, ⟨b1286.1, b1286.2⟩, (h1288)⟩
            · exfalso
              omega
          · have f1289 := f0.tr f1249 rfl
            show wp _ _ 99 25 [(0, .ref r0), (1, vI a1), (2, vI a2)] [vI z1250] _ H1244 _
            refine wp_of e99 c99_25 (rw_istore_n (pc' := 26) (z := z1250) (L' := [(3, vI z1250), (0, .ref r0), (1, vI a1), (2, vI a2)]) rfl rfl rfl ?_)
            refine wp_of e99 c99_26 (rw_iload_n (pc' := 27) (z := z1250) rfl rfl ?_)
            refine wp_of e99 c99_27 (rw_if_eq (p1 := 36) (p2 := 30) (by decide) rfl ⟨Int.le_trans (by decide) b1251.1, Int.le_trans b1251.2 (by decide)⟩ (fun c1290 => ?_) (fun c1290 => ?_))
            · exfalso
              omega
            · refine wp_of e99 c99_30 (rw_aload_n (pc' := 31) (v := .ref r0) rfl rfl rfl ?_)
              refine wp_of e99 c99_31 (rw_iload_n (pc' := 32) (z := z1250) rfl rfl ?_)
              refine wp_of e99 c99_32 (xc_V (pc' := 35) (r := r0) (as := [vI z1250]) (st := []) (lm_0_70) rfl rfl (Nat.le_of_ble_eq_true rfl) w1248 g0 sh_1 (by decide) rfl (by decide) (s_12 w1248 g0 ⟨Int.le_trans (by decide) b1251.1, Int.le_trans b1251.2 (by decide)⟩) (fun R1291 T1292 H1293 p1294 => ?_))
              obtain ⟨e1295, w1297, f1298, z1299, e1296, b1300⟩ := p1294
              subst e1295
              subst e1296
              have f1301 := f1289.tr f1298 rfl
              show wp _ _ 99 35 [(3, vI z1250), (0, .ref r0), (1, vI a1), (2, vI a2)] [vI z1299] _ H1293 _
              have h1302 : CEN T H1293 ce e d := (CEN_fr w1248 gce f1298 rfl a1261)
              exact wp_ireturn e99 c99_35 rfl ⟨rfl, w1297, f1301, z1299, rfl, ⟨b1300.1, b1300.2⟩, (h1302)⟩
      · show wp _ _ 99 14 [(0, .ref r0), (1, vI a1), (2, vI a2)] [vI z1234, .ref r0] _ H _
        refine wp_of e99 c99_14 (rw_if_eq (p1 := 21) (p2 := 17) (by decide) rfl ⟨Int.le_trans (by decide) b1235.1, Int.le_trans b1235.2 (by decide)⟩ (fun c1303 => ?_) (fun c1303 => ?_))
        · refine wp_of e99 c99_21 (rw_iconst (pc' := 22) rfl ?_)
          refine wp_of e99 c99_22 (xc_V (pc' := 25) (r := r0) (as := [vI 0]) (st := []) (lm_0_174) rfl rfl (Nat.le_of_ble_eq_true rfl) hW g0 sh_1 (by decide) rfl (by decide) (u_83 (e := e) (d := d) (n := n) hW g0 ⟨by decide, by decide⟩ qcu gcu qwa gwa qce gce (by assumption) (by assumption) (by omega) (by omega) (by omega) hCU_cu hCEN_ce hHDR_ce) (fun R1304 T1305 H1306 p1307 => ?_))
          obtain ⟨e1308, w1310, f1311, z1312, e1309, b1313, p1314⟩ := p1307
          subst e1308
          subst e1309
          rcases p1314 with ⟨a1315, a1316, a1317, a1318, a1319, a1320⟩ | ⟨a1321, a1322, a1323⟩
          · exfalso
            omega
          · have f1324 := f0.tr f1311 rfl
            show wp _ _ 99 25 [(0, .ref r0), (1, vI a1), (2, vI a2)] [vI z1312] _ H1306 _
            refine wp_of e99 c99_25 (rw_istore_n (pc' := 26) (z := z1312) (L' := [(3, vI z1312), (0, .ref r0), (1, vI a1), (2, vI a2)]) rfl rfl rfl ?_)
            refine wp_of e99 c99_26 (rw_iload_n (pc' := 27) (z := z1312) rfl rfl ?_)
            refine wp_of e99 c99_27 (rw_if_eq (p1 := 36) (p2 := 30) (by decide) rfl ⟨Int.le_trans (by decide) b1313.1, Int.le_trans b1313.2 (by decide)⟩ (fun c1325 => ?_) (fun c1325 => ?_))
            · exfalso
              omega
            · refine wp_of e99 c99_30 (rw_aload_n (pc' := 31) (v := .ref r0) rfl rfl rfl ?_)
              refine wp_of e99 c99_31 (rw_iload_n (pc' := 32) (z := z1312) rfl rfl ?_)
              refine wp_of e99 c99_32 (xc_V (pc' := 35) (r := r0) (as := [vI z1312]) (st := []) (lm_0_70) rfl rfl (Nat.le_of_ble_eq_true rfl) w1310 g0 sh_1 (by decide) rfl (by decide) (s_12 w1310 g0 ⟨Int.le_trans (by decide) b1313.1, Int.le_trans b1313.2 (by decide)⟩) (fun R1326 T1327 H1328 p1329 => ?_))
              obtain ⟨e1330, w1332, f1333, z1334, e1331, b1335⟩ := p1329
              subst e1330
              subst e1331
              have f1336 := f1324.tr f1333 rfl
              show wp _ _ 99 35 [(3, vI z1312), (0, .ref r0), (1, vI a1), (2, vI a2)] [vI z1334] _ H1328 _
              have h1337 : CEN T H1328 ce e d := (CEN_fr w1310 gce f1333 rfl a1323)
              exact wp_ireturn e99 c99_35 rfl ⟨rfl, w1332, f1336, z1334, rfl, ⟨b1335.1, b1335.2⟩, (h1337)⟩
        · exfalso
          omega
  · show wp _ _ 99 6 [(0, .ref r0), (1, vI a1), (2, vI a2)] [vI z1219, .ref r0] _ H _
    refine wp_of e99 c99_6 (rw_if_eq (p1 := 21) (p2 := 9) (by decide) rfl ⟨Int.le_trans (by decide) b1220.1, Int.le_trans b1220.2 (by decide)⟩ (fun c1338 => ?_) (fun c1338 => ?_))
    · refine wp_of e99 c99_21 (rw_iconst (pc' := 22) rfl ?_)
      refine wp_of e99 c99_22 (xc_V (pc' := 25) (r := r0) (as := [vI 0]) (st := []) (lm_0_174) rfl rfl (Nat.le_of_ble_eq_true rfl) hW g0 sh_1 (by decide) rfl (by decide) (u_83 (e := e) (d := d) (n := n) hW g0 ⟨by decide, by decide⟩ qcu gcu qwa gwa qce gce (by assumption) (by assumption) (by omega) (by omega) (by omega) hCU_cu hCEN_ce hHDR_ce) (fun R1339 T1340 H1341 p1342 => ?_))
      obtain ⟨e1343, w1345, f1346, z1347, e1344, b1348, p1349⟩ := p1342
      subst e1343
      subst e1344
      rcases p1349 with ⟨a1350, a1351, a1352, a1353, a1354, a1355⟩ | ⟨a1356, a1357, a1358⟩
      · exfalso
        omega
      · have f1359 := f0.tr f1346 rfl
        show wp _ _ 99 25 [(0, .ref r0), (1, vI a1), (2, vI a2)] [vI z1347] _ H1341 _
        refine wp_of e99 c99_25 (rw_istore_n (pc' := 26) (z := z1347) (L' := [(3, vI z1347), (0, .ref r0), (1, vI a1), (2, vI a2)]) rfl rfl rfl ?_)
        refine wp_of e99 c99_26 (rw_iload_n (pc' := 27) (z := z1347) rfl rfl ?_)
        refine wp_of e99 c99_27 (rw_if_eq (p1 := 36) (p2 := 30) (by decide) rfl ⟨Int.le_trans (by decide) b1348.1, Int.le_trans b1348.2 (by decide)⟩ (fun c1360 => ?_) (fun c1360 => ?_))
        · exfalso
          omega
        · refine wp_of e99 c99_30 (rw_aload_n (pc' := 31) (v := .ref r0) rfl rfl rfl ?_)
          refine wp_of e99 c99_31 (rw_iload_n (pc' := 32) (z := z1347) rfl rfl ?_)
          refine wp_of e99 c99_32 (xc_V (pc' := 35) (r := r0) (as := [vI z1347]) (st := []) (lm_0_70) rfl rfl (Nat.le_of_ble_eq_true rfl) w1345 g0 sh_1 (by decide) rfl (by decide) (s_12 w1345 g0 ⟨Int.le_trans (by decide) b1348.1, Int.le_trans b1348.2 (by decide)⟩) (fun R1361 T1362 H1363 p1364 => ?_))
          obtain ⟨e1365, w1367, f1368, z1369, e1366, b1370⟩ := p1364
          subst e1365
          subst e1366
          have f1371 := f1359.tr f1368 rfl
          show wp _ _ 99 35 [(3, vI z1347), (0, .ref r0), (1, vI a1), (2, vI a2)] [vI z1369] _ H1363 _
          have h1372 : CEN T H1363 ce e d := (CEN_fr w1345 gce f1368 rfl a1358)
          exact wp_ireturn e99 c99_35 rfl ⟨rfl, w1367, f1371, z1369, rfl, ⟨b1370.1, b1370.2⟩, (h1372)⟩
    · exfalso
      omega
/-! StrikeAwake.sure(II)I  -/
abbrev uq_101 (r0 : Nat) (a1 : Int) (a2 : Int) (cu : Nat) (wa : Nat) (ce : Nat) (e : xD) (d : xD) (n : Int) (T : wq_T) (H : wq_H) : Option Value → wq_T → wq_H → Prop := fun r T' H' => T = T' ∧ WT T H' ∧ wfr [(12, 5), (12, 6), (12, 7), (12, 8), (12, 9), (1, 10), (6, 5), (8, 999), (10, 999), (15, 999), (9, 999), (18, 999), (19, 999), (7, 999), (11, 999), (17, 999), (13, 999)] T H H' ∧ ∃ z : Int, some (vI z) = r ∧ ((-2147483648) ≤ z ∧ z ≤ 2147483647) ∧ ((CEN T H' ce e d))
set_option maxHeartbeats 4000000 in
theorem u_101 {kt : Nat → Option mc_E} {T : wq_T} {H : wq_H} {r0 : Nat} {a1 : Int} {a2 : Int} {cu : Nat} {wa : Nat} {ce : Nat} {e : xD} {d : xD} {n : Int} (hW : WT T H) (g0 : T.2.2.2 r0 = some 1) (i1 : (-2147483648) ≤ a1 ∧ a1 ≤ 2147483647) (i2 : (-2147483648) ≤ a2 ∧ a2 ≤ 2147483647) (qcu : H r0 6 = (cu : Int)) (gcu : T.2.2.2 cu = some 27) (qwa : H r0 2 = (wa : Int)) (gwa : T.2.2.2 wa = some 6) (qce : H r0 3 = (ce : Int)) (gce : T.2.2.2 ce = some 12) (p0 : ∀ i, i ≠ 13 → e i = d i) (p1 : XW d) (p2 : e 0 3 = d 0 3) (p3 : e 0 0 = d 0 0) (p4 : H r0 8 = 0 ∨ n = xlots d) (p5 : H r0 8 ≠ 0 ∨ (d 0 3 = 0 ∧ d 0 0 = 0)) (hCU_cu : CU T H cu e d n) (hCEN_ce : CEN T H ce e d) (hHDR_ce : HDR T H ce ) : wpc kt 7 101 [.ref r0, vI a1, vI a2] T H (uq_101 r0 a1 a2 cu wa ce e d n T H) := by
  refine wp_enter e101 (Nat.le_of_ble_eq_true rfl) rfl ?_
  have f0 : wfr [(12, 5), (12, 6), (12, 7), (12, 8), (12, 9), (1, 10), (6, 5), (8, 999), (10, 999), (15, 999), (9, 999), (18, 999), (19, 999), (7, 999), (11, 999), (17, 999), (13, 999)] T H H := wfr.rf
  show wp _ _ 101 0 [(0, .ref r0), (1, vI a1), (2, vI a2)] [] _ H _
  have u1213 := CU_k hCU_cu
  have b1214 : 0 ≤ H r0 8 ∧ H r0 8 ≤ 1 := hW.box g0 (n := 13) rfl (by decide) rfl
  have _c7 : d 0 0 ≤ 24 := p1.2.1.2.1
  refine wp_of e101 c101_0 (rw_aload_n (pc' := 1) (v := .ref r0) rfl rfl rfl ?_)
  refine wp_of e101 c101_1 (rw_aload_n (pc' := 2) (v := .ref r0) rfl rfl rfl ?_)
  refine wp_of e101 c101_2 (rw_iload_n (pc' := 3) (z := a1) rfl rfl ?_)
  refine wp_of e101 c101_3 (xc_V (pc' := 6) (r := r0) (as := [vI a1]) (st := [.ref r0]) (lm_0_105) rfl rfl (Nat.le_of_ble_eq_true rfl) hW g0 sh_1 (by decide) rfl (by decide) (u_55  hW g0 ⟨i1.1, i1.2⟩ qcu gcu) (fun R1215 T1216 H1217 p1218 => ?_))
  obtain ⟨e1219, e1221, z1222, e1220, b1223, p1224⟩ := p1218
  subst e1219
  subst e1220
  subst e1221
  rcases p1224 with ⟨a1225, a1226⟩ | ⟨a1227, a1228⟩
  · show wp _ _ 101 6 [(0, .ref r0), (1, vI a1), (2, vI a2)] [vI z1222, .ref r0] _ H _
    refine wp_of e101 c101_6 (rw_if_eq (p1 := 21) (p2 := 9) (by decide) rfl ⟨Int.le_trans (by decide) b1223.1, Int.le_trans b1223.2 (by decide)⟩ (fun c1229 => ?_) (fun c1229 => ?_))
    · exfalso
      omega
    · refine wp_of e101 c101_9 (rw_aload_n (pc' := 10) (v := .ref r0) rfl rfl rfl ?_)
      refine wp_of e101 c101_10 (rw_iload_n (pc' := 11) (z := a2) rfl rfl ?_)
      refine wp_of e101 c101_11 (xc_V (pc' := 14) (r := r0) (as := [vI a2]) (st := [.ref r0]) (lm_0_132) rfl rfl (Nat.le_of_ble_eq_true rfl) hW g0 sh_1 (by decide) rfl (by decide) (u_60  hW g0 ⟨i2.1, i2.2⟩ qcu gcu) (fun R1230 T1231 H1232 p1233 => ?_))
      obtain ⟨e1234, e1236, z1237, e1235, b1238, p1239⟩ := p1233
      subst e1234
      subst e1235
      subst e1236
      rcases p1239 with ⟨a1240, a1241⟩ | ⟨a1242, a1243⟩
      · show wp _ _ 101 14 [(0, .ref r0), (1, vI a1), (2, vI a2)] [vI z1237, .ref r0] _ H _
        refine wp_of e101 c101_14 (rw_if_eq (p1 := 21) (p2 := 17) (by decide) rfl ⟨Int.le_trans (by decide) b1238.1, Int.le_trans b1238.2 (by decide)⟩ (fun c1244 => ?_) (fun c1244 => ?_))
        · exfalso
          omega
        · refine wp_of e101 c101_17 (rw_iconst (pc' := 18) rfl ?_)
          refine wp_of e101 c101_18 (rw_goto (p1 := 22) (by decide) ?_)
          refine wp_of e101 c101_22 (xc_V (pc' := 25) (r := r0) (as := [vI 1]) (st := []) (lm_0_198) rfl rfl (Nat.le_of_ble_eq_true rfl) hW g0 sh_1 (by decide) rfl (by decide) (u_102 (e := e) (d := d) (n := n) hW g0 ⟨by decide, by decide⟩ qcu gcu qwa gwa qce gce (by assumption) (by assumption) (by omega) (by omega) (by omega) hCU_cu hCEN_ce hHDR_ce) (fun R1245 T1246 H1247 p1248 => ?_))
          obtain ⟨e1249, w1251, f1252, z1253, e1250, b1254, p1255⟩ := p1248
          subst e1249
          subst e1250
          rcases p1255 with ⟨a1256, a1257, a1258, a1259, a1260, a1261, a1262⟩ | ⟨a1263, a1264, a1265⟩
          · have f1266 := f0.tr f1252 rfl
            show wp _ _ 101 25 [(0, .ref r0), (1, vI a1), (2, vI a2)] [vI z1253] _ H1247 _
            refine wp_of e101 c101_25 (rw_istore_n (pc' := 26) (z := z1253) (L' := [(3, vI z1253), (0, .ref r0), (1, vI a1), (2, vI a2)]) rfl rfl rfl ?_)
            refine wp_of e101 c101_26 (rw_iload_n (pc' := 27) (z := z1253) rfl rfl ?_)
            refine wp_of e101 c101_27 (rw_if_eq (p1 := 36) (p2 := 30) (by decide) rfl ⟨Int.le_trans (by decide) b1254.1, Int.le_trans b1254.2 (by decide)⟩ (fun c1267 => ?_) (fun c1267 => ?_))
            · refine wp_of e101 c101_36 (rw_aload_n (pc' := 37) (v := .ref r0) rfl rfl rfl ?_)
              refine wp_of e101 c101_37 (rw_aload_n (pc' := 38) (v := .ref r0) rfl rfl rfl ?_)
              have k1268 : H1247 r0 3 = H r0 3 := (f1252 r0 3 _ g0 rfl)
              have q1269 : H1247 r0 3 = (ce : Int) := k1268.trans qce
              refine wp_of e101 c101_38 (xg_K (pc' := 41) lf_0_30 w1251 g0 sh_1 (by decide) (by decide) rfl q1269 rfl ?_)
              refine wp_of e101 c101_41 (rw_aload_n (pc' := 42) (v := .ref r0) rfl rfl rfl ?_)
              have k1270 : H1247 r0 6 = H r0 6 := (f1252 r0 6 _ g0 rfl)
              have q1271 : H1247 r0 6 = (cu : Int) := k1270.trans qcu
              refine wp_of e101 c101_42 (xg_K (pc' := 45) lf_0_51 w1251 g0 sh_1 (by decide) (by decide) rfl q1271 rfl ?_)
              refine wp_of e101 c101_45 (rw_iload_n (pc' := 46) (z := a1) rfl rfl ?_)
              refine wp_of e101 c101_46 (rw_iload_n (pc' := 47) (z := a2) rfl rfl ?_)
              refine wp_of e101 c101_47 (xc_V (pc' := 50) (r := ce) (as := [.ref cu, vI a1, vI a2]) (st := [.ref r0]) (lm_0_201) rfl rfl (Nat.le_of_ble_eq_true rfl) w1251 gce sh_12 (by decide) rfl (by decide) (s_103 w1251 gce gcu ⟨by omega, by omega⟩ ⟨i2.1, i2.2⟩) (fun R1272 T1273 H1274 p1275 => ?_))
              obtain ⟨e1276, e1278, z1279, e1277, b1280⟩ := p1275
              subst e1276
              subst e1277
              subst e1278
              show wp _ _ 101 50 [(3, vI z1253), (0, .ref r0), (1, vI a1), (2, vI a2)] [vI z1279, .ref r0] _ H1247 _
              refine wp_of e101 c101_50 (xc_V (pc' := 53) (r := r0) (as := [vI z1279]) (st := []) (lm_0_99) rfl rfl (Nat.le_of_ble_eq_true rfl) w1251 g0 sh_1 (by decide) rfl (by decide) (s_51 w1251 g0 ⟨Int.le_trans (by decide) b1280.1, Int.le_trans b1280.2 (by decide)⟩) (fun R1281 T1282 H1283 p1284 => ?_))
              obtain ⟨e1285, w1287, f1288, z1289, e1286, b1290⟩ := p1284
              subst e1285
              subst e1286
              have f1291 := f1266.tr f1288 rfl
              show wp _ _ 101 53 [(3, vI z1253), (0, .ref r0), (1, vI a1), (2, vI a2)] [vI z1289] _ H1283 _
              have h1292 : CEN T H1283 ce e d := (CEN_fr w1251 gce f1288 rfl a1260)
              exact wp_ireturn e101 c101_53 rfl ⟨rfl, w1287, f1291, z1289, rfl, ⟨b1290.1, b1290.2⟩, (h1292)⟩
            · exfalso
              omega
          · have f1293 := f0.tr f1252 rfl
            show wp _ _ 101 25 [(0, .ref r0), (1, vI a1), (2, vI a2)] [vI z1253] _ H1247 _
            refine wp_of e101 c101_25 (rw_istore_n (pc' := 26) (z := z1253) (L' := [(3, vI z1253), (0, .ref r0), (1, vI a1), (2, vI a2)]) rfl rfl rfl ?_)
            refine wp_of e101 c101_26 (rw_iload_n (pc' := 27) (z := z1253) rfl rfl ?_)
            refine wp_of e101 c101_27 (rw_if_eq (p1 := 36) (p2 := 30) (by decide) rfl ⟨Int.le_trans (by decide) b1254.1, Int.le_trans b1254.2 (by decide)⟩ (fun c1294 => ?_) (fun c1294 => ?_))
            · exfalso
              omega
            · refine wp_of e101 c101_30 (rw_aload_n (pc' := 31) (v := .ref r0) rfl rfl rfl ?_)
              refine wp_of e101 c101_31 (rw_iload_n (pc' := 32) (z := z1253) rfl rfl ?_)
              refine wp_of e101 c101_32 (xc_V (pc' := 35) (r := r0) (as := [vI z1253]) (st := []) (lm_0_70) rfl rfl (Nat.le_of_ble_eq_true rfl) w1251 g0 sh_1 (by decide) rfl (by decide) (s_12 w1251 g0 ⟨Int.le_trans (by decide) b1254.1, Int.le_trans b1254.2 (by decide)⟩) (fun R1295 T1296 H1297 p1298 => ?_))
              obtain ⟨e1299, w1301, f1302, z1303, e1300, b1304⟩ := p1298
              subst e1299
              subst e1300
              have f1305 := f1293.tr f1302 rfl
              show wp _ _ 101 35 [(3, vI z1253), (0, .ref r0), (1, vI a1), (2, vI a2)] [vI z1303] _ H1297 _
              have h1306 : CEN T H1297 ce e d := (CEN_fr w1251 gce f1302 rfl a1265)
              exact wp_ireturn e101 c101_35 rfl ⟨rfl, w1301, f1305, z1303, rfl, ⟨b1304.1, b1304.2⟩, (h1306)⟩
      · show wp _ _ 101 14 [(0, .ref r0), (1, vI a1), (2, vI a2)] [vI z1237, .ref r0] _ H _
        refine wp_of e101 c101_14 (rw_if_eq (p1 := 21) (p2 := 17) (by decide) rfl ⟨Int.le_trans (by decide) b1238.1, Int.le_trans b1238.2 (by decide)⟩ (fun c1307 => ?_) (fun c1307 => ?_))
        · refine wp_of e101 c101_21 (rw_iconst (pc' := 22) rfl ?_)
          refine wp_of e101 c101_22 (xc_V (pc' := 25) (r := r0) (as := [vI 0]) (st := []) (lm_0_198) rfl rfl (Nat.le_of_ble_eq_true rfl) hW g0 sh_1 (by decide) rfl (by decide) (u_102 (e := e) (d := d) (n := n) hW g0 ⟨by decide, by decide⟩ qcu gcu qwa gwa qce gce (by assumption) (by assumption) (by omega) (by omega) (by omega) hCU_cu hCEN_ce hHDR_ce) (fun R1308 T1309 H1310 p1311 => ?_))
          obtain ⟨e1312, w1314, f1315, z1316, e1313, b1317, p1318⟩ := p1311
          subst e1312
          subst e1313
          rcases p1318 with ⟨a1319, a1320, a1321, a1322, a1323, a1324, a1325⟩ | ⟨a1326, a1327, a1328⟩
          · exfalso
            omega
          · have f1329 := f0.tr f1315 rfl
            show wp _ _ 101 25 [(0, .ref r0), (1, vI a1), (2, vI a2)] [vI z1316] _ H1310 _
            refine wp_of e101 c101_25 (rw_istore_n (pc' := 26) (z := z1316) (L' := [(3, vI z1316), (0, .ref r0), (1, vI a1), (2, vI a2)]) rfl rfl rfl ?_)
            refine wp_of e101 c101_26 (rw_iload_n (pc' := 27) (z := z1316) rfl rfl ?_)
            refine wp_of e101 c101_27 (rw_if_eq (p1 := 36) (p2 := 30) (by decide) rfl ⟨Int.le_trans (by decide) b1317.1, Int.le_trans b1317.2 (by decide)⟩ (fun c1330 => ?_) (fun c1330 => ?_))
            · exfalso
              omega
            · refine wp_of e101 c101_30 (rw_aload_n (pc' := 31) (v := .ref r0) rfl rfl rfl ?_)
              refine wp_of e101 c101_31 (rw_iload_n (pc' := 32) (z := z1316) rfl rfl ?_)
              refine wp_of e101 c101_32 (xc_V (pc' := 35) (r := r0) (as := [vI z1316]) (st := []) (lm_0_70) rfl rfl (Nat.le_of_ble_eq_true rfl) w1314 g0 sh_1 (by decide) rfl (by decide) (s_12 w1314 g0 ⟨Int.le_trans (by decide) b1317.1, Int.le_trans b1317.2 (by decide)⟩) (fun R1331 T1332 H1333 p1334 => ?_))
              obtain ⟨e1335, w1337, f1338, z1339, e1336, b1340⟩ := p1334
              subst e1335
              subst e1336
              have f1341 := f1329.tr f1338 rfl
              show wp _ _ 101 35 [(3, vI z1316), (0, .ref r0), (1, vI a1), (2, vI a2)] [vI z1339] _ H1333 _
              have h1342 : CEN T H1333 ce e d := (CEN_fr w1314 gce f1338 rfl a1328)
              exact wp_ireturn e101 c101_35 rfl ⟨rfl, w1337, f1341, z1339, rfl, ⟨b1340.1, b1340.2⟩, (h1342)⟩
        · exfalso
          omega
  · show wp _ _ 101 6 [(0, .ref r0), (1, vI a1), (2, vI a2)] [vI z1222, .ref r0] _ H _
    refine wp_of e101 c101_6 (rw_if_eq (p1 := 21) (p2 := 9) (by decide) rfl ⟨Int.le_trans (by decide) b1223.1, Int.le_trans b1223.2 (by decide)⟩ (fun c1343 => ?_) (fun c1343 => ?_))
    · refine wp_of e101 c101_21 (rw_iconst (pc' := 22) rfl ?_)
      refine wp_of e101 c101_22 (xc_V (pc' := 25) (r := r0) (as := [vI 0]) (st := []) (lm_0_198) rfl rfl (Nat.le_of_ble_eq_true rfl) hW g0 sh_1 (by decide) rfl (by decide) (u_102 (e := e) (d := d) (n := n) hW g0 ⟨by decide, by decide⟩ qcu gcu qwa gwa qce gce (by assumption) (by assumption) (by omega) (by omega) (by omega) hCU_cu hCEN_ce hHDR_ce) (fun R1344 T1345 H1346 p1347 => ?_))
      obtain ⟨e1348, w1350, f1351, z1352, e1349, b1353, p1354⟩ := p1347
      subst e1348
      subst e1349
      rcases p1354 with ⟨a1355, a1356, a1357, a1358, a1359, a1360, a1361⟩ | ⟨a1362, a1363, a1364⟩
      · exfalso
        omega
      · have f1365 := f0.tr f1351 rfl
        show wp _ _ 101 25 [(0, .ref r0), (1, vI a1), (2, vI a2)] [vI z1352] _ H1346 _
        refine wp_of e101 c101_25 (rw_istore_n (pc' := 26) (z := z1352) (L' := [(3, vI z1352), (0, .ref r0), (1, vI a1), (2, vI a2)]) rfl rfl rfl ?_)
        refine wp_of e101 c101_26 (rw_iload_n (pc' := 27) (z := z1352) rfl rfl ?_)
        refine wp_of e101 c101_27 (rw_if_eq (p1 := 36) (p2 := 30) (by decide) rfl ⟨Int.le_trans (by decide) b1353.1, Int.le_trans b1353.2 (by decide)⟩ (fun c1366 => ?_) (fun c1366 => ?_))
        · exfalso
          omega
        · refine wp_of e101 c101_30 (rw_aload_n (pc' := 31) (v := .ref r0) rfl rfl rfl ?_)
          refine wp_of e101 c101_31 (rw_iload_n (pc' := 32) (z := z1352) rfl rfl ?_)
          refine wp_of e101 c101_32 (xc_V (pc' := 35) (r := r0) (as := [vI z1352]) (st := []) (lm_0_70) rfl rfl (Nat.le_of_ble_eq_true rfl) w1350 g0 sh_1 (by decide) rfl (by decide) (s_12 w1350 g0 ⟨Int.le_trans (by decide) b1353.1, Int.le_trans b1353.2 (by decide)⟩) (fun R1367 T1368 H1369 p1370 => ?_))
          obtain ⟨e1371, w1373, f1374, z1375, e1372, b1376⟩ := p1370
          subst e1371
          subst e1372
          have f1377 := f1365.tr f1374 rfl
          show wp _ _ 101 35 [(3, vI z1352), (0, .ref r0), (1, vI a1), (2, vI a2)] [vI z1375] _ H1369 _
          have h1378 : CEN T H1369 ce e d := (CEN_fr w1350 gce f1374 rfl a1364)
          exact wp_ireturn e101 c101_35 rfl ⟨rfl, w1373, f1377, z1375, rfl, ⟨b1376.1, b1376.2⟩, (h1378)⟩
    · exfalso
      omega
/-! StrikeAwake.surely(IZ)I  -/
abbrev uq_104 (r0 : Nat) (a1 : Int) (a2 : Int) (cu : Nat) (wa : Nat) (ce : Nat) (e : xD) (d : xD) (n : Int) (T : wq_T) (H : wq_H) : Option Value → wq_T → wq_H → Prop := fun r T' H' => T = T' ∧ WT T H' ∧ wfr [(12, 5), (12, 6), (12, 7), (12, 8), (12, 9), (1, 10), (6, 5), (8, 999), (10, 999), (15, 999), (9, 999), (18, 999), (19, 999), (7, 999), (11, 999), (17, 999), (13, 999)] T H H' ∧ ∃ z : Int, some (vI z) = r ∧ ((-2147483648) ≤ z ∧ z ≤ 2147483647) ∧ ((CEN T H' ce e d))
set_option maxHeartbeats 4000000 in
theorem u_104 {kt : Nat → Option mc_E} {T : wq_T} {H : wq_H} {r0 : Nat} {a1 : Int} {a2 : Int} {cu : Nat} {wa : Nat} {ce : Nat} {e : xD} {d : xD} {n : Int} (hW : WT T H) (g0 : T.2.2.2 r0 = some 1) (i1 : (-2147483648) ≤ a1 ∧ a1 ≤ 2147483647) (i2 : 0 ≤ a2 ∧ a2 ≤ 1) (qcu : H r0 6 = (cu : Int)) (gcu : T.2.2.2 cu = some 27) (qwa : H r0 2 = (wa : Int)) (gwa : T.2.2.2 wa = some 6) (qce : H r0 3 = (ce : Int)) (gce : T.2.2.2 ce = some 12) (p0 : ∀ i, i ≠ 13 → e i = d i) (p1 : XW d) (p2 : e 0 3 = d 0 3) (p3 : e 0 0 = d 0 0) (p4 : H r0 8 = 0 ∨ n = xlots d) (p5 : H r0 8 ≠ 0 ∨ (d 0 3 = 0 ∧ d 0 0 = 0)) (hCU_cu : CU T H cu e d n) (hCEN_ce : CEN T H ce e d) (hHDR_ce : HDR T H ce ) : wpc kt 7 104 [.ref r0, vI a1, vI a2] T H (uq_104 r0 a1 a2 cu wa ce e d n T H) := by
  refine wp_enter e104 (Nat.le_of_ble_eq_true rfl) rfl ?_
  have f0 : wfr [(12, 5), (12, 6), (12, 7), (12, 8), (12, 9), (1, 10), (6, 5), (8, 999), (10, 999), (15, 999), (9, 999), (18, 999), (19, 999), (7, 999), (11, 999), (17, 999), (13, 999)] T H H := wfr.rf
  show wp _ _ 104 0 [(0, .ref r0), (1, vI a1), (2, vI a2)] [] _ H _
  have u1841 := CU_k hCU_cu
  have b1842 : 0 ≤ H r0 8 ∧ H r0 8 ≤ 1 := hW.box g0 (n := 13) rfl (by decide) rfl
  have _c7 : d 0 0 ≤ 24 := p1.2.1.2.1
  refine wp_of e104 c104_0 (rw_aload_n (pc' := 1) (v := .ref r0) rfl rfl rfl ?_)
  refine wp_of e104 c104_1 (rw_aload_n (pc' := 2) (v := .ref r0) rfl rfl rfl ?_)
  refine wp_of e104 c104_2 (rw_iload_n (pc' := 3) (z := a1) rfl rfl ?_)
  refine wp_of e104 c104_3 (xc_V (pc' := 6) (r := r0) (as := [vI a1]) (st := [.ref r0]) (lm_0_132) rfl rfl (Nat.le_of_ble_eq_true rfl) hW g0 sh_1 (by decide) rfl (by decide) (u_60  hW g0 ⟨i1.1, i1.2⟩ qcu gcu) (fun R1843 T1844 H1845 p1846 => ?_))
  obtain ⟨e1847, e1849, z1850, e1848, b1851, p1852⟩ := p1846
  subst e1847
  subst e1848
  subst e1849
  rcases p1852 with ⟨a1853, a1854⟩ | ⟨a1855, a1856⟩
  · show wp _ _ 104 6 [(0, .ref r0), (1, vI a1), (2, vI a2)] [vI z1850, .ref r0] _ H _
    refine wp_of e104 c104_6 (xc_V (pc' := 9) (r := r0) (as := [vI z1850]) (st := []) (lm_0_198) rfl rfl (Nat.le_of_ble_eq_true rfl) hW g0 sh_1 (by decide) rfl (by decide) (u_102 (e := e) (d := d) (n := n) hW g0 ⟨b1851.1, b1851.2⟩ qcu gcu qwa gwa qce gce (by assumption) (by assumption) (by omega) (by omega) (by omega) hCU_cu hCEN_ce hHDR_ce) (fun R1857 T1858 H1859 p1860 => ?_))
    obtain ⟨e1861, w1863, f1864, z1865, e1862, b1866, p1867⟩ := p1860
    subst e1861
    subst e1862
    rcases p1867 with ⟨a1868, a1869, a1870, a1871, a1872, a1873, a1874⟩ | ⟨a1875, a1876, a1877⟩
    · have f1878 := f0.tr f1864 rfl
      show wp _ _ 104 9 [(0, .ref r0), (1, vI a1), (2, vI a2)] [vI z1865] _ H1859 _
      refine wp_of e104 c104_9 (rw_istore_n (pc' := 10) (z := z1865) (L' := [(3, vI z1865), (0, .ref r0), (1, vI a1), (2, vI a2)]) rfl rfl rfl ?_)
      refine wp_of e104 c104_10 (rw_iload_n (pc' := 11) (z := z1865) rfl rfl ?_)
      refine wp_of e104 c104_11 (rw_if_eq (p1 := 20) (p2 := 14) (by decide) rfl ⟨Int.le_trans (by decide) b1866.1, Int.le_trans b1866.2 (by decide)⟩ (fun c1879 => ?_) (fun c1879 => ?_))
      · refine wp_of e104 c104_20 (rw_iload_n (pc' := 21) (z := a2) rfl rfl ?_)
        refine wp_of e104 c104_21 (rw_if_eq (p1 := 28) (p2 := 24) (by decide) rfl ⟨Int.le_trans (by decide) i2.1, Int.le_trans i2.2 (by decide)⟩ (fun c1880 => ?_) (fun c1880 => ?_))
        · refine wp_of e104 c104_28 (rw_iconst (pc' := 29) rfl ?_)
          refine wp_of e104 c104_29 (rw_istore (pc' := 31) (z := 0) (L' := [(4, vI 0), (3, vI z1865), (0, .ref r0), (1, vI a1), (2, vI a2)]) rfl rfl rfl ?_)
          refine wp_of e104 c104_31 (rw_iconst (pc' := 32) rfl ?_)
          refine wp_of e104 c104_32 (rw_istore (pc' := 34) (z := 0) (L' := [(5, vI 0), (4, vI 0), (3, vI z1865), (0, .ref r0), (1, vI a1), (2, vI a2)]) rfl rfl rfl ?_)
          refine wp_of e104 c104_34 (rw_iconst (pc' := 35) rfl ?_)
          refine wp_of e104 c104_35 (rw_istore (pc' := 37) (z := 0) (L' := [(6, vI 0), (5, vI 0), (4, vI 0), (3, vI z1865), (0, .ref r0), (1, vI a1), (2, vI a2)]) rfl rfl rfl ?_)
          have lp2035 : ∀ (n2036 : Nat) (v2038 : Int) (v2039 : Int), (0 ≤ v2038 ∧ v2038 ≤ 6) → (0 ≤ v2039 ∧ v2039 ≤ 16777215) → (6 - v2038).toNat = n2036 → wp kt 6 104 37 [(6, vI v2038), (5, vI v2039), (4, vI 0), (0, .ref r0), (1, vI a1)] [] T H1859 (uq_104 r0 a1 a2 cu wa ce e d n T H) := by
            intro n2036
            induction n2036 using Nat.strongRecOn with
            | _ n2036 ih2037 =>
              intro v2038 v2039 b2042 b2043 m2044
              refine wp_of e104 c104_37 (rw_iload (pc' := 39) (z := v2038) rfl rfl ?_)
              refine wp_of e104 c104_39 (rw_aload_n (pc' := 40) (v := .ref r0) rfl rfl rfl ?_)
              have k2045 : H1859 r0 6 = H r0 6 := (f1864 r0 6 _ g0 rfl)
              have q2046 : H1859 r0 6 = (cu : Int) := k2045.trans qcu
              refine wp_of e104 c104_40 (xg_K (pc' := 43) lf_0_51 w1863 g0 sh_1 (by decide) (by decide) rfl q2046 rfl ?_)
              have k2047 : H1859 cu 10 = H cu 10 := (f1864 cu 10 _ gcu rfl)
              refine wp_of e104 c104_43 (xg_I (pc' := 46) lf_0_96 w1863 gcu sh_27 (by decide) (by decide) ty_27_10 rfl rfl (fun b2048 b2049 => ?_))
              refine wp_of e104 c104_46 (rw_icmp_ge (p1 := 83) (p2 := 49) (by decide) rfl ⟨Int.le_trans (by decide) b2042.1, Int.le_trans b2042.2 (by decide)⟩ ⟨Int.le_trans (by decide) b2048, Int.le_trans b2049 (by decide)⟩ (fun c2050 => ?_) (fun c2050 => ?_))
              · refine wp_of e104 c104_83 (rw_aload_n (pc' := 84) (v := .ref r0) rfl rfl rfl ?_)
                refine wp_of e104 c104_84 (rw_iload (pc' := 86) (z := v2039) rfl rfl ?_)
                refine wp_of e104 c104_86 (xc_V (pc' := 89) (r := r0) (as := [vI v2039]) (st := []) (lm_0_99) rfl rfl (Nat.le_of_ble_eq_true rfl) w1863 g0 sh_1 (by decide) rfl (by decide) (s_51 w1863 g0 ⟨Int.le_trans (by decide) b2043.1, Int.le_trans b2043.2 (by decide)⟩) (fun R2051 T2052 H2053 p2054 => ?_))
                obtain ⟨e2055, w2057, f2058, z2059, e2056, b2060⟩ := p2054
                subst e2055
                subst e2056
                have f2061 := f1878.tr f2058 rfl
                show wp _ _ 104 89 [(6, vI v2038), (5, vI v2039), (4, vI 0), (0, .ref r0), (1, vI a1)] [vI z2059] _ H2053 _
                have h2062 : CEN T H2053 ce e d := (CEN_fr w1863 gce f2058 rfl a1872)
                exact wp_ireturn e104 c104_89 rfl ⟨rfl, w2057, f2061, z2059, rfl, ⟨b2060.1, b2060.2⟩, (h2062)⟩
              · refine wp_of e104 c104_49 (rw_aload_n (pc' := 50) (v := .ref r0) rfl rfl rfl ?_)
                have k2063 : H1859 r0 3 = H r0 3 := (f1864 r0 3 _ g0 rfl)
                have q2064 : H1859 r0 3 = (ce : Int) := k2063.trans qce
                refine wp_of e104 c104_50 (xg_K (pc' := 53) lf_0_30 w1863 g0 sh_1 (by decide) (by decide) rfl q2064 rfl ?_)
                refine wp_of e104 c104_53 (rw_aload_n (pc' := 54) (v := .ref r0) rfl rfl rfl ?_)
                refine wp_of e104 c104_54 (xg_K (pc' := 57) lf_0_51 w1863 g0 sh_1 (by decide) (by decide) rfl q2046 rfl ?_)
                refine wp_of e104 c104_57 (rw_iload (pc' := 59) (z := v2038) rfl rfl ?_)
                refine wp_of e104 c104_59 (rw_iload_n (pc' := 60) (z := a1) rfl rfl ?_)
                refine wp_of e104 c104_60 (xc_V (pc' := 63) (r := ce) (as := [.ref cu, vI v2038, vI a1]) (st := []) (lm_0_201) rfl rfl (Nat.le_of_ble_eq_true rfl) w1863 gce sh_12 (by decide) rfl (by decide) (s_103 w1863 gce gcu ⟨b2042.1, by omega⟩ ⟨i1.1, i1.2⟩) (fun R2065 T2066 H2067 p2068 => ?_))
                obtain ⟨e2069, e2071, z2072, e2070, b2073⟩ := p2068
                subst e2069
                subst e2070
                subst e2071
                show wp _ _ 104 63 [(6, vI v2038), (5, vI v2039), (4, vI 0), (0, .ref r0), (1, vI a1)] [vI z2072] _ H1859 _
                refine wp_of e104 c104_63 (rw_iload (pc' := 65) (z := 0) rfl rfl ?_)
                refine wp_of e104 c104_65 (rw_icmp_ne (p1 := 77) (p2 := 68) (by decide) rfl ⟨Int.le_trans (by decide) b2073.1, Int.le_trans b2073.2 (by decide)⟩ ⟨by decide, by decide⟩ (fun c2074 => ?_) (fun c2074 => ?_))
                · refine wp_of e104 c104_77 (rw_iinc (pc' := 80) (z := v2038) (L' := [(6, vI (v2038 + 1)), (5, vI v2039), (4, vI 0), (0, .ref r0), (1, vI a1)]) rfl rfl rfl rfl ?_)
                  refine wp_of e104 c104_80 (rw_goto (p1 := 37) (by decide) ?_)
                  exact wp_lc (ks := [6, 5, 4, 0, 1]) (wl_c rfl (wl_c rfl (wl_c rfl (wl_c rfl (wl_c rfl wl_n))))) rfl (by decide) (ih2037 _ (by omega) (v2038 + 1) v2039 ⟨by omega, by omega⟩ ⟨b2043.1, b2043.2⟩ rfl)
                · refine wp_of e104 c104_68 (rw_iload (pc' := 70) (z := v2039) rfl rfl ?_)
                  refine wp_of e104 c104_70 (rw_iconst (pc' := 71) rfl ?_)
                  refine wp_of e104 c104_71 (rw_iload (pc' := 73) (z := v2038) rfl rfl ?_)
                  refine wp_of e104 c104_73 (rw_ishl (pc' := 74) rfl ?_)
                  obtain ⟨v2075, e2076⟩ : ∃ x : Int, x = wq_shl 1 v2038 := ⟨_, rfl⟩
                  rw [← e2076]
                  have b2077 : 1 ≤ v2075 ∧ v2075 ≤ 64 := by
                    rw [e2076]
                    exact wq_shl1_6 ⟨by omega, by omega⟩
                  refine wp_of e104 c104_74 (rw_ior (pc' := 75) rfl ?_)
                  obtain ⟨v2078, e2079⟩ : ∃ x : Int, x = wq_or v2039 v2075 := ⟨_, rfl⟩
                  rw [← e2079]
                  have b2080 : 0 ≤ v2078 ∧ v2078 ≤ 16777215 := by
                    rw [e2079]
                    exact wq_or_24 ⟨by omega, by omega⟩ ⟨by omega, by omega⟩
                  refine wp_of e104 c104_75 (rw_istore (pc' := 77) (z := v2078) (L' := [(5, vI v2078), (6, vI v2038), (4, vI 0), (0, .ref r0), (1, vI a1)]) rfl rfl rfl ?_)
                  refine wp_of e104 c104_77 (rw_iinc (pc' := 80) (z := v2038) (L' := [(6, vI (v2038 + 1)), (5, vI v2078), (4, vI 0), (0, .ref r0), (1, vI a1)]) rfl rfl rfl rfl ?_)
                  refine wp_of e104 c104_80 (rw_goto (p1 := 37) (by decide) ?_)
                  exact wp_lc (ks := [6, 5, 4, 0, 1]) (wl_c rfl (wl_c rfl (wl_c rfl (wl_c rfl (wl_c rfl wl_n))))) rfl (by decide) (ih2037 _ (by omega) (v2038 + 1) v2078 ⟨by omega, by omega⟩ ⟨b2080.1, b2080.2⟩ rfl)
          exact wp_lc (ks := [6, 5, 4, 3, 0, 1, 2]) (wl_c rfl (wl_c rfl (wl_c rfl (wl_c rfl (wl_c rfl wl_n))))) rfl (by decide) (lp2035 _ 0 0 ⟨by decide, by decide⟩ ⟨by decide, by decide⟩ rfl)
        · refine wp_of e104 c104_24 (rw_iconst (pc' := 25) rfl ?_)
          refine wp_of e104 c104_25 (rw_goto (p1 := 29) (by decide) ?_)
          refine wp_of e104 c104_29 (rw_istore (pc' := 31) (z := 2) (L' := [(4, vI 2), (3, vI z1865), (0, .ref r0), (1, vI a1), (2, vI a2)]) rfl rfl rfl ?_)
          refine wp_of e104 c104_31 (rw_iconst (pc' := 32) rfl ?_)
          refine wp_of e104 c104_32 (rw_istore (pc' := 34) (z := 0) (L' := [(5, vI 0), (4, vI 2), (3, vI z1865), (0, .ref r0), (1, vI a1), (2, vI a2)]) rfl rfl rfl ?_)
          refine wp_of e104 c104_34 (rw_iconst (pc' := 35) rfl ?_)
          refine wp_of e104 c104_35 (rw_istore (pc' := 37) (z := 0) (L' := [(6, vI 0), (5, vI 0), (4, vI 2), (3, vI z1865), (0, .ref r0), (1, vI a1), (2, vI a2)]) rfl rfl rfl ?_)
          have lp2235 : ∀ (n2236 : Nat) (v2238 : Int) (v2239 : Int), (0 ≤ v2238 ∧ v2238 ≤ 6) → (0 ≤ v2239 ∧ v2239 ≤ 16777215) → (6 - v2238).toNat = n2236 → wp kt 6 104 37 [(6, vI v2238), (5, vI v2239), (4, vI 2), (0, .ref r0), (1, vI a1)] [] T H1859 (uq_104 r0 a1 a2 cu wa ce e d n T H) := by
            intro n2236
            induction n2236 using Nat.strongRecOn with
            | _ n2236 ih2237 =>
              intro v2238 v2239 b2242 b2243 m2244
              refine wp_of e104 c104_37 (rw_iload (pc' := 39) (z := v2238) rfl rfl ?_)
              refine wp_of e104 c104_39 (rw_aload_n (pc' := 40) (v := .ref r0) rfl rfl rfl ?_)
              have k2245 : H1859 r0 6 = H r0 6 := (f1864 r0 6 _ g0 rfl)
              have q2246 : H1859 r0 6 = (cu : Int) := k2245.trans qcu
              refine wp_of e104 c104_40 (xg_K (pc' := 43) lf_0_51 w1863 g0 sh_1 (by decide) (by decide) rfl q2246 rfl ?_)
              have k2247 : H1859 cu 10 = H cu 10 := (f1864 cu 10 _ gcu rfl)
              refine wp_of e104 c104_43 (xg_I (pc' := 46) lf_0_96 w1863 gcu sh_27 (by decide) (by decide) ty_27_10 rfl rfl (fun b2248 b2249 => ?_))
              refine wp_of e104 c104_46 (rw_icmp_ge (p1 := 83) (p2 := 49) (by decide) rfl ⟨Int.le_trans (by decide) b2242.1, Int.le_trans b2242.2 (by decide)⟩ ⟨Int.le_trans (by decide) b2248, Int.le_trans b2249 (by decide)⟩ (fun c2250 => ?_) (fun c2250 => ?_))
              · refine wp_of e104 c104_83 (rw_aload_n (pc' := 84) (v := .ref r0) rfl rfl rfl ?_)
                refine wp_of e104 c104_84 (rw_iload (pc' := 86) (z := v2239) rfl rfl ?_)
                refine wp_of e104 c104_86 (xc_V (pc' := 89) (r := r0) (as := [vI v2239]) (st := []) (lm_0_99) rfl rfl (Nat.le_of_ble_eq_true rfl) w1863 g0 sh_1 (by decide) rfl (by decide) (s_51 w1863 g0 ⟨Int.le_trans (by decide) b2243.1, Int.le_trans b2243.2 (by decide)⟩) (fun R2251 T2252 H2253 p2254 => ?_))
                obtain ⟨e2255, w2257, f2258, z2259, e2256, b2260⟩ := p2254
                subst e2255
                subst e2256
                have f2261 := f1878.tr f2258 rfl
                show wp _ _ 104 89 [(6, vI v2238), (5, vI v2239), (4, vI 2), (0, .ref r0), (1, vI a1)] [vI z2259] _ H2253 _
                have h2262 : CEN T H2253 ce e d := (CEN_fr w1863 gce f2258 rfl a1872)
                exact wp_ireturn e104 c104_89 rfl ⟨rfl, w2257, f2261, z2259, rfl, ⟨b2260.1, b2260.2⟩, (h2262)⟩
              · refine wp_of e104 c104_49 (rw_aload_n (pc' := 50) (v := .ref r0) rfl rfl rfl ?_)
                have k2263 : H1859 r0 3 = H r0 3 := (f1864 r0 3 _ g0 rfl)
                have q2264 : H1859 r0 3 = (ce : Int) := k2263.trans qce
                refine wp_of e104 c104_50 (xg_K (pc' := 53) lf_0_30 w1863 g0 sh_1 (by decide) (by decide) rfl q2264 rfl ?_)
                refine wp_of e104 c104_53 (rw_aload_n (pc' := 54) (v := .ref r0) rfl rfl rfl ?_)
                refine wp_of e104 c104_54 (xg_K (pc' := 57) lf_0_51 w1863 g0 sh_1 (by decide) (by decide) rfl q2246 rfl ?_)
                refine wp_of e104 c104_57 (rw_iload (pc' := 59) (z := v2238) rfl rfl ?_)
                refine wp_of e104 c104_59 (rw_iload_n (pc' := 60) (z := a1) rfl rfl ?_)
                refine wp_of e104 c104_60 (xc_V (pc' := 63) (r := ce) (as := [.ref cu, vI v2238, vI a1]) (st := []) (lm_0_201) rfl rfl (Nat.le_of_ble_eq_true rfl) w1863 gce sh_12 (by decide) rfl (by decide) (s_103 w1863 gce gcu ⟨b2242.1, by omega⟩ ⟨i1.1, i1.2⟩) (fun R2265 T2266 H2267 p2268 => ?_))
                obtain ⟨e2269, e2271, z2272, e2270, b2273⟩ := p2268
                subst e2269
                subst e2270
                subst e2271
                show wp _ _ 104 63 [(6, vI v2238), (5, vI v2239), (4, vI 2), (0, .ref r0), (1, vI a1)] [vI z2272] _ H1859 _
                refine wp_of e104 c104_63 (rw_iload (pc' := 65) (z := 2) rfl rfl ?_)
                refine wp_of e104 c104_65 (rw_icmp_ne (p1 := 77) (p2 := 68) (by decide) rfl ⟨Int.le_trans (by decide) b2273.1, Int.le_trans b2273.2 (by decide)⟩ ⟨by decide, by decide⟩ (fun c2274 => ?_) (fun c2274 => ?_))
                · refine wp_of e104 c104_77 (rw_iinc (pc' := 80) (z := v2238) (L' := [(6, vI (v2238 + 1)), (5, vI v2239), (4, vI 2), (0, .ref r0), (1, vI a1)]) rfl rfl rfl rfl ?_)
                  refine wp_of e104 c104_80 (rw_goto (p1 := 37) (by decide) ?_)
                  exact wp_lc (ks := [6, 5, 4, 0, 1]) (wl_c rfl (wl_c rfl (wl_c rfl (wl_c rfl (wl_c rfl wl_n))))) rfl (by decide) (ih2237 _ (by omega) (v2238 + 1) v2239 ⟨by omega, by omega⟩ ⟨b2243.1, b2243.2⟩ rfl)
                · refine wp_of e104 c104_68 (rw_iload (pc' := 70) (z := v2239) rfl rfl ?_)
                  refine wp_of e104 c104_70 (rw_iconst (pc' := 71) rfl ?_)
                  refine wp_of e104 c104_71 (rw_iload (pc' := 73) (z := v2238) rfl rfl ?_)
                  refine wp_of e104 c104_73 (rw_ishl (pc' := 74) rfl ?_)
                  obtain ⟨v2275, e2276⟩ : ∃ x : Int, x = wq_shl 1 v2238 := ⟨_, rfl⟩
                  rw [← e2276]
                  have b2277 : 1 ≤ v2275 ∧ v2275 ≤ 64 := by
                    rw [e2276]
                    exact wq_shl1_6 ⟨by omega, by omega⟩
                  refine wp_of e104 c104_74 (rw_ior (pc' := 75) rfl ?_)
                  obtain ⟨v2278, e2279⟩ : ∃ x : Int, x = wq_or v2239 v2275 := ⟨_, rfl⟩
                  rw [← e2279]
                  have b2280 : 0 ≤ v2278 ∧ v2278 ≤ 16777215 := by
                    rw [e2279]
                    exact wq_or_24 ⟨by omega, by omega⟩ ⟨by omega, by omega⟩
                  refine wp_of e104 c104_75 (rw_istore (pc' := 77) (z := v2278) (L' := [(5, vI v2278), (6, vI v2238), (4, vI 2), (0, .ref r0), (1, vI a1)]) rfl rfl rfl ?_)
                  refine wp_of e104 c104_77 (rw_iinc (pc' := 80) (z := v2238) (L' := [(6, vI (v2238 + 1)), (5, vI v2278), (4, vI 2), (0, .ref r0), (1, vI a1)]) rfl rfl rfl rfl ?_)
                  refine wp_of e104 c104_80 (rw_goto (p1 := 37) (by decide) ?_)
                  exact wp_lc (ks := [6, 5, 4, 0, 1]) (wl_c rfl (wl_c rfl (wl_c rfl (wl_c rfl (wl_c rfl wl_n))))) rfl (by decide) (ih2237 _ (by omega) (v2238 + 1) v2278 ⟨by omega, by omega⟩ ⟨b2280.1, b2280.2⟩ rfl)
          exact wp_lc (ks := [6, 5, 4, 3, 0, 1, 2]) (wl_c rfl (wl_c rfl (wl_c rfl (wl_c rfl (wl_c rfl wl_n))))) rfl (by decide) (lp2235 _ 0 0 ⟨by decide, by decide⟩ ⟨by decide, by decide⟩ rfl)
      · exfalso
        omega
    · have f2281 := f0.tr f1864 rfl
      show wp _ _ 104 9 [(0, .ref r0), (1, vI a1), (2, vI a2)] [vI z1865] _ H1859 _
      refine wp_of e104 c104_9 (rw_istore_n (pc' := 10) (z := z1865) (L' := [(3, vI z1865), (0, .ref r0), (1, vI a1), (2, vI a2)]) rfl rfl rfl ?_)
      refine wp_of e104 c104_10 (rw_iload_n (pc' := 11) (z := z1865) rfl rfl ?_)
      refine wp_of e104 c104_11 (rw_if_eq (p1 := 20) (p2 := 14) (by decide) rfl ⟨Int.le_trans (by decide) b1866.1, Int.le_trans b1866.2 (by decide)⟩ (fun c2282 => ?_) (fun c2282 => ?_))
      · exfalso
        omega
      · refine wp_of e104 c104_14 (rw_aload_n (pc' := 15) (v := .ref r0) rfl rfl rfl ?_)
        refine wp_of e104 c104_15 (rw_iload_n (pc' := 16) (z := z1865) rfl rfl ?_)
        refine wp_of e104 c104_16 (xc_V (pc' := 19) (r := r0) (as := [vI z1865]) (st := []) (lm_0_70) rfl rfl (Nat.le_of_ble_eq_true rfl) w1863 g0 sh_1 (by decide) rfl (by decide) (s_12 w1863 g0 ⟨Int.le_trans (by decide) b1866.1, Int.le_trans b1866.2 (by decide)⟩) (fun R2283 T2284 H2285 p2286 => ?_))
        obtain ⟨e2287, w2289, f2290, z2291, e2288, b2292⟩ := p2286
        subst e2287
        subst e2288
        have f2293 := f2281.tr f2290 rfl
        show wp _ _ 104 19 [(3, vI z1865), (0, .ref r0), (1, vI a1), (2, vI a2)] [vI z2291] _ H2285 _
        have h2294 : CEN T H2285 ce e d := (CEN_fr w1863 gce f2290 rfl a1877)
        exact wp_ireturn e104 c104_19 rfl ⟨rfl, w2289, f2293, z2291, rfl, ⟨b2292.1, b2292.2⟩, (h2294)⟩
  · show wp _ _ 104 6 [(0, .ref r0), (1, vI a1), (2, vI a2)] [vI z1850, .ref r0] _ H _
    refine wp_of e104 c104_6 (xc_V (pc' := 9) (r := r0) (as := [vI z1850]) (st := []) (lm_0_198) rfl rfl (Nat.le_of_ble_eq_true rfl) hW g0 sh_1 (by decide) rfl (by decide) (u_102 (e := e) (d := d) (n := n) hW g0 ⟨b1851.1, b1851.2⟩ qcu gcu qwa gwa qce gce (by assumption) (by assumption) (by omega) (by omega) (by omega) hCU_cu hCEN_ce hHDR_ce) (fun R2295 T2296 H2297 p2298 => ?_))
    obtain ⟨e2299, w2301, f2302, z2303, e2300, b2304, p2305⟩ := p2298
    subst e2299
    subst e2300
    rcases p2305 with ⟨a2306, a2307, a2308, a2309, a2310, a2311, a2312⟩ | ⟨a2313, a2314, a2315⟩
    · exfalso
      omega
    · have f2316 := f0.tr f2302 rfl
      show wp _ _ 104 9 [(0, .ref r0), (1, vI a1), (2, vI a2)] [vI z2303] _ H2297 _
      refine wp_of e104 c104_9 (rw_istore_n (pc' := 10) (z := z2303) (L' := [(3, vI z2303), (0, .ref r0), (1, vI a1), (2, vI a2)]) rfl rfl rfl ?_)
      refine wp_of e104 c104_10 (rw_iload_n (pc' := 11) (z := z2303) rfl rfl ?_)
      refine wp_of e104 c104_11 (rw_if_eq (p1 := 20) (p2 := 14) (by decide) rfl ⟨Int.le_trans (by decide) b2304.1, Int.le_trans b2304.2 (by decide)⟩ (fun c2317 => ?_) (fun c2317 => ?_))
      · exfalso
        omega
      · refine wp_of e104 c104_14 (rw_aload_n (pc' := 15) (v := .ref r0) rfl rfl rfl ?_)
        refine wp_of e104 c104_15 (rw_iload_n (pc' := 16) (z := z2303) rfl rfl ?_)
        refine wp_of e104 c104_16 (xc_V (pc' := 19) (r := r0) (as := [vI z2303]) (st := []) (lm_0_70) rfl rfl (Nat.le_of_ble_eq_true rfl) w2301 g0 sh_1 (by decide) rfl (by decide) (s_12 w2301 g0 ⟨Int.le_trans (by decide) b2304.1, Int.le_trans b2304.2 (by decide)⟩) (fun R2318 T2319 H2320 p2321 => ?_))
        obtain ⟨e2322, w2324, f2325, z2326, e2323, b2327⟩ := p2321
        subst e2322
        subst e2323
        have f2328 := f2316.tr f2325 rfl
        show wp _ _ 104 19 [(3, vI z2303), (0, .ref r0), (1, vI a1), (2, vI a2)] [vI z2326] _ H2320 _
        have h2329 : CEN T H2320 ce e d := (CEN_fr w2301 gce f2325 rfl a2315)
        exact wp_ireturn e104 c104_19 rfl ⟨rfl, w2324, f2328, z2326, rfl, ⟨b2327.1, b2327.2⟩, (h2329)⟩
/-! StrikeAwake.chance(II)I  -/
abbrev uq_105 (r0 : Nat) (a1 : Int) (a2 : Int) (cu : Nat) (wa : Nat) (ce : Nat) (e : xD) (d : xD) (n : Int) (T : wq_T) (H : wq_H) : Option Value → wq_T → wq_H → Prop := fun r T' H' => T = T' ∧ WT T H' ∧ wfr [(12, 5), (12, 6), (12, 7), (12, 8), (12, 9), (1, 10), (6, 5), (8, 999), (10, 999), (15, 999), (9, 999), (18, 999), (19, 999), (7, 999), (11, 999), (17, 999), (13, 999)] T H H' ∧ ∃ z : Int, some (vI z) = r ∧ ((-2147483648) ≤ z ∧ z ≤ 2147483647) ∧ ((CEN T H' ce e d))
set_option maxHeartbeats 4000000 in
theorem u_105 {kt : Nat → Option mc_E} {T : wq_T} {H : wq_H} {r0 : Nat} {a1 : Int} {a2 : Int} {cu : Nat} {wa : Nat} {ce : Nat} {e : xD} {d : xD} {n : Int} (hW : WT T H) (g0 : T.2.2.2 r0 = some 1) (i1 : (-2147483648) ≤ a1 ∧ a1 ≤ 2147483647) (i2 : (-2147483648) ≤ a2 ∧ a2 ≤ 2147483647) (qcu : H r0 6 = (cu : Int)) (gcu : T.2.2.2 cu = some 27) (qwa : H r0 2 = (wa : Int)) (gwa : T.2.2.2 wa = some 6) (qce : H r0 3 = (ce : Int)) (gce : T.2.2.2 ce = some 12) (p0 : ∀ i, i ≠ 13 → e i = d i) (p1 : XW d) (p2 : e 0 3 = d 0 3) (p3 : e 0 0 = d 0 0) (p4 : H r0 8 = 0 ∨ n = xlots d) (p5 : H r0 8 ≠ 0 ∨ (d 0 3 = 0 ∧ d 0 0 = 0)) (hCU_cu : CU T H cu e d n) (hCEN_ce : CEN T H ce e d) (hHDR_ce : HDR T H ce ) : wpc kt 7 105 [.ref r0, vI a1, vI a2] T H (uq_105 r0 a1 a2 cu wa ce e d n T H) := by
  refine wp_enter e105 (Nat.le_of_ble_eq_true rfl) rfl ?_
  have f0 : wfr [(12, 5), (12, 6), (12, 7), (12, 8), (12, 9), (1, 10), (6, 5), (8, 999), (10, 999), (15, 999), (9, 999), (18, 999), (19, 999), (7, 999), (11, 999), (17, 999), (13, 999)] T H H := wfr.rf
  show wp _ _ 105 0 [(0, .ref r0), (1, vI a1), (2, vI a2)] [] _ H _
  have u1213 := CU_k hCU_cu
  have b1214 : 0 ≤ H r0 8 ∧ H r0 8 ≤ 1 := hW.box g0 (n := 13) rfl (by decide) rfl
  have _c7 : d 0 0 ≤ 24 := p1.2.1.2.1
  refine wp_of e105 c105_0 (rw_aload_n (pc' := 1) (v := .ref r0) rfl rfl rfl ?_)
  refine wp_of e105 c105_1 (rw_aload_n (pc' := 2) (v := .ref r0) rfl rfl rfl ?_)
  refine wp_of e105 c105_2 (rw_iload_n (pc' := 3) (z := a1) rfl rfl ?_)
  refine wp_of e105 c105_3 (xc_V (pc' := 6) (r := r0) (as := [vI a1]) (st := [.ref r0]) (lm_0_105) rfl rfl (Nat.le_of_ble_eq_true rfl) hW g0 sh_1 (by decide) rfl (by decide) (u_55  hW g0 ⟨i1.1, i1.2⟩ qcu gcu) (fun R1215 T1216 H1217 p1218 => ?_))
  obtain ⟨e1219, e1221, z1222, e1220, b1223, p1224⟩ := p1218
  subst e1219
  subst e1220
  subst e1221
  rcases p1224 with ⟨a1225, a1226⟩ | ⟨a1227, a1228⟩
  · show wp _ _ 105 6 [(0, .ref r0), (1, vI a1), (2, vI a2)] [vI z1222, .ref r0] _ H _
    refine wp_of e105 c105_6 (rw_if_eq (p1 := 21) (p2 := 9) (by decide) rfl ⟨Int.le_trans (by decide) b1223.1, Int.le_trans b1223.2 (by decide)⟩ (fun c1229 => ?_) (fun c1229 => ?_))
    · exfalso
      omega
    · refine wp_of e105 c105_9 (rw_aload_n (pc' := 10) (v := .ref r0) rfl rfl rfl ?_)
      refine wp_of e105 c105_10 (rw_iload_n (pc' := 11) (z := a2) rfl rfl ?_)
      refine wp_of e105 c105_11 (xc_V (pc' := 14) (r := r0) (as := [vI a2]) (st := [.ref r0]) (lm_0_132) rfl rfl (Nat.le_of_ble_eq_true rfl) hW g0 sh_1 (by decide) rfl (by decide) (u_60  hW g0 ⟨i2.1, i2.2⟩ qcu gcu) (fun R1230 T1231 H1232 p1233 => ?_))
      obtain ⟨e1234, e1236, z1237, e1235, b1238, p1239⟩ := p1233
      subst e1234
      subst e1235
      subst e1236
      rcases p1239 with ⟨a1240, a1241⟩ | ⟨a1242, a1243⟩
      · show wp _ _ 105 14 [(0, .ref r0), (1, vI a1), (2, vI a2)] [vI z1237, .ref r0] _ H _
        refine wp_of e105 c105_14 (rw_if_eq (p1 := 21) (p2 := 17) (by decide) rfl ⟨Int.le_trans (by decide) b1238.1, Int.le_trans b1238.2 (by decide)⟩ (fun c1244 => ?_) (fun c1244 => ?_))
        · exfalso
          omega
        · refine wp_of e105 c105_17 (rw_iconst (pc' := 18) rfl ?_)
          refine wp_of e105 c105_18 (rw_goto (p1 := 22) (by decide) ?_)
          refine wp_of e105 c105_22 (xc_V (pc' := 25) (r := r0) (as := [vI 1]) (st := []) (lm_0_198) rfl rfl (Nat.le_of_ble_eq_true rfl) hW g0 sh_1 (by decide) rfl (by decide) (u_102 (e := e) (d := d) (n := n) hW g0 ⟨by decide, by decide⟩ qcu gcu qwa gwa qce gce (by assumption) (by assumption) (by omega) (by omega) (by omega) hCU_cu hCEN_ce hHDR_ce) (fun R1245 T1246 H1247 p1248 => ?_))
          obtain ⟨e1249, w1251, f1252, z1253, e1250, b1254, p1255⟩ := p1248
          subst e1249
          subst e1250
          rcases p1255 with ⟨a1256, a1257, a1258, a1259, a1260, a1261, a1262⟩ | ⟨a1263, a1264, a1265⟩
          · have f1266 := f0.tr f1252 rfl
            show wp _ _ 105 25 [(0, .ref r0), (1, vI a1), (2, vI a2)] [vI z1253] _ H1247 _
            refine wp_of e105 c105_25 (rw_istore_n (pc' := 26) (z := z1253) (L' := [(3, vI z1253), (0, .ref r0), (1, vI a1), (2, vI a2)]) rfl rfl rfl ?_)
            refine wp_of e105 c105_26 (rw_iload_n (pc' := 27) (z := z1253) rfl rfl ?_)
            refine wp_of e105 c105_27 (rw_if_eq (p1 := 36) (p2 := 30) (by decide) rfl ⟨Int.le_trans (by decide) b1254.1, Int.le_trans b1254.2 (by decide)⟩ (fun c1267 => ?_) (fun c1267 => ?_))
            · refine wp_of e105 c105_36 (rw_aload_n (pc' := 37) (v := .ref r0) rfl rfl rfl ?_)
              refine wp_of e105 c105_37 (rw_aload_n (pc' := 38) (v := .ref r0) rfl rfl rfl ?_)
              have k1268 : H1247 r0 3 = H r0 3 := (f1252 r0 3 _ g0 rfl)
              have q1269 : H1247 r0 3 = (ce : Int) := k1268.trans qce
              refine wp_of e105 c105_38 (xg_K (pc' := 41) lf_0_30 w1251 g0 sh_1 (by decide) (by decide) rfl q1269 rfl ?_)
              refine wp_of e105 c105_41 (rw_aload_n (pc' := 42) (v := .ref r0) rfl rfl rfl ?_)
              have k1270 : H1247 r0 6 = H r0 6 := (f1252 r0 6 _ g0 rfl)
              have q1271 : H1247 r0 6 = (cu : Int) := k1270.trans qcu
              refine wp_of e105 c105_42 (xg_K (pc' := 45) lf_0_51 w1251 g0 sh_1 (by decide) (by decide) rfl q1271 rfl ?_)
              refine wp_of e105 c105_45 (rw_iload_n (pc' := 46) (z := a1) rfl rfl ?_)
              refine wp_of e105 c105_46 (rw_iload_n (pc' := 47) (z := a2) rfl rfl ?_)
              refine wp_of e105 c105_47 (xc_V (pc' := 50) (r := ce) (as := [.ref cu, vI a1, vI a2]) (st := [.ref r0]) (lm_0_204) rfl rfl (Nat.le_of_ble_eq_true rfl) w1251 gce sh_12 (by decide) rfl (by decide) (s_106 w1251 gce gcu ⟨by omega, by omega⟩ ⟨i2.1, i2.2⟩) (fun R1272 T1273 H1274 p1275 => ?_))
              obtain ⟨e1276, e1278, z1279, e1277, b1280⟩ := p1275
              subst e1276
              subst e1277
              subst e1278
              show wp _ _ 105 50 [(3, vI z1253), (0, .ref r0), (1, vI a1), (2, vI a2)] [vI z1279, .ref r0] _ H1247 _
              refine wp_of e105 c105_50 (xc_V (pc' := 53) (r := r0) (as := [vI z1279]) (st := []) (lm_0_99) rfl rfl (Nat.le_of_ble_eq_true rfl) w1251 g0 sh_1 (by decide) rfl (by decide) (s_51 w1251 g0 ⟨b1280.1, b1280.2⟩) (fun R1281 T1282 H1283 p1284 => ?_))
              obtain ⟨e1285, w1287, f1288, z1289, e1286, b1290⟩ := p1284
              subst e1285
              subst e1286
              have f1291 := f1266.tr f1288 rfl
              show wp _ _ 105 53 [(3, vI z1253), (0, .ref r0), (1, vI a1), (2, vI a2)] [vI z1289] _ H1283 _
              have h1292 : CEN T H1283 ce e d := (CEN_fr w1251 gce f1288 rfl a1260)
              exact wp_ireturn e105 c105_53 rfl ⟨rfl, w1287, f1291, z1289, rfl, ⟨b1290.1, b1290.2⟩, (h1292)⟩
            · exfalso
              omega
          · have f1293 := f0.tr f1252 rfl
            show wp _ _ 105 25 [(0, .ref r0), (1, vI a1), (2, vI a2)] [vI z1253] _ H1247 _
            refine wp_of e105 c105_25 (rw_istore_n (pc' := 26) (z := z1253) (L' := [(3, vI z1253), (0, .ref r0), (1, vI a1), (2, vI a2)]) rfl rfl rfl ?_)
            refine wp_of e105 c105_26 (rw_iload_n (pc' := 27) (z := z1253) rfl rfl ?_)
            refine wp_of e105 c105_27 (rw_if_eq (p1 := 36) (p2 := 30) (by decide) rfl ⟨Int.le_trans (by decide) b1254.1, Int.le_trans b1254.2 (by decide)⟩ (fun c1294 => ?_) (fun c1294 => ?_))
            · exfalso
              omega
            · refine wp_of e105 c105_30 (rw_aload_n (pc' := 31) (v := .ref r0) rfl rfl rfl ?_)
              refine wp_of e105 c105_31 (rw_iload_n (pc' := 32) (z := z1253) rfl rfl ?_)
              refine wp_of e105 c105_32 (xc_V (pc' := 35) (r := r0) (as := [vI z1253]) (st := []) (lm_0_70) rfl rfl (Nat.le_of_ble_eq_true rfl) w1251 g0 sh_1 (by decide) rfl (by decide) (s_12 w1251 g0 ⟨Int.le_trans (by decide) b1254.1, Int.le_trans b1254.2 (by decide)⟩) (fun R1295 T1296 H1297 p1298 => ?_))
              obtain ⟨e1299, w1301, f1302, z1303, e1300, b1304⟩ := p1298
              subst e1299
              subst e1300
              have f1305 := f1293.tr f1302 rfl
              show wp _ _ 105 35 [(3, vI z1253), (0, .ref r0), (1, vI a1), (2, vI a2)] [vI z1303] _ H1297 _
              have h1306 : CEN T H1297 ce e d := (CEN_fr w1251 gce f1302 rfl a1265)
              exact wp_ireturn e105 c105_35 rfl ⟨rfl, w1301, f1305, z1303, rfl, ⟨b1304.1, b1304.2⟩, (h1306)⟩
      · show wp _ _ 105 14 [(0, .ref r0), (1, vI a1), (2, vI a2)] [vI z1237, .ref r0] _ H _
        refine wp_of e105 c105_14 (rw_if_eq (p1 := 21) (p2 := 17) (by decide) rfl ⟨Int.le_trans (by decide) b1238.1, Int.le_trans b1238.2 (by decide)⟩ (fun c1307 => ?_) (fun c1307 => ?_))
        · refine wp_of e105 c105_21 (rw_iconst (pc' := 22) rfl ?_)
          refine wp_of e105 c105_22 (xc_V (pc' := 25) (r := r0) (as := [vI 0]) (st := []) (lm_0_198) rfl rfl (Nat.le_of_ble_eq_true rfl) hW g0 sh_1 (by decide) rfl (by decide) (u_102 (e := e) (d := d) (n := n) hW g0 ⟨by decide, by decide⟩ qcu gcu qwa gwa qce gce (by assumption) (by assumption) (by omega) (by omega) (by omega) hCU_cu hCEN_ce hHDR_ce) (fun R1308 T1309 H1310 p1311 => ?_))
          obtain ⟨e1312, w1314, f1315, z1316, e1313, b1317, p1318⟩ := p1311
          subst e1312
          subst e1313
          rcases p1318 with ⟨a1319, a1320, a1321, a1322, a1323, a1324, a1325⟩ | ⟨a1326, a1327, a1328⟩
          · exfalso
            omega
          · have f1329 := f0.tr f1315 rfl
            show wp _ _ 105 25 [(0, .ref r0), (1, vI a1), (2, vI a2)] [vI z1316] _ H1310 _
            refine wp_of e105 c105_25 (rw_istore_n (pc' := 26) (z := z1316) (L' := [(3, vI z1316), (0, .ref r0), (1, vI a1), (2, vI a2)]) rfl rfl rfl ?_)
            refine wp_of e105 c105_26 (rw_iload_n (pc' := 27) (z := z1316) rfl rfl ?_)
            refine wp_of e105 c105_27 (rw_if_eq (p1 := 36) (p2 := 30) (by decide) rfl ⟨Int.le_trans (by decide) b1317.1, Int.le_trans b1317.2 (by decide)⟩ (fun c1330 => ?_) (fun c1330 => ?_))
            · exfalso
              omega
            · refine wp_of e105 c105_30 (rw_aload_n (pc' := 31) (v := .ref r0) rfl rfl rfl ?_)
              refine wp_of e105 c105_31 (rw_iload_n (pc' := 32) (z := z1316) rfl rfl ?_)
              refine wp_of e105 c105_32 (xc_V (pc' := 35) (r := r0) (as := [vI z1316]) (st := []) (lm_0_70) rfl rfl (Nat.le_of_ble_eq_true rfl) w1314 g0 sh_1 (by decide) rfl (by decide) (s_12 w1314 g0 ⟨Int.le_trans (by decide) b1317.1, Int.le_trans b1317.2 (by decide)⟩) (fun R1331 T1332 H1333 p1334 => ?_))
              obtain ⟨e1335, w1337, f1338, z1339, e1336, b1340⟩ := p1334
              subst e1335
              subst e1336
              have f1341 := f1329.tr f1338 rfl
              show wp _ _ 105 35 [(3, vI z1316), (0, .ref r0), (1, vI a1), (2, vI a2)] [vI z1339] _ H1333 _
              have h1342 : CEN T H1333 ce e d := (CEN_fr w1314 gce f1338 rfl a1328)
              exact wp_ireturn e105 c105_35 rfl ⟨rfl, w1337, f1341, z1339, rfl, ⟨b1340.1, b1340.2⟩, (h1342)⟩
        · exfalso
          omega
  · show wp _ _ 105 6 [(0, .ref r0), (1, vI a1), (2, vI a2)] [vI z1222, .ref r0] _ H _
    refine wp_of e105 c105_6 (rw_if_eq (p1 := 21) (p2 := 9) (by decide) rfl ⟨Int.le_trans (by decide) b1223.1, Int.le_trans b1223.2 (by decide)⟩ (fun c1343 => ?_) (fun c1343 => ?_))
    · refine wp_of e105 c105_21 (rw_iconst (pc' := 22) rfl ?_)
      refine wp_of e105 c105_22 (xc_V (pc' := 25) (r := r0) (as := [vI 0]) (st := []) (lm_0_198) rfl rfl (Nat.le_of_ble_eq_true rfl) hW g0 sh_1 (by decide) rfl (by decide) (u_102 (e := e) (d := d) (n := n) hW g0 ⟨by decide, by decide⟩ qcu gcu qwa gwa qce gce (by assumption) (by assumption) (by omega) (by omega) (by omega) hCU_cu hCEN_ce hHDR_ce) (fun R1344 T1345 H1346 p1347 => ?_))
      obtain ⟨e1348, w1350, f1351, z1352, e1349, b1353, p1354⟩ := p1347
      subst e1348
      subst e1349
      rcases p1354 with ⟨a1355, a1356, a1357, a1358, a1359, a1360, a1361⟩ | ⟨a1362, a1363, a1364⟩
      · exfalso
        omega
      · have f1365 := f0.tr f1351 rfl
        show wp _ _ 105 25 [(0, .ref r0), (1, vI a1), (2, vI a2)] [vI z1352] _ H1346 _
        refine wp_of e105 c105_25 (rw_istore_n (pc' := 26) (z := z1352) (L' := [(3, vI z1352), (0, .ref r0), (1, vI a1), (2, vI a2)]) rfl rfl rfl ?_)
        refine wp_of e105 c105_26 (rw_iload_n (pc' := 27) (z := z1352) rfl rfl ?_)
        refine wp_of e105 c105_27 (rw_if_eq (p1 := 36) (p2 := 30) (by decide) rfl ⟨Int.le_trans (by decide) b1353.1, Int.le_trans b1353.2 (by decide)⟩ (fun c1366 => ?_) (fun c1366 => ?_))
        · exfalso
          omega
        · refine wp_of e105 c105_30 (rw_aload_n (pc' := 31) (v := .ref r0) rfl rfl rfl ?_)
          refine wp_of e105 c105_31 (rw_iload_n (pc' := 32) (z := z1352) rfl rfl ?_)
          refine wp_of e105 c105_32 (xc_V (pc' := 35) (r := r0) (as := [vI z1352]) (st := []) (lm_0_70) rfl rfl (Nat.le_of_ble_eq_true rfl) w1350 g0 sh_1 (by decide) rfl (by decide) (s_12 w1350 g0 ⟨Int.le_trans (by decide) b1353.1, Int.le_trans b1353.2 (by decide)⟩) (fun R1367 T1368 H1369 p1370 => ?_))
          obtain ⟨e1371, w1373, f1374, z1375, e1372, b1376⟩ := p1370
          subst e1371
          subst e1372
          have f1377 := f1365.tr f1374 rfl
          show wp _ _ 105 35 [(3, vI z1352), (0, .ref r0), (1, vI a1), (2, vI a2)] [vI z1375] _ H1369 _
          have h1378 : CEN T H1369 ce e d := (CEN_fr w1350 gce f1374 rfl a1364)
          exact wp_ireturn e105 c105_35 rfl ⟨rfl, w1373, f1377, z1375, rfl, ⟨b1376.1, b1376.2⟩, (h1378)⟩
    · exfalso
      omega
/-! StrikeAwake.likeliest(I)I  -/
abbrev uq_107 (r0 : Nat) (a1 : Int) (cu : Nat) (wa : Nat) (ce : Nat) (e : xD) (d : xD) (n : Int) (T : wq_T) (H : wq_H) : Option Value → wq_T → wq_H → Prop := fun r T' H' => T = T' ∧ WT T H' ∧ wfr [(12, 5), (12, 6), (12, 7), (12, 8), (12, 9), (1, 10), (6, 5), (8, 999), (10, 999), (15, 999), (9, 999), (18, 999), (19, 999), (7, 999), (11, 999), (17, 999), (13, 999)] T H H' ∧ ∃ z : Int, some (vI z) = r ∧ ((-2147483648) ≤ z ∧ z ≤ 2147483647) ∧ ((CEN T H' ce e d))
set_option maxHeartbeats 4000000 in
theorem u_107 {kt : Nat → Option mc_E} {T : wq_T} {H : wq_H} {r0 : Nat} {a1 : Int} {cu : Nat} {wa : Nat} {ce : Nat} {e : xD} {d : xD} {n : Int} (hW : WT T H) (g0 : T.2.2.2 r0 = some 1) (i1 : (-2147483648) ≤ a1 ∧ a1 ≤ 2147483647) (qcu : H r0 6 = (cu : Int)) (gcu : T.2.2.2 cu = some 27) (qwa : H r0 2 = (wa : Int)) (gwa : T.2.2.2 wa = some 6) (qce : H r0 3 = (ce : Int)) (gce : T.2.2.2 ce = some 12) (p0 : ∀ i, i ≠ 13 → e i = d i) (p1 : XW d) (p2 : e 0 3 = d 0 3) (p3 : e 0 0 = d 0 0) (p4 : H r0 8 = 0 ∨ n = xlots d) (p5 : H r0 8 ≠ 0 ∨ (d 0 3 = 0 ∧ d 0 0 = 0)) (hCU_cu : CU T H cu e d n) (hCEN_ce : CEN T H ce e d) (hHDR_ce : HDR T H ce ) : wpc kt 7 107 [.ref r0, vI a1] T H (uq_107 r0 a1 cu wa ce e d n T H) := by
  refine wp_enter e107 (Nat.le_of_ble_eq_true rfl) rfl ?_
  have f0 : wfr [(12, 5), (12, 6), (12, 7), (12, 8), (12, 9), (1, 10), (6, 5), (8, 999), (10, 999), (15, 999), (9, 999), (18, 999), (19, 999), (7, 999), (11, 999), (17, 999), (13, 999)] T H H := wfr.rf
  show wp _ _ 107 0 [(0, .ref r0), (1, vI a1)] [] _ H _
  have u1139 := CU_k hCU_cu
  have b1140 : 0 ≤ H r0 8 ∧ H r0 8 ≤ 1 := hW.box g0 (n := 13) rfl (by decide) rfl
  have _c7 : d 0 0 ≤ 24 := p1.2.1.2.1
  refine wp_of e107 c107_0 (rw_aload_n (pc' := 1) (v := .ref r0) rfl rfl rfl ?_)
  refine wp_of e107 c107_1 (rw_aload_n (pc' := 2) (v := .ref r0) rfl rfl rfl ?_)
  refine wp_of e107 c107_2 (rw_iload_n (pc' := 3) (z := a1) rfl rfl ?_)
  refine wp_of e107 c107_3 (xc_V (pc' := 6) (r := r0) (as := [vI a1]) (st := [.ref r0]) (lm_0_105) rfl rfl (Nat.le_of_ble_eq_true rfl) hW g0 sh_1 (by decide) rfl (by decide) (u_55  hW g0 ⟨i1.1, i1.2⟩ qcu gcu) (fun R1141 T1142 H1143 p1144 => ?_))
  obtain ⟨e1145, e1147, z1148, e1146, b1149, p1150⟩ := p1144
  subst e1145
  subst e1146
  subst e1147
  rcases p1150 with ⟨a1151, a1152⟩ | ⟨a1153, a1154⟩
  · show wp _ _ 107 6 [(0, .ref r0), (1, vI a1)] [vI z1148, .ref r0] _ H _
    refine wp_of e107 c107_6 (xc_V (pc' := 9) (r := r0) (as := [vI z1148]) (st := []) (lm_0_198) rfl rfl (Nat.le_of_ble_eq_true rfl) hW g0 sh_1 (by decide) rfl (by decide) (u_102 (e := e) (d := d) (n := n) hW g0 ⟨b1149.1, b1149.2⟩ qcu gcu qwa gwa qce gce (by assumption) (by assumption) (by omega) (by omega) (by omega) hCU_cu hCEN_ce hHDR_ce) (fun R1155 T1156 H1157 p1158 => ?_))
    obtain ⟨e1159, w1161, f1162, z1163, e1160, b1164, p1165⟩ := p1158
    subst e1159
    subst e1160
    rcases p1165 with ⟨a1166, a1167, a1168, a1169, a1170, a1171, a1172⟩ | ⟨a1173, a1174, a1175⟩
    · have f1176 := f0.tr f1162 rfl
      show wp _ _ 107 9 [(0, .ref r0), (1, vI a1)] [vI z1163] _ H1157 _
      refine wp_of e107 c107_9 (rw_istore_n (pc' := 10) (z := z1163) (L' := [(2, vI z1163), (0, .ref r0), (1, vI a1)]) rfl rfl rfl ?_)
      refine wp_of e107 c107_10 (rw_iload_n (pc' := 11) (z := z1163) rfl rfl ?_)
      refine wp_of e107 c107_11 (rw_if_eq (p1 := 20) (p2 := 14) (by decide) rfl ⟨Int.le_trans (by decide) b1164.1, Int.le_trans b1164.2 (by decide)⟩ (fun c1177 => ?_) (fun c1177 => ?_))
      · refine wp_of e107 c107_20 (rw_aload_n (pc' := 21) (v := .ref r0) rfl rfl rfl ?_)
        refine wp_of e107 c107_21 (rw_aload_n (pc' := 22) (v := .ref r0) rfl rfl rfl ?_)
        have k1178 : H1157 r0 6 = H r0 6 := (f1162 r0 6 _ g0 rfl)
        have q1179 : H1157 r0 6 = (cu : Int) := k1178.trans qcu
        refine wp_of e107 c107_22 (xg_K (pc' := 25) lf_0_51 w1161 g0 sh_1 (by decide) (by decide) rfl q1179 rfl ?_)
        refine wp_of e107 c107_25 (rw_aload_n (pc' := 26) (v := .ref r0) rfl rfl rfl ?_)
        have k1180 : H1157 r0 3 = H r0 3 := (f1162 r0 3 _ g0 rfl)
        have q1181 : H1157 r0 3 = (ce : Int) := k1180.trans qce
        refine wp_of e107 c107_26 (xg_K (pc' := 29) lf_0_30 w1161 g0 sh_1 (by decide) (by decide) rfl q1181 rfl ?_)
        refine wp_of e107 c107_29 (xg_I (pc' := 32) lf_0_207 w1161 gce sh_12 (by decide) (by decide) ty_12_7 rfl rfl (fun b1182 b1183 => ?_))
        refine wp_of e107 c107_32 (rw_iload_n (pc' := 33) (z := a1) rfl rfl ?_)
        refine wp_of e107 c107_33 (xc_V (pc' := 36) (r := cu) (as := [vI (H1157 ce 7), vI a1]) (st := [.ref r0]) (lm_0_183) rfl rfl (Nat.le_of_ble_eq_true rfl) w1161 gcu sh_27 (by decide) rfl (by decide) (s_96 w1161 gcu ⟨b1182, Int.le_trans b1183 (by decide)⟩ ⟨by omega, by omega⟩) (fun R1184 T1185 H1186 p1187 => ?_))
        obtain ⟨e1188, e1190, z1191, e1189, b1192⟩ := p1187
        subst e1188
        subst e1189
        subst e1190
        show wp _ _ 107 36 [(2, vI z1163), (0, .ref r0), (1, vI a1)] [vI z1191, .ref r0] _ H1157 _
        refine wp_of e107 c107_36 (xc_V (pc' := 39) (r := r0) (as := [vI z1191]) (st := []) (lm_0_99) rfl rfl (Nat.le_of_ble_eq_true rfl) w1161 g0 sh_1 (by decide) rfl (by decide) (s_51 w1161 g0 ⟨Int.le_trans (by decide) b1192.1, Int.le_trans b1192.2 (by decide)⟩) (fun R1193 T1194 H1195 p1196 => ?_))
        obtain ⟨e1197, w1199, f1200, z1201, e1198, b1202⟩ := p1196
        subst e1197
        subst e1198
        have f1203 := f1176.tr f1200 rfl
        show wp _ _ 107 39 [(2, vI z1163), (0, .ref r0), (1, vI a1)] [vI z1201] _ H1195 _
        have h1204 : CEN T H1195 ce e d := (CEN_fr w1161 gce f1200 rfl a1170)
        exact wp_ireturn e107 c107_39 rfl ⟨rfl, w1199, f1203, z1201, rfl, ⟨b1202.1, b1202.2⟩, (h1204)⟩
      · exfalso
        omega
    · have f1205 := f0.tr f1162 rfl
      show wp _ _ 107 9 [(0, .ref r0), (1, vI a1)] [vI z1163] _ H1157 _
      refine wp_of e107 c107_9 (rw_istore_n (pc' := 10) (z := z1163) (L' := [(2, vI z1163), (0, .ref r0), (1, vI a1)]) rfl rfl rfl ?_)
      refine wp_of e107 c107_10 (rw_iload_n (pc' := 11) (z := z1163) rfl rfl ?_)
      refine wp_of e107 c107_11 (rw_if_eq (p1 := 20) (p2 := 14) (by decide) rfl ⟨Int.le_trans (by decide) b1164.1, Int.le_trans b1164.2 (by decide)⟩ (fun c1206 => ?_) (fun c1206 => ?_))
      · exfalso
        omega
      · refine wp_of e107 c107_14 (rw_aload_n (pc' := 15) (v := .ref r0) rfl rfl rfl ?_)
        refine wp_of e107 c107_15 (rw_iload_n (pc' := 16) (z := z1163) rfl rfl ?_)
        refine wp_of e107 c107_16 (xc_V (pc' := 19) (r := r0) (as := [vI z1163]) (st := []) (lm_0_70) rfl rfl (Nat.le_of_ble_eq_true rfl) w1161 g0 sh_1 (by decide) rfl (by decide) (s_12 w1161 g0 ⟨Int.le_trans (by decide) b1164.1, Int.le_trans b1164.2 (by decide)⟩) (fun R1207 T1208 H1209 p1210 => ?_))
        obtain ⟨e1211, w1213, f1214, z1215, e1212, b1216⟩ := p1210
        subst e1211
        subst e1212
        have f1217 := f1205.tr f1214 rfl
        show wp _ _ 107 19 [(2, vI z1163), (0, .ref r0), (1, vI a1)] [vI z1215] _ H1209 _
        have h1218 : CEN T H1209 ce e d := (CEN_fr w1161 gce f1214 rfl a1175)
        exact wp_ireturn e107 c107_19 rfl ⟨rfl, w1213, f1217, z1215, rfl, ⟨b1216.1, b1216.2⟩, (h1218)⟩
  · show wp _ _ 107 6 [(0, .ref r0), (1, vI a1)] [vI z1148, .ref r0] _ H _
    refine wp_of e107 c107_6 (xc_V (pc' := 9) (r := r0) (as := [vI z1148]) (st := []) (lm_0_198) rfl rfl (Nat.le_of_ble_eq_true rfl) hW g0 sh_1 (by decide) rfl (by decide) (u_102 (e := e) (d := d) (n := n) hW g0 ⟨b1149.1, b1149.2⟩ qcu gcu qwa gwa qce gce (by assumption) (by assumption) (by omega) (by omega) (by omega) hCU_cu hCEN_ce hHDR_ce) (fun R1219 T1220 H1221 p1222 => ?_))
    obtain ⟨e1223, w1225, f1226, z1227, e1224, b1228, p1229⟩ := p1222
    subst e1223
    subst e1224
    rcases p1229 with ⟨a1230, a1231, a1232, a1233, a1234, a1235, a1236⟩ | ⟨a1237, a1238, a1239⟩
    · exfalso
      omega
    · have f1240 := f0.tr f1226 rfl
      show wp _ _ 107 9 [(0, .ref r0), (1, vI a1)] [vI z1227] _ H1221 _
      refine wp_of e107 c107_9 (rw_istore_n (pc' := 10) (z := z1227) (L' := [(2, vI z1227), (0, .ref r0), (1, vI a1)]) rfl rfl rfl ?_)
      refine wp_of e107 c107_10 (rw_iload_n (pc' := 11) (z := z1227) rfl rfl ?_)
      refine wp_of e107 c107_11 (rw_if_eq (p1 := 20) (p2 := 14) (by decide) rfl ⟨Int.le_trans (by decide) b1228.1, Int.le_trans b1228.2 (by decide)⟩ (fun c1241 => ?_) (fun c1241 => ?_))
      · exfalso
        omega
      · refine wp_of e107 c107_14 (rw_aload_n (pc' := 15) (v := .ref r0) rfl rfl rfl ?_)
        refine wp_of e107 c107_15 (rw_iload_n (pc' := 16) (z := z1227) rfl rfl ?_)
        refine wp_of e107 c107_16 (xc_V (pc' := 19) (r := r0) (as := [vI z1227]) (st := []) (lm_0_70) rfl rfl (Nat.le_of_ble_eq_true rfl) w1225 g0 sh_1 (by decide) rfl (by decide) (s_12 w1225 g0 ⟨Int.le_trans (by decide) b1228.1, Int.le_trans b1228.2 (by decide)⟩) (fun R1242 T1243 H1244 p1245 => ?_))
        obtain ⟨e1246, w1248, f1249, z1250, e1247, b1251⟩ := p1245
        subst e1246
        subst e1247
        have f1252 := f1240.tr f1249 rfl
        show wp _ _ 107 19 [(2, vI z1227), (0, .ref r0), (1, vI a1)] [vI z1250] _ H1244 _
        have h1253 : CEN T H1244 ce e d := (CEN_fr w1225 gce f1249 rfl a1239)
        exact wp_ireturn e107 c107_19 rfl ⟨rfl, w1248, f1252, z1250, rfl, ⟨b1251.1, b1251.2⟩, (h1253)⟩
/-! StrikeAwake.greatest()J  -/
abbrev uq_108 (r0 : Nat) (cu : Nat) (wa : Nat) (ce : Nat) (e : xD) (d : xD) (n : Int) (T : wq_T) (H : wq_H) : Option Value → wq_T → wq_H → Prop := fun r T' H' => T = T' ∧ WT T H' ∧ wfr [(12, 5), (12, 6), (12, 7), (12, 8), (12, 9), (1, 10), (6, 5), (8, 999), (10, 999), (15, 999), (9, 999), (18, 999), (19, 999), (7, 999), (11, 999), (17, 999), (13, 999)] T H H' ∧ ∃ z : Int, some (vL z) = r ∧ ((-9223372036854775808) ≤ z ∧ z ≤ 9223372036854775807) ∧ ((CEN T H' ce e d))
set_option maxHeartbeats 4000000 in
theorem u_108 {kt : Nat → Option mc_E} {T : wq_T} {H : wq_H} {r0 : Nat} {cu : Nat} {wa : Nat} {ce : Nat} {e : xD} {d : xD} {n : Int} (hW : WT T H) (g0 : T.2.2.2 r0 = some 1) (qcu : H r0 6 = (cu : Int)) (gcu : T.2.2.2 cu = some 27) (qwa : H r0 2 = (wa : Int)) (gwa : T.2.2.2 wa = some 6) (qce : H r0 3 = (ce : Int)) (gce : T.2.2.2 ce = some 12) (p0 : ∀ i, i ≠ 13 → e i = d i) (p1 : XW d) (p2 : e 0 3 = d 0 3) (p3 : e 0 0 = d 0 0) (p4 : H r0 8 = 0 ∨ n = xlots d) (p5 : H r0 8 ≠ 0 ∨ (d 0 3 = 0 ∧ d 0 0 = 0)) (hCU_cu : CU T H cu e d n) (hCEN_ce : CEN T H ce e d) (hHDR_ce : HDR T H ce ) : wpc kt 7 108 [.ref r0] T H (uq_108 r0 cu wa ce e d n T H) := by
  refine wp_enter e108 (Nat.le_of_ble_eq_true rfl) rfl ?_
  have f0 : wfr [(12, 5), (12, 6), (12, 7), (12, 8), (12, 9), (1, 10), (6, 5), (8, 999), (10, 999), (15, 999), (9, 999), (18, 999), (19, 999), (7, 999), (11, 999), (17, 999), (13, 999)] T H H := wfr.rf
  show wp _ _ 108 0 [(0, .ref r0)] [] _ H _
  have u1048 := CU_k hCU_cu
  have b1049 : 0 ≤ H r0 8 ∧ H r0 8 ≤ 1 := hW.box g0 (n := 13) rfl (by decide) rfl
  have _c7 : d 0 0 ≤ 24 := p1.2.1.2.1
  refine wp_of e108 c108_0 (rw_aload_n (pc' := 1) (v := .ref r0) rfl rfl rfl ?_)
  refine wp_of e108 c108_1 (rw_aload_n (pc' := 2) (v := .ref r0) rfl rfl rfl ?_)
  refine wp_of e108 c108_2 (xg_I (pc' := 5) lf_0_58 hW g0 sh_1 (by decide) (by decide) ty_1_8 rfl rfl (fun b1050 b1051 => ?_))
  refine wp_of e108 c108_5 (xc_V (pc' := 8) (r := r0) (as := [vI (H r0 8)]) (st := []) (lm_0_198) rfl rfl (Nat.le_of_ble_eq_true rfl) hW g0 sh_1 (by decide) rfl (by decide) (u_102 (e := e) (d := d) (n := n) hW g0 ⟨b1050, b1051⟩ qcu gcu qwa gwa qce gce (by assumption) (by assumption) (by omega) (by omega) (by omega) hCU_cu hCEN_ce hHDR_ce) (fun R1052 T1053 H1054 p1055 => ?_))
  obtain ⟨e1056, w1058, f1059, z1060, e1057, b1061, p1062⟩ := p1055
  subst e1056
  subst e1057
  rcases p1062 with ⟨a1063, a1064, a1065, a1066, a1067, a1068, a1069⟩ | ⟨a1070, a1071, a1072⟩
  · have f1073 := f0.tr f1059 rfl
    show wp _ _ 108 8 [(0, .ref r0)] [vI z1060] _ H1054 _
    refine wp_of e108 c108_8 (rw_istore_n (pc' := 9) (z := z1060) (L' := [(1, vI z1060), (0, .ref r0)]) rfl rfl rfl ?_)
    refine wp_of e108 c108_9 (rw_iload_n (pc' := 10) (z := z1060) rfl rfl ?_)
    refine wp_of e108 c108_10 (rw_if_eq (p1 := 20) (p2 := 13) (by decide) rfl ⟨Int.le_trans (by decide) b1061.1, Int.le_trans b1061.2 (by decide)⟩ (fun c1074 => ?_) (fun c1074 => ?_))
    · refine wp_of e108 c108_20 (rw_aload_n (pc' := 21) (v := .ref r0) rfl rfl rfl ?_)
      refine wp_of e108 c108_21 (rw_iconst (pc' := 22) rfl ?_)
      refine wp_of e108 c108_22 (xp_I (pc' := 25) lf_0_102 w1058 g0 sh_1 (by decide) (by decide) ty_1_10 rfl rfl (by decide) (by decide) ⟨by decide, by decide⟩ rfl (fun H1075 e1076 w1077 => ?_))
      have f1078 := f1073.put' e1076 g0 rfl
      have k1079 : H1075 r0 10 = 0 := wq_u_s e1076
      refine wp_of e108 c108_25 (rw_aload_n (pc' := 26) (v := .ref r0) rfl rfl rfl ?_)
      have k1080 : H1075 r0 3 = H r0 3 := ((wq_u_j e1076 rfl).trans (f1059 r0 3 _ g0 rfl))
      have q1081 : H1075 r0 3 = (ce : Int) := k1080.trans qce
      refine wp_of e108 c108_26 (xg_K (pc' := 29) lf_0_30 w1077 g0 sh_1 (by decide) (by decide) rfl q1081 rfl ?_)
      refine wp_of e108 c108_29 (xg_L (pc' := 32) lf_0_210 w1077 gce sh_12 (by decide) (by decide) ty_12_8 rfl rfl (fun b1082 b1083 => ?_))
      have h1084 : CEN T H1075 ce e d := (CEN_fr w1058 gce ((wfr.rf (l := [(1, 10)])).put' e1076 g0 rfl) rfl a1067)
      exact wp_lreturn e108 c108_32 rfl ⟨rfl, w1077, f1078, H1075 ce 8, rfl, ⟨b1082, b1083⟩, (h1084)⟩
    · exfalso
      omega
  · have f1085 := f0.tr f1059 rfl
    show wp _ _ 108 8 [(0, .ref r0)] [vI z1060] _ H1054 _
    refine wp_of e108 c108_8 (rw_istore_n (pc' := 9) (z := z1060) (L' := [(1, vI z1060), (0, .ref r0)]) rfl rfl rfl ?_)
    refine wp_of e108 c108_9 (rw_iload_n (pc' := 10) (z := z1060) rfl rfl ?_)
    refine wp_of e108 c108_10 (rw_if_eq (p1 := 20) (p2 := 13) (by decide) rfl ⟨Int.le_trans (by decide) b1061.1, Int.le_trans b1061.2 (by decide)⟩ (fun c1086 => ?_) (fun c1086 => ?_))
    · exfalso
      omega
    · refine wp_of e108 c108_13 (rw_aload_n (pc' := 14) (v := .ref r0) rfl rfl rfl ?_)
      refine wp_of e108 c108_14 (rw_iload_n (pc' := 15) (z := z1060) rfl rfl ?_)
      refine wp_of e108 c108_15 (xc_V (pc' := 18) (r := r0) (as := [vI z1060]) (st := []) (lm_0_70) rfl rfl (Nat.le_of_ble_eq_true rfl) w1058 g0 sh_1 (by decide) rfl (by decide) (s_12 w1058 g0 ⟨Int.le_trans (by decide) b1061.1, Int.le_trans b1061.2 (by decide)⟩) (fun R1087 T1088 H1089 p1090 => ?_))
      obtain ⟨e1091, w1093, f1094, z1095, e1092, b1096⟩ := p1090
      subst e1091
      subst e1092
      have f1097 := f1085.tr f1094 rfl
      show wp _ _ 108 18 [(1, vI z1060), (0, .ref r0)] [vI z1095] _ H1089 _
      refine wp_of e108 c108_18 (rw_i2l (pc' := 19) rfl ⟨b1096.1, b1096.2⟩ ?_)
      have h1098 : CEN T H1089 ce e d := (CEN_fr w1058 gce f1094 rfl a1072)
      exact wp_lreturn e108 c108_19 rfl ⟨rfl, w1093, f1097, z1095, rfl, ⟨Int.le_trans (by decide) b1096.1, Int.le_trans b1096.2 (by decide)⟩, (h1098)⟩
/-! StrikeAwake.together(II)I  -/
abbrev uq_109 (r0 : Nat) (a1 : Int) (a2 : Int) (cu : Nat) (wa : Nat) (ce : Nat) (e : xD) (d : xD) (n : Int) (T : wq_T) (H : wq_H) : Option Value → wq_T → wq_H → Prop := fun r T' H' => T = T' ∧ WT T H' ∧ wfr [(12, 5), (12, 6), (12, 7), (12, 8), (12, 9), (1, 10), (6, 5), (8, 999), (10, 999), (15, 999), (9, 999), (18, 999), (19, 999), (7, 999), (11, 999), (17, 999), (13, 999)] T H H' ∧ ∃ z : Int, some (vI z) = r ∧ ((-2147483648) ≤ z ∧ z ≤ 2147483647) ∧ ((CEN T H' ce e d))
set_option maxHeartbeats 4000000 in
theorem u_109 {kt : Nat → Option mc_E} {T : wq_T} {H : wq_H} {r0 : Nat} {a1 : Int} {a2 : Int} {cu : Nat} {wa : Nat} {ce : Nat} {e : xD} {d : xD} {n : Int} (hW : WT T H) (g0 : T.2.2.2 r0 = some 1) (i1 : (-2147483648) ≤ a1 ∧ a1 ≤ 2147483647) (i2 : (-2147483648) ≤ a2 ∧ a2 ≤ 2147483647) (qcu : H r0 6 = (cu : Int)) (gcu : T.2.2.2 cu = some 27) (qwa : H r0 2 = (wa : Int)) (gwa : T.2.2.2 wa = some 6) (qce : H r0 3 = (ce : Int)) (gce : T.2.2.2 ce = some 12) (p0 : ∀ i, i ≠ 13 → e i = d i) (p1 : XW d) (p2 : e 0 3 = d 0 3) (p3 : e 0 0 = d 0 0) (p4 : H r0 8 = 0 ∨ n = xlots d) (p5 : H r0 8 ≠ 0 ∨ (d 0 3 = 0 ∧ d 0 0 = 0)) (hCU_cu : CU T H cu e d n) (hCEN_ce : CEN T H ce e d) (hHDR_ce : HDR T H ce ) : wpc kt 6 109 [.ref r0, vI a1, vI a2] T H (uq_109 r0 a1 a2 cu wa ce e d n T H) := by
  refine wp_enter e109 (Nat.le_of_ble_eq_true rfl) rfl ?_
  have f0 : wfr [(12, 5), (12, 6), (12, 7), (12, 8), (12, 9), (1, 10), (6, 5), (8, 999), (10, 999), (15, 999), (9, 999), (18, 999), (19, 999), (7, 999), (11, 999), (17, 999), (13, 999)] T H H := wfr.rf
  show wp _ _ 109 0 [(0, .ref r0), (1, vI a1), (2, vI a2)] [] _ H _
  have u1270 := CU_k hCU_cu
  have b1271 : 0 ≤ H r0 8 ∧ H r0 8 ≤ 1 := hW.box g0 (n := 13) rfl (by decide) rfl
  have _c7 : d 0 0 ≤ 24 := p1.2.1.2.1
  refine wp_of e109 c109_0 (rw_aload_n (pc' := 1) (v := .ref r0) rfl rfl rfl ?_)
  refine wp_of e109 c109_1 (rw_aload_n (pc' := 2) (v := .ref r0) rfl rfl rfl ?_)
  refine wp_of e109 c109_2 (rw_iload_n (pc' := 3) (z := a1) rfl rfl ?_)
  refine wp_of e109 c109_3 (xc_V (pc' := 6) (r := r0) (as := [vI a1]) (st := [.ref r0]) (lm_0_105) rfl rfl (Nat.le_of_ble_eq_true rfl) hW g0 sh_1 (by decide) rfl (by decide) (u_55  hW g0 ⟨i1.1, i1.2⟩ qcu gcu) (fun R1272 T1273 H1274 p1275 => ?_))
  obtain ⟨e1276, e1278, z1279, e1277, b1280, p1281⟩ := p1275
  subst e1276
  subst e1277
  subst e1278
  rcases p1281 with ⟨a1282, a1283⟩ | ⟨a1284, a1285⟩
  · show wp _ _ 109 6 [(0, .ref r0), (1, vI a1), (2, vI a2)] [vI z1279, .ref r0] _ H _
    refine wp_of e109 c109_6 (rw_if_eq (p1 := 26) (p2 := 9) (by decide) rfl ⟨Int.le_trans (by decide) b1280.1, Int.le_trans b1280.2 (by decide)⟩ (fun c1286 => ?_) (fun c1286 => ?_))
    · exfalso
      omega
    · refine wp_of e109 c109_9 (rw_aload_n (pc' := 10) (v := .ref r0) rfl rfl rfl ?_)
      refine wp_of e109 c109_10 (rw_iload_n (pc' := 11) (z := a2) rfl rfl ?_)
      refine wp_of e109 c109_11 (xc_V (pc' := 14) (r := r0) (as := [vI a2]) (st := [.ref r0]) (lm_0_105) rfl rfl (Nat.le_of_ble_eq_true rfl) hW g0 sh_1 (by decide) rfl (by decide) (u_55  hW g0 ⟨i2.1, i2.2⟩ qcu gcu) (fun R1287 T1288 H1289 p1290 => ?_))
      obtain ⟨e1291, e1293, z1294, e1292, b1295, p1296⟩ := p1290
      subst e1291
      subst e1292
      subst e1293
      rcases p1296 with ⟨a1297, a1298⟩ | ⟨a1299, a1300⟩
      · show wp _ _ 109 14 [(0, .ref r0), (1, vI a1), (2, vI a2)] [vI z1294, .ref r0] _ H _
        refine wp_of e109 c109_14 (rw_if_eq (p1 := 26) (p2 := 17) (by decide) rfl ⟨Int.le_trans (by decide) b1295.1, Int.le_trans b1295.2 (by decide)⟩ (fun c1301 => ?_) (fun c1301 => ?_))
        · exfalso
          omega
        · refine wp_of e109 c109_17 (rw_iload_n (pc' := 18) (z := a1) rfl rfl ?_)
          refine wp_of e109 c109_18 (rw_iload_n (pc' := 19) (z := a2) rfl rfl ?_)
          refine wp_of e109 c109_19 (rw_icmp_eq (p1 := 26) (p2 := 22) (by decide) rfl ⟨i1.1, i1.2⟩ ⟨i2.1, i2.2⟩ (fun c1302 => ?_) (fun c1302 => ?_))
          · refine wp_of e109 c109_26 (rw_iconst (pc' := 27) rfl ?_)
            refine wp_of e109 c109_27 (xc_V (pc' := 30) (r := r0) (as := [vI 0]) (st := []) (lm_0_174) rfl rfl (Nat.le_of_ble_eq_true rfl) hW g0 sh_1 (by decide) rfl (by decide) (u_83 (e := e) (d := d) (n := n) hW g0 ⟨by decide, by decide⟩ qcu gcu qwa gwa qce gce (by assumption) (by assumption) (by omega) (by omega) (by omega) hCU_cu hCEN_ce hHDR_ce) (fun R1303 T1304 H1305 p1306 => ?_))
            obtain ⟨e1307, w1309, f1310, z1311, e1308, b1312, p1313⟩ := p1306
            subst e1307
            subst e1308
            rcases p1313 with ⟨a1314, a1315, a1316, a1317, a1318, a1319⟩ | ⟨a1320, a1321, a1322⟩
            · exfalso
              omega
            · have f1323 := f0.tr f1310 rfl
              show wp _ _ 109 30 [(0, .ref r0), (1, vI a1), (2, vI a2)] [vI z1311] _ H1305 _
              refine wp_of e109 c109_30 (rw_istore_n (pc' := 31) (z := z1311) (L' := [(3, vI z1311), (0, .ref r0), (1, vI a1), (2, vI a2)]) rfl rfl rfl ?_)
              refine wp_of e109 c109_31 (rw_iload_n (pc' := 32) (z := z1311) rfl rfl ?_)
              refine wp_of e109 c109_32 (rw_if_eq (p1 := 41) (p2 := 35) (by decide) rfl ⟨Int.le_trans (by decide) b1312.1, Int.le_trans b1312.2 (by decide)⟩ (fun c1324 => ?_) (fun c1324 => ?_))
              · exfalso
                omega
              · refine wp_of e109 c109_35 (rw_aload_n (pc' := 36) (v := .ref r0) rfl rfl rfl ?_)
                refine wp_of e109 c109_36 (rw_iload_n (pc' := 37) (z := z1311) rfl rfl ?_)
                refine wp_of e109 c109_37 (xc_V (pc' := 40) (r := r0) (as := [vI z1311]) (st := []) (lm_0_70) rfl rfl (Nat.le_of_ble_eq_true rfl) w1309 g0 sh_1 (by decide) rfl (by decide) (s_12 w1309 g0 ⟨Int.le_trans (by decide) b1312.1, Int.le_trans b1312.2 (by decide)⟩) (fun R1325 T1326 H1327 p1328 => ?_))
                obtain ⟨e1329, w1331, f1332, z1333, e1330, b1334⟩ := p1328
                subst e1329
                subst e1330
                have f1335 := f1323.tr f1332 rfl
                show wp _ _ 109 40 [(3, vI z1311), (0, .ref r0), (1, vI a1), (2, vI a2)] [vI z1333] _ H1327 _
                have h1336 : CEN T H1327 ce e d := (CEN_fr w1309 gce f1332 rfl a1322)
                exact wp_ireturn e109 c109_40 rfl ⟨rfl, w1331, f1335, z1333, rfl, ⟨b1334.1, b1334.2⟩, (h1336)⟩
          · refine wp_of e109 c109_22 (rw_iconst (pc' := 23) rfl ?_)
            refine wp_of e109 c109_23 (rw_goto (p1 := 27) (by decide) ?_)
            refine wp_of e109 c109_27 (xc_V (pc' := 30) (r := r0) (as := [vI 1]) (st := []) (lm_0_174) rfl rfl (Nat.le_of_ble_eq_true rfl) hW g0 sh_1 (by decide) rfl (by decide) (u_83 (e := e) (d := d) (n := n) hW g0 ⟨by decide, by decide⟩ qcu gcu qwa gwa qce gce (by assumption) (by assumption) (by omega) (by omega) (by omega) hCU_cu hCEN_ce hHDR_ce) (fun R1337 T1338 H1339 p1340 => ?_))
            obtain ⟨e1341, w1343, f1344, z1345, e1342, b1346, p1347⟩ := p1340
            subst e1341
            subst e1342
            rcases p1347 with ⟨a1348, a1349, a1350, a1351, a1352, a1353⟩ | ⟨a1354, a1355, a1356⟩
            · have f1357 := f0.tr f1344 rfl
              show wp _ _ 109 30 [(0, .ref r0), (1, vI a1), (2, vI a2)] [vI z1345] _ H1339 _
              refine wp_of e109 c109_30 (rw_istore_n (pc' := 31) (z := z1345) (L' := [(3, vI z1345), (0, .ref r0), (1, vI a1), (2, vI a2)]) rfl rfl rfl ?_)
              refine wp_of e109 c109_31 (rw_iload_n (pc' := 32) (z := z1345) rfl rfl ?_)
              refine wp_of e109 c109_32 (rw_if_eq (p1 := 41) (p2 := 35) (by decide) rfl ⟨Int.le_trans (by decide) b1346.1, Int.le_trans b1346.2 (by decide)⟩ (fun c1358 => ?_) (fun c1358 => ?_))
              · refine wp_of e109 c109_41 (rw_aload_n (pc' := 42) (v := .ref r0) rfl rfl rfl ?_)
                refine wp_of e109 c109_42 (rw_aload_n (pc' := 43) (v := .ref r0) rfl rfl rfl ?_)
                have k1359 : H1339 r0 3 = H r0 3 := (f1344 r0 3 _ g0 rfl)
                have q1360 : H1339 r0 3 = (ce : Int) := k1359.trans qce
                refine wp_of e109 c109_43 (xg_K (pc' := 46) lf_0_30 w1343 g0 sh_1 (by decide) (by decide) rfl q1360 rfl ?_)
                refine wp_of e109 c109_46 (rw_aload_n (pc' := 47) (v := .ref r0) rfl rfl rfl ?_)
                have k1361 : H1339 r0 6 = H r0 6 := (f1344 r0 6 _ g0 rfl)
                have q1362 : H1339 r0 6 = (cu : Int) := k1361.trans qcu
                refine wp_of e109 c109_47 (xg_K (pc' := 50) lf_0_51 w1343 g0 sh_1 (by decide) (by decide) rfl q1362 rfl ?_)
                refine wp_of e109 c109_50 (rw_iload_n (pc' := 51) (z := a1) rfl rfl ?_)
                refine wp_of e109 c109_51 (rw_iload_n (pc' := 52) (z := a2) rfl rfl ?_)
                refine wp_of e109 c109_52 (xc_V (pc' := 55) (r := ce) (as := [.ref cu, vI a1, vI a2]) (st := [.ref r0]) (lm_0_213) rfl rfl (Nat.le_of_ble_eq_true rfl) w1343 gce sh_12 (by decide) rfl (by decide) (s_110 w1343 gce gcu ⟨by omega, by omega⟩ ⟨by omega, by omega⟩) (fun R1363 T1364 H1365 p1366 => ?_))
                obtain ⟨e1367, e1369, z1370, e1368, b1371⟩ := p1366
                subst e1367
                subst e1368
                subst e1369
                show wp _ _ 109 55 [(3, vI z1345), (0, .ref r0), (1, vI a1), (2, vI a2)] [vI z1370, .ref r0] _ H1339 _
                refine wp_of e109 c109_55 (xc_V (pc' := 58) (r := r0) (as := [vI z1370]) (st := []) (lm_0_99) rfl rfl (Nat.le_of_ble_eq_true rfl) w1343 g0 sh_1 (by decide) rfl (by decide) (s_51 w1343 g0 ⟨b1371.1, b1371.2⟩) (fun R1372 T1373 H1374 p1375 => ?_))
                obtain ⟨e1376, w1378, f1379, z1380, e1377, b1381⟩ := p1375
                subst e1376
                subst e1377
                have f1382 := f1357.tr f1379 rfl
                show wp _ _ 109 58 [(3, vI z1345), (0, .ref r0), (1, vI a1), (2, vI a2)] [vI z1380] _ H1374 _
                have h1383 : CEN T H1374 ce e d := (CEN_fr w1343 gce f1379 rfl a1351)
                exact wp_ireturn e109 c109_58 rfl ⟨rfl, w1378, f1382, z1380, rfl, ⟨b1381.1, b1381.2⟩, (h1383)⟩
              · exfalso
                omega
            · have f1384 := f0.tr f1344 rfl
              show wp _ _ 109 30 [(0, .ref r0), (1, vI a1), (2, vI a2)] [vI z1345] _ H1339 _
              refine wp_of e109 c109_30 (rw_istore_n (pc' := 31) (z := z1345) (L' := [(3, vI z1345), (0, .ref r0), (1, vI a1), (2, vI a2)]) rfl rfl rfl ?_)
              refine wp_of e109 c109_31 (rw_iload_n (pc' := 32) (z := z1345) rfl rfl ?_)
              refine wp_of e109 c109_32 (rw_if_eq (p1 := 41) (p2 := 35) (by decide) rfl ⟨Int.le_trans (by decide) b1346.1, Int.le_trans b1346.2 (by decide)⟩ (fun c1385 => ?_) (fun c1385 => ?_))
              · exfalso
                omega
              · refine wp_of e109 c109_35 (rw_aload_n (pc' := 36) (v := .ref r0) rfl rfl rfl ?_)
                refine wp_of e109 c109_36 (rw_iload_n (pc' := 37) (z := z1345) rfl rfl ?_)
                refine wp_of e109 c109_37 (xc_V (pc' := 40) (r := r0) (as := [vI z1345]) (st := []) (lm_0_70) rfl rfl (Nat.le_of_ble_eq_true rfl) w1343 g0 sh_1 (by decide) rfl (by decide) (s_12 w1343 g0 ⟨Int.le_trans (by decide) b1346.1, Int.le_trans b1346.2 (by decide)⟩) (fun R1386 T1387 H1388 p1389 => ?_))
                obtain ⟨e1390, w1392, f1393, z1394, e1391, b1395⟩ := p1389
                subst e1390
                subst e1391
                have f1396 := f1384.tr f1393 rfl
                show wp _ _ 109 40 [(3, vI z1345), (0, .ref r0), (1, vI a1), (2, vI a2)] [vI z1394] _ H1388 _
                have h1397 : CEN T H1388 ce e d := (CEN_fr w1343 gce f1393 rfl a1356)
                exact wp_ireturn e109 c109_40 rfl ⟨rfl, w1392, f1396, z1394, rfl, ⟨b1395.1, b1395.2⟩, (h1397)⟩
      · show wp _ _ 109 14 [(0, .ref r0), (1, vI a1), (2, vI a2)] [vI z1294, .ref r0] _ H _
        refine wp_of e109 c109_14 (rw_if_eq (p1 := 26) (p2 := 17) (by decide) rfl ⟨Int.le_trans (by decide) b1295.1, Int.le_trans b1295.2 (by decide)⟩ (fun c1398 => ?_) (fun c1398 => ?_))
        · refine wp_of e109 c109_26 (rw_iconst (pc' := 27) rfl ?_)
          refine wp_of e109 c109_27 (xc_V (pc' := 30) (r := r0) (as := [vI 0]) (st := []) (lm_0_174) rfl rfl (Nat.le_of_ble_eq_true rfl) hW g0 sh_1 (by decide) rfl (by decide) (u_83 (e := e) (d := d) (n := n) hW g0 ⟨by decide, by decide⟩ qcu gcu qwa gwa qce gce (by assumption) (by assumption) (by omega) (by omega) (by omega) hCU_cu hCEN_ce hHDR_ce) (fun R1399 T1400 H1401 p1402 => ?_))
          obtain ⟨e1403, w1405, f1406, z1407, e1404, b1408, p1409⟩ := p1402
          subst e1403
          subst e1404
          rcases p1409 with ⟨a1410, a1411, a1412, a1413, a1414, a1415⟩ | ⟨a1416, a1417, a1418⟩
          · exfalso
            omega
          · have f1419 := f0.tr f1406 rfl
            show wp _ _ 109 30 [(0, .ref r0), (1, vI a1), (2, vI a2)] [vI z1407] _ H1401 _
            refine wp_of e109 c109_30 (rw_istore_n (pc' := 31) (z := z1407) (L' := [(3, vI z1407), (0, .ref r0), (1, vI a1), (2, vI a2)]) rfl rfl rfl ?_)
            refine wp_of e109 c109_31 (rw_iload_n (pc' := 32) (z := z1407) rfl rfl ?_)
            refine wp_of e109 c109_32 (rw_if_eq (p1 := 41) (p2 := 35) (by decide) rfl ⟨Int.le_trans (by decide) b1408.1, Int.le_trans b1408.2 (by decide)⟩ (fun c1420 => ?_) (fun c1420 => ?_))
            · exfalso
              omega
            · refine wp_of e109 c109_35 (rw_aload_n (pc' := 36) (v := .ref r0) rfl rfl rfl ?_)
              refine wp_of e109 c109_36 (rw_iload_n (pc' := 37) (z := z1407) rfl rfl ?_)
              refine wp_of e109 c109_37 (xc_V (pc' := 40) (r := r0) (as := [vI z1407]) (st := []) (lm_0_70) rfl rfl (Nat.le_of_ble_eq_true rfl) w1405 g0 sh_1 (by decide) rfl (by decide) (s_12 w1405 g0 ⟨Int.le_trans (by decide) b1408.1, Int.le_trans b1408.2 (by decide)⟩) (fun R1421 T1422 H1423 p1424 => ?_))
              obtain ⟨e1425, w1427, f1428, z1429, e1426, b1430⟩ := p1424
              subst e1425
              subst e1426
              have f1431 := f1419.tr f1428 rfl
              show wp _ _ 109 40 [(3, vI z1407), (0, .ref r0), (1, vI a1), (2, vI a2)] [vI z1429] _ H1423 _
              have h1432 : CEN T H1423 ce e d := (CEN_fr w1405 gce f1428 rfl a1418)
              exact wp_ireturn e109 c109_40 rfl ⟨rfl, w1427, f1431, z1429, rfl, ⟨b1430.1, b1430.2⟩, (h1432)⟩
        · exfalso
          omega
  · show wp _ _ 109 6 [(0, .ref r0), (1, vI a1), (2, vI a2)] [vI z1279, .ref r0] _ H _
    refine wp_of e109 c109_6 (rw_if_eq (p1 := 26) (p2 := 9) (by decide) rfl ⟨Int.le_trans (by decide) b1280.1, Int.le_trans b1280.2 (by decide)⟩ (fun c1433 => ?_) (fun c1433 => ?_))
    · refine wp_of e109 c109_26 (rw_iconst (pc' := 27) rfl ?_)
      refine wp_of e109 c109_27 (xc_V (pc' := 30) (r := r0) (as := [vI 0]) (st := []) (lm_0_174) rfl rfl (Nat.le_of_ble_eq_true rfl) hW g0 sh_1 (by decide) rfl (by decide) (u_83 (e := e) (d := d) (n := n) hW g0 ⟨by decide, by decide⟩ qcu gcu qwa gwa qce gce (by assumption) (by assumption) (by omega) (by omega) (by omega) hCU_cu hCEN_ce hHDR_ce) (fun R1434 T1435 H1436 p1437 => ?_))
      obtain ⟨e1438, w1440, f1441, z1442, e1439, b1443, p1444⟩ := p1437
      subst e1438
      subst e1439
      rcases p1444 with ⟨a1445, a1446, a1447, a1448, a1449, a1450⟩ | ⟨a1451, a1452, a1453⟩
      · exfalso
        omega
      · have f1454 := f0.tr f1441 rfl
        show wp _ _ 109 30 [(0, .ref r0), (1, vI a1), (2, vI a2)] [vI z1442] _ H1436 _
        refine wp_of e109 c109_30 (rw_istore_n (pc' := 31) (z := z1442) (L' := [(3, vI z1442), (0, .ref r0), (1, vI a1), (2, vI a2)]) rfl rfl rfl ?_)
        refine wp_of e109 c109_31 (rw_iload_n (pc' := 32) (z := z1442) rfl rfl ?_)
        refine wp_of e109 c109_32 (rw_if_eq (p1 := 41) (p2 := 35) (by decide) rfl ⟨Int.le_trans (by decide) b1443.1, Int.le_trans b1443.2 (by decide)⟩ (fun c1455 => ?_) (fun c1455 => ?_))
        · exfalso
          omega
        · refine wp_of e109 c109_35 (rw_aload_n (pc' := 36) (v := .ref r0) rfl rfl rfl ?_)
          refine wp_of e109 c109_36 (rw_iload_n (pc' := 37) (z := z1442) rfl rfl ?_)
          refine wp_of e109 c109_37 (xc_V (pc' := 40) (r := r0) (as := [vI z1442]) (st := []) (lm_0_70) rfl rfl (Nat.le_of_ble_eq_true rfl) w1440 g0 sh_1 (by decide) rfl (by decide) (s_12 w1440 g0 ⟨Int.le_trans (by decide) b1443.1, Int.le_trans b1443.2 (by decide)⟩) (fun R1456 T1457 H1458 p1459 => ?_))
          obtain ⟨e1460, w1462, f1463, z1464, e1461, b1465⟩ := p1459
          subst e1460
          subst e1461
          have f1466 := f1454.tr f1463 rfl
          show wp _ _ 109 40 [(3, vI z1442), (0, .ref r0), (1, vI a1), (2, vI a2)] [vI z1464] _ H1458 _
          have h1467 : CEN T H1458 ce e d := (CEN_fr w1440 gce f1463 rfl a1453)
          exact wp_ireturn e109 c109_40 rfl ⟨rfl, w1462, f1466, z1464, rfl, ⟨b1465.1, b1465.2⟩, (h1467)⟩
    · exfalso
      omega
/-! StrikeAwake.possible(I)J  -/
abbrev uq_112 (r0 : Nat) (a1 : Int) (cu : Nat) (wa : Nat) (ce : Nat) (e : xD) (d : xD) (n : Int) (T : wq_T) (H : wq_H) : Option Value → wq_T → wq_H → Prop := fun r T' H' => T = T' ∧ WT T H' ∧ wfr [(12, 5), (12, 6), (12, 7), (12, 8), (12, 9), (1, 10), (6, 5), (8, 999), (10, 999), (15, 999), (9, 999), (18, 999), (19, 999), (7, 999), (11, 999), (17, 999), (13, 999)] T H H' ∧ ∃ z : Int, some (vL z) = r ∧ ((-9223372036854775808) ≤ z ∧ z ≤ 9223372036854775807) ∧ ((CEN T H' ce e d))
set_option maxHeartbeats 4000000 in
theorem u_112 {kt : Nat → Option mc_E} {T : wq_T} {H : wq_H} {r0 : Nat} {a1 : Int} {cu : Nat} {wa : Nat} {ce : Nat} {e : xD} {d : xD} {n : Int} (hW : WT T H) (g0 : T.2.2.2 r0 = some 1) (i1 : (-2147483648) ≤ a1 ∧ a1 ≤ 2147483647) (qcu : H r0 6 = (cu : Int)) (gcu : T.2.2.2 cu = some 27) (qwa : H r0 2 = (wa : Int)) (gwa : T.2.2.2 wa = some 6) (qce : H r0 3 = (ce : Int)) (gce : T.2.2.2 ce = some 12) (p0 : ∀ i, i ≠ 13 → e i = d i) (p1 : XW d) (p2 : e 0 3 = d 0 3) (p3 : e 0 0 = d 0 0) (p4 : H r0 8 = 0 ∨ n = xlots d) (p5 : H r0 8 ≠ 0 ∨ (d 0 3 = 0 ∧ d 0 0 = 0)) (hCU_cu : CU T H cu e d n) (hCEN_ce : CEN T H ce e d) (hHDR_ce : HDR T H ce ) : wpc kt 6 112 [.ref r0, vI a1] T H (uq_112 r0 a1 cu wa ce e d n T H) := by
  refine wp_enter e112 (Nat.le_of_ble_eq_true rfl) rfl ?_
  have f0 : wfr [(12, 5), (12, 6), (12, 7), (12, 8), (12, 9), (1, 10), (6, 5), (8, 999), (10, 999), (15, 999), (9, 999), (18, 999), (19, 999), (7, 999), (11, 999), (17, 999), (13, 999)] T H H := wfr.rf
  show wp _ _ 112 0 [(0, .ref r0), (1, vI a1)] [] _ H _
  have u1121 := CU_k hCU_cu
  have b1122 : 0 ≤ H r0 8 ∧ H r0 8 ≤ 1 := hW.box g0 (n := 13) rfl (by decide) rfl
  have _c7 : d 0 0 ≤ 24 := p1.2.1.2.1
  refine wp_of e112 c112_0 (rw_aload_n (pc' := 1) (v := .ref r0) rfl rfl rfl ?_)
  refine wp_of e112 c112_1 (rw_aload_n (pc' := 2) (v := .ref r0) rfl rfl rfl ?_)
  refine wp_of e112 c112_2 (rw_iload_n (pc' := 3) (z := a1) rfl rfl ?_)
  refine wp_of e112 c112_3 (xc_V (pc' := 6) (r := r0) (as := [vI a1]) (st := [.ref r0]) (lm_0_105) rfl rfl (Nat.le_of_ble_eq_true rfl) hW g0 sh_1 (by decide) rfl (by decide) (u_55  hW g0 ⟨i1.1, i1.2⟩ qcu gcu) (fun R1123 T1124 H1125 p1126 => ?_))
  obtain ⟨e1127, e1129, z1130, e1128, b1131, p1132⟩ := p1126
  subst e1127
  subst e1128
  subst e1129
  rcases p1132 with ⟨a1133, a1134⟩ | ⟨a1135, a1136⟩
  · show wp _ _ 112 6 [(0, .ref r0), (1, vI a1)] [vI z1130, .ref r0] _ H _
    refine wp_of e112 c112_6 (xc_V (pc' := 9) (r := r0) (as := [vI z1130]) (st := []) (lm_0_174) rfl rfl (Nat.le_of_ble_eq_true rfl) hW g0 sh_1 (by decide) rfl (by decide) (u_83 (e := e) (d := d) (n := n) hW g0 ⟨b1131.1, b1131.2⟩ qcu gcu qwa gwa qce gce (by assumption) (by assumption) (by omega) (by omega) (by omega) hCU_cu hCEN_ce hHDR_ce) (fun R1137 T1138 H1139 p1140 => ?_))
    obtain ⟨e1141, w1143, f1144, z1145, e1142, b1146, p1147⟩ := p1140
    subst e1141
    subst e1142
    rcases p1147 with ⟨a1148, a1149, a1150, a1151, a1152, a1153⟩ | ⟨a1154, a1155, a1156⟩
    · have f1157 := f0.tr f1144 rfl
      show wp _ _ 112 9 [(0, .ref r0), (1, vI a1)] [vI z1145] _ H1139 _
      refine wp_of e112 c112_9 (rw_istore_n (pc' := 10) (z := z1145) (L' := [(2, vI z1145), (0, .ref r0), (1, vI a1)]) rfl rfl rfl ?_)
      refine wp_of e112 c112_10 (rw_iload_n (pc' := 11) (z := z1145) rfl rfl ?_)
      refine wp_of e112 c112_11 (rw_if_eq (p1 := 21) (p2 := 14) (by decide) rfl ⟨Int.le_trans (by decide) b1146.1, Int.le_trans b1146.2 (by decide)⟩ (fun c1158 => ?_) (fun c1158 => ?_))
      · refine wp_of e112 c112_21 (rw_aload_n (pc' := 22) (v := .ref r0) rfl rfl rfl ?_)
        refine wp_of e112 c112_22 (rw_iconst (pc' := 23) rfl ?_)
        refine wp_of e112 c112_23 (xp_I (pc' := 26) lf_0_102 w1143 g0 sh_1 (by decide) (by decide) ty_1_10 rfl rfl (by decide) (by decide) ⟨by decide, by decide⟩ rfl (fun H1159 e1160 w1161 => ?_))
        have f1162 := f1157.put' e1160 g0 rfl
        have k1163 : H1159 r0 10 = 0 := wq_u_s e1160
        refine wp_of e112 c112_26 (rw_aload_n (pc' := 27) (v := .ref r0) rfl rfl rfl ?_)
        have k1164 : H1159 r0 3 = H r0 3 := ((wq_u_j e1160 rfl).trans (f1144 r0 3 _ g0 rfl))
        have q1165 : H1159 r0 3 = (ce : Int) := k1164.trans qce
        refine wp_of e112 c112_27 (xg_K (pc' := 30) lf_0_30 w1161 g0 sh_1 (by decide) (by decide) rfl q1165 rfl ?_)
        refine wp_of e112 c112_30 (rw_aload_n (pc' := 31) (v := .ref r0) rfl rfl rfl ?_)
        have k1166 : H1159 r0 6 = H r0 6 := ((wq_u_j e1160 rfl).trans (f1144 r0 6 _ g0 rfl))
        have q1167 : H1159 r0 6 = (cu : Int) := k1166.trans qcu
        refine wp_of e112 c112_31 (xg_K (pc' := 34) lf_0_51 w1161 g0 sh_1 (by decide) (by decide) rfl q1167 rfl ?_)
        refine wp_of e112 c112_34 (rw_iload_n (pc' := 35) (z := a1) rfl rfl ?_)
        refine wp_of e112 c112_35 (xc_V (pc' := 38) (r := ce) (as := [.ref cu, vI a1]) (st := []) (lm_0_216) rfl rfl (Nat.le_of_ble_eq_true rfl) w1161 gce sh_12 (by decide) rfl (by decide) (s_113 w1161 gce gcu ⟨by omega, by omega⟩) (fun R1168 T1169 H1170 p1171 => ?_))
        obtain ⟨e1172, e1174, z1175, e1173, b1176⟩ := p1171
        subst e1172
        subst e1173
        subst e1174
        show wp _ _ 112 38 [(2, vI z1145), (0, .ref r0), (1, vI a1)] [vL z1175] _ H1159 _
        have h1177 : CEN T H1159 ce e d := (CEN_fr w1143 gce ((wfr.rf (l := [(1, 10)])).put' e1160 g0 rfl) rfl a1151)
        exact wp_lreturn e112 c112_38 rfl ⟨rfl, w1161, f1162, z1175, rfl, ⟨b1176.1, b1176.2⟩, (h1177)⟩
      · exfalso
        omega
    · have f1178 := f0.tr f1144 rfl
      show wp _ _ 112 9 [(0, .ref r0), (1, vI a1)] [vI z1145] _ H1139 _
      refine wp_of e112 c112_9 (rw_istore_n (pc' := 10) (z := z1145) (L' := [(2, vI z1145), (0, .ref r0), (1, vI a1)]) rfl rfl rfl ?_)
      refine wp_of e112 c112_10 (rw_iload_n (pc' := 11) (z := z1145) rfl rfl ?_)
      refine wp_of e112 c112_11 (rw_if_eq (p1 := 21) (p2 := 14) (by decide) rfl ⟨Int.le_trans (by decide) b1146.1, Int.le_trans b1146.2 (by decide)⟩ (fun c1179 => ?_) (fun c1179 => ?_))
      · exfalso
        omega
      · refine wp_of e112 c112_14 (rw_aload_n (pc' := 15) (v := .ref r0) rfl rfl rfl ?_)
        refine wp_of e112 c112_15 (rw_iload_n (pc' := 16) (z := z1145) rfl rfl ?_)
        refine wp_of e112 c112_16 (xc_V (pc' := 19) (r := r0) (as := [vI z1145]) (st := []) (lm_0_70) rfl rfl (Nat.le_of_ble_eq_true rfl) w1143 g0 sh_1 (by decide) rfl (by decide) (s_12 w1143 g0 ⟨Int.le_trans (by decide) b1146.1, Int.le_trans b1146.2 (by decide)⟩) (fun R1180 T1181 H1182 p1183 => ?_))
        obtain ⟨e1184, w1186, f1187, z1188, e1185, b1189⟩ := p1183
        subst e1184
        subst e1185
        have f1190 := f1178.tr f1187 rfl
        show wp _ _ 112 19 [(2, vI z1145), (0, .ref r0), (1, vI a1)] [vI z1188] _ H1182 _
        refine wp_of e112 c112_19 (rw_i2l (pc' := 20) rfl ⟨b1189.1, b1189.2⟩ ?_)
        have h1191 : CEN T H1182 ce e d := (CEN_fr w1143 gce f1187 rfl a1156)
        exact wp_lreturn e112 c112_20 rfl ⟨rfl, w1186, f1190, z1188, rfl, ⟨Int.le_trans (by decide) b1189.1, Int.le_trans b1189.2 (by decide)⟩, (h1191)⟩
  · show wp _ _ 112 6 [(0, .ref r0), (1, vI a1)] [vI z1130, .ref r0] _ H _
    refine wp_of e112 c112_6 (xc_V (pc' := 9) (r := r0) (as := [vI z1130]) (st := []) (lm_0_174) rfl rfl (Nat.le_of_ble_eq_true rfl) hW g0 sh_1 (by decide) rfl (by decide) (u_83 (e := e) (d := d) (n := n) hW g0 ⟨b1131.1, b1131.2⟩ qcu gcu qwa gwa qce gce (by assumption) (by assumption) (by omega) (by omega) (by omega) hCU_cu hCEN_ce hHDR_ce) (fun R1192 T1193 H1194 p1195 => ?_))
    obtain ⟨e1196, w1198, f1199, z1200, e1197, b1201, p1202⟩ := p1195
    subst e1196
    subst e1197
    rcases p1202 with ⟨a1203, a1204, a1205, a1206, a1207, a1208⟩ | ⟨a1209, a1210, a1211⟩
    · exfalso
      omega
    · have f1212 := f0.tr f1199 rfl
      show wp _ _ 112 9 [(0, .ref r0), (1, vI a1)] [vI z1200] _ H1194 _
      refine wp_of e112 c112_9 (rw_istore_n (pc' := 10) (z := z1200) (L' := [(2, vI z1200), (0, .ref r0), (1, vI a1)]) rfl rfl rfl ?_)
      refine wp_of e112 c112_10 (rw_iload_n (pc' := 11) (z := z1200) rfl rfl ?_)
      refine wp_of e112 c112_11 (rw_if_eq (p1 := 21) (p2 := 14) (by decide) rfl ⟨Int.le_trans (by decide) b1201.1, Int.le_trans b1201.2 (by decide)⟩ (fun c1213 => ?_) (fun c1213 => ?_))
      · exfalso
        omega
      · refine wp_of e112 c112_14 (rw_aload_n (pc' := 15) (v := .ref r0) rfl rfl rfl ?_)
        refine wp_of e112 c112_15 (rw_iload_n (pc' := 16) (z := z1200) rfl rfl ?_)
        refine wp_of e112 c112_16 (xc_V (pc' := 19) (r := r0) (as := [vI z1200]) (st := []) (lm_0_70) rfl rfl (Nat.le_of_ble_eq_true rfl) w1198 g0 sh_1 (by decide) rfl (by decide) (s_12 w1198 g0 ⟨Int.le_trans (by decide) b1201.1, Int.le_trans b1201.2 (by decide)⟩) (fun R1214 T1215 H1216 p1217 => ?_))
        obtain ⟨e1218, w1220, f1221, z1222, e1219, b1223⟩ := p1217
        subst e1218
        subst e1219
        have f1224 := f1212.tr f1221 rfl
        show wp _ _ 112 19 [(2, vI z1200), (0, .ref r0), (1, vI a1)] [vI z1222] _ H1216 _
        refine wp_of e112 c112_19 (rw_i2l (pc' := 20) rfl ⟨b1223.1, b1223.2⟩ ?_)
        have h1225 : CEN T H1216 ce e d := (CEN_fr w1198 gce f1221 rfl a1211)
        exact wp_lreturn e112 c112_20 rfl ⟨rfl, w1220, f1224, z1222, rfl, ⟨Int.le_trans (by decide) b1223.1, Int.le_trans b1223.2 (by decide)⟩, (h1225)⟩
/-! StrikeAwake.hiding(II)I  -/
abbrev uq_114 (r0 : Nat) (a1 : Int) (a2 : Int) (cu : Nat) (wa : Nat) (ce : Nat) (e : xD) (d : xD) (n : Int) (T : wq_T) (H : wq_H) : Option Value → wq_T → wq_H → Prop := fun r T' H' => T = T' ∧ WT T H' ∧ wfr [(12, 5), (12, 6), (12, 7), (12, 8), (12, 9), (1, 10), (6, 5), (8, 999), (10, 999), (15, 999), (9, 999), (18, 999), (19, 999), (7, 999), (11, 999), (17, 999), (13, 999)] T H H' ∧ ∃ z : Int, some (vI z) = r ∧ ((-2147483648) ≤ z ∧ z ≤ 2147483647) ∧ ((CEN T H' ce e d))
set_option maxHeartbeats 4000000 in
theorem u_114 {kt : Nat → Option mc_E} {T : wq_T} {H : wq_H} {r0 : Nat} {a1 : Int} {a2 : Int} {cu : Nat} {wa : Nat} {ce : Nat} {e : xD} {d : xD} {n : Int} (hW : WT T H) (g0 : T.2.2.2 r0 = some 1) (i1 : (-2147483648) ≤ a1 ∧ a1 ≤ 2147483647) (i2 : (-2147483648) ≤ a2 ∧ a2 ≤ 2147483647) (qcu : H r0 6 = (cu : Int)) (gcu : T.2.2.2 cu = some 27) (qwa : H r0 2 = (wa : Int)) (gwa : T.2.2.2 wa = some 6) (qce : H r0 3 = (ce : Int)) (gce : T.2.2.2 ce = some 12) (p0 : ∀ i, i ≠ 13 → e i = d i) (p1 : XW d) (p2 : e 0 3 = d 0 3) (p3 : e 0 0 = d 0 0) (p4 : H r0 8 = 0 ∨ n = xlots d) (p5 : H r0 8 ≠ 0 ∨ (d 0 3 = 0 ∧ d 0 0 = 0)) (hCU_cu : CU T H cu e d n) (hCEN_ce : CEN T H ce e d) (hHDR_ce : HDR T H ce ) : wpc kt 6 114 [.ref r0, vI a1, vI a2] T H (uq_114 r0 a1 a2 cu wa ce e d n T H) := by
  refine wp_enter e114 (Nat.le_of_ble_eq_true rfl) rfl ?_
  have f0 : wfr [(12, 5), (12, 6), (12, 7), (12, 8), (12, 9), (1, 10), (6, 5), (8, 999), (10, 999), (15, 999), (9, 999), (18, 999), (19, 999), (7, 999), (11, 999), (17, 999), (13, 999)] T H H := wfr.rf
  show wp _ _ 114 0 [(0, .ref r0), (1, vI a1), (2, vI a2)] [] _ H _
  have u1210 := CU_k hCU_cu
  have b1211 : 0 ≤ H r0 8 ∧ H r0 8 ≤ 1 := hW.box g0 (n := 13) rfl (by decide) rfl
  have _c7 : d 0 0 ≤ 24 := p1.2.1.2.1
  refine wp_of e114 c114_0 (rw_aload_n (pc' := 1) (v := .ref r0) rfl rfl rfl ?_)
  refine wp_of e114 c114_1 (rw_aload_n (pc' := 2) (v := .ref r0) rfl rfl rfl ?_)
  refine wp_of e114 c114_2 (rw_iload_n (pc' := 3) (z := a1) rfl rfl ?_)
  refine wp_of e114 c114_3 (xc_V (pc' := 6) (r := r0) (as := [vI a1]) (st := [.ref r0]) (lm_0_105) rfl rfl (Nat.le_of_ble_eq_true rfl) hW g0 sh_1 (by decide) rfl (by decide) (u_55  hW g0 ⟨i1.1, i1.2⟩ qcu gcu) (fun R1212 T1213 H1214 p1215 => ?_))
  obtain ⟨e1216, e1218, z1219, e1217, b1220, p1221⟩ := p1215
  subst e1216
  subst e1217
  subst e1218
  rcases p1221 with ⟨a1222, a1223⟩ | ⟨a1224, a1225⟩
  · show wp _ _ 114 6 [(0, .ref r0), (1, vI a1), (2, vI a2)] [vI z1219, .ref r0] _ H _
    refine wp_of e114 c114_6 (rw_if_eq (p1 := 21) (p2 := 9) (by decide) rfl ⟨Int.le_trans (by decide) b1220.1, Int.le_trans b1220.2 (by decide)⟩ (fun c1226 => ?_) (fun c1226 => ?_))
    · exfalso
      omega
    · refine wp_of e114 c114_9 (rw_aload_n (pc' := 10) (v := .ref r0) rfl rfl rfl ?_)
      refine wp_of e114 c114_10 (rw_iload_n (pc' := 11) (z := a2) rfl rfl ?_)
      refine wp_of e114 c114_11 (xc_V (pc' := 14) (r := r0) (as := [vI a2]) (st := [.ref r0]) (lm_0_132) rfl rfl (Nat.le_of_ble_eq_true rfl) hW g0 sh_1 (by decide) rfl (by decide) (u_60  hW g0 ⟨i2.1, i2.2⟩ qcu gcu) (fun R1227 T1228 H1229 p1230 => ?_))
      obtain ⟨e1231, e1233, z1234, e1232, b1235, p1236⟩ := p1230
      subst e1231
      subst e1232
      subst e1233
      rcases p1236 with ⟨a1237, a1238⟩ | ⟨a1239, a1240⟩
      · show wp _ _ 114 14 [(0, .ref r0), (1, vI a1), (2, vI a2)] [vI z1234, .ref r0] _ H _
        refine wp_of e114 c114_14 (rw_if_eq (p1 := 21) (p2 := 17) (by decide) rfl ⟨Int.le_trans (by decide) b1235.1, Int.le_trans b1235.2 (by decide)⟩ (fun c1241 => ?_) (fun c1241 => ?_))
        · exfalso
          omega
        · refine wp_of e114 c114_17 (rw_iconst (pc' := 18) rfl ?_)
          refine wp_of e114 c114_18 (rw_goto (p1 := 22) (by decide) ?_)
          refine wp_of e114 c114_22 (xc_V (pc' := 25) (r := r0) (as := [vI 1]) (st := []) (lm_0_174) rfl rfl (Nat.le_of_ble_eq_true rfl) hW g0 sh_1 (by decide) rfl (by decide) (u_83 (e := e) (d := d) (n := n) hW g0 ⟨by decide, by decide⟩ qcu gcu qwa gwa qce gce (by assumption) (by assumption) (by omega) (by omega) (by omega) hCU_cu hCEN_ce hHDR_ce) (fun R1242 T1243 H1244 p1245 => ?_))
          obtain ⟨e1246, w1248, f1249, z1250, e1247, b1251, p1252⟩ := p1245
          subst e1246
          subst e1247
          rcases p1252 with ⟨a1253, a1254, a1255, a1256, a1257, a1258⟩ | ⟨a1259, a1260, a1261⟩
          · have f1262 := f0.tr f1249 rfl
            show wp _ _ 114 25 [(0, .ref r0), (1, vI a1), (2, vI a2)] [vI z1250] _ H1244 _
            refine wp_of e114 c114_25 (rw_istore_n (pc' := 26) (z := z1250) (L' := [(3, vI z1250), (0, .ref r0), (1, vI a1), (2, vI a2)]) rfl rfl rfl ?_)
            refine wp_of e114 c114_26 (rw_iload_n (pc' := 27) (z := z1250) rfl rfl ?_)
            refine wp_of e114 c114_27 (rw_if_eq (p1 := 36) (p2 := 30) (by decide) rfl ⟨Int.le_trans (by decide) b1251.1, Int.le_trans b1251.2 (by decide)⟩ (fun c1263 => ?_) (fun c1263 => ?_))
            · refine wp_of e114 c114_36 (rw_aload_n (pc' := 37) (v := .ref r0) rfl rfl rfl ?_)
              refine wp_of e114 c114_37 (rw_aload_n (pc' := 38) (v := .ref r0) rfl rfl rfl ?_)
              have k1264 : H1244 r0 3 = H r0 3 := (f1249 r0 3 _ g0 rfl)
              have q1265 : H1244 r0 3 = (ce : Int) := k1264.trans qce
              refine wp_of e114 c114_38 (xg_K (pc' := 41) lf_0_30 w1248 g0 sh_1 (by decide) (by decide) rfl q1265 rfl ?_)
              refine wp_of e114 c114_41 (rw_aload_n (pc' := 42) (v := .ref r0) rfl rfl rfl ?_)
              have k1266 : H1244 r0 6 = H r0 6 := (f1249 r0 6 _ g0 rfl)
              have q1267 : H1244 r0 6 = (cu : Int) := k1266.trans qcu
              refine wp_of e114 c114_42 (xg_K (pc' := 45) lf_0_51 w1248 g0 sh_1 (by decide) (by decide) rfl q1267 rfl ?_)
              refine wp_of e114 c114_45 (rw_iload_n (pc' := 46) (z := a1) rfl rfl ?_)
              refine wp_of e114 c114_46 (rw_iload_n (pc' := 47) (z := a2) rfl rfl ?_)
              refine wp_of e114 c114_47 (xc_V (pc' := 50) (r := ce) (as := [.ref cu, vI a1, vI a2]) (st := [.ref r0]) (lm_0_220) rfl rfl (Nat.le_of_ble_eq_true rfl) w1248 gce sh_12 (by decide) rfl (by decide) (s_115 w1248 gce gcu ⟨by omega, by omega⟩ ⟨i2.1, i2.2⟩) (fun R1268 T1269 H1270 p1271 => ?_))
              obtain ⟨e1272, e1274, z1275, e1273, b1276⟩ := p1271
              subst e1272
              subst e1273
              subst e1274
              show wp _ _ 114 50 [(3, vI z1250), (0, .ref r0), (1, vI a1), (2, vI a2)] [vI z1275, .ref r0] _ H1244 _
              refine wp_of e114 c114_50 (xc_V (pc' := 53) (r := r0) (as := [vI z1275]) (st := []) (lm_0_99) rfl rfl (Nat.le_of_ble_eq_true rfl) w1248 g0 sh_1 (by decide) rfl (by decide) (s_51 w1248 g0 ⟨b1276.1, b1276.2⟩) (fun R1277 T1278 H1279 p1280 => ?_))
              obtain ⟨e1281, w1283, f1284, z1285, e1282, b1286⟩ := p1280
              subst e1281
              subst e1282
              have f1287 := f1262.tr f1284 rfl
              show wp _ _ 114 53 [(3, vI z1250), (0, .ref r0), (1, vI a1), (2, vI a2)] [vI z1285] _ H1279 _
              have h1288 : CEN T H1279 ce e d := (CEN_fr w1248 gce f1284 rfl a1256)
              exact wp_ireturn e114 c114_53 rfl ⟨rfl, w1283, f1287, z1285, rfl, ⟨b1286.1, b1286.2⟩, (h1288)⟩
            · exfalso
              omega
          · have f1289 := f0.tr f1249 rfl
            show wp _ _ 114 25 [(0, .ref r0), (1, vI a1), (2, vI a2)] [vI z1250] _ H1244 _
            refine wp_of e114 c114_25 (rw_istore_n (pc' := 26) (z := z1250) (L' := [(3, vI z1250), (0, .ref r0), (1, vI a1), (2, vI a2)]) rfl rfl rfl ?_)
            refine wp_of e114 c114_26 (rw_iload_n (pc' := 27) (z := z1250) rfl rfl ?_)
            refine wp_of e114 c114_27 (rw_if_eq (p1 := 36) (p2 := 30) (by decide) rfl ⟨Int.le_trans (by decide) b1251.1, Int.le_trans b1251.2 (by decide)⟩ (fun c1290 => ?_) (fun c1290 => ?_))
            · exfalso
              omega
            · refine wp_of e114 c114_30 (rw_aload_n (pc' := 31) (v := .ref r0) rfl rfl rfl ?_)
              refine wp_of e114 c114_31 (rw_iload_n (pc' := 32) (z := z1250) rfl rfl ?_)
              refine wp_of e114 c114_32 (xc_V (pc' := 35) (r := r0) (as := [vI z1250]) (st := []) (lm_0_70) rfl rfl (Nat.le_of_ble_eq_true rfl) w1248 g0 sh_1 (by decide) rfl (by decide) (s_12 w1248 g0 ⟨Int.le_trans (by decide) b1251.1, Int.le_trans b1251.2 (by decide)⟩) (fun R1291 T1292 H1293 p1294 => ?_))
              obtain ⟨e1295, w1297, f1298, z1299, e1296, b1300⟩ := p1294
              subst e1295
              subst e1296
              have f1301 := f1289.tr f1298 rfl
              show wp _ _ 114 35 [(3, vI z1250), (0, .ref r0), (1, vI a1), (2, vI a2)] [vI z1299] _ H1293 _
              have h1302 : CEN T H1293 ce e d := (CEN_fr w1248 gce f1298 rfl a1261)
              exact wp_ireturn e114 c114_35 rfl ⟨rfl, w1297, f1301, z1299, rfl, ⟨b1300.1, b1300.2⟩, (h1302)⟩
      · show wp _ _ 114 14 [(0, .ref r0), (1, vI a1), (2, vI a2)] [vI z1234, .ref r0] _ H _
        refine wp_of e114 c114_14 (rw_if_eq (p1 := 21) (p2 := 17) (by decide) rfl ⟨Int.le_trans (by decide) b1235.1, Int.le_trans b1235.2 (by decide)⟩ (fun c1303 => ?_) (fun c1303 => ?_))
        · refine wp_of e114 c114_21 (rw_iconst (pc' := 22) rfl ?_)
          refine wp_of e114 c114_22 (xc_V (pc' := 25) (r := r0) (as := [vI 0]) (st := []) (lm_0_174) rfl rfl (Nat.le_of_ble_eq_true rfl) hW g0 sh_1 (by decide) rfl (by decide) (u_83 (e := e) (d := d) (n := n) hW g0 ⟨by decide, by decide⟩ qcu gcu qwa gwa qce gce (by assumption) (by assumption) (by omega) (by omega) (by omega) hCU_cu hCEN_ce hHDR_ce) (fun R1304 T1305 H1306 p1307 => ?_))
          obtain ⟨e1308, w1310, f1311, z1312, e1309, b1313, p1314⟩ := p1307
          subst e1308
          subst e1309
          rcases p1314 with ⟨a1315, a1316, a1317, a1318, a1319, a1320⟩ | ⟨a1321, a1322, a1323⟩
          · exfalso
            omega
          · have f1324 := f0.tr f1311 rfl
            show wp _ _ 114 25 [(0, .ref r0), (1, vI a1), (2, vI a2)] [vI z1312] _ H1306 _
            refine wp_of e114 c114_25 (rw_istore_n (pc' := 26) (z := z1312) (L' := [(3, vI z1312), (0, .ref r0), (1, vI a1), (2, vI a2)]) rfl rfl rfl ?_)
            refine wp_of e114 c114_26 (rw_iload_n (pc' := 27) (z := z1312) rfl rfl ?_)
            refine wp_of e114 c114_27 (rw_if_eq (p1 := 36) (p2 := 30) (by decide) rfl ⟨Int.le_trans (by decide) b1313.1, Int.le_trans b1313.2 (by decide)⟩ (fun c1325 => ?_) (fun c1325 => ?_))
            · exfalso
              omega
            · refine wp_of e114 c114_30 (rw_aload_n (pc' := 31) (v := .ref r0) rfl rfl rfl ?_)
              refine wp_of e114 c114_31 (rw_iload_n (pc' := 32) (z := z1312) rfl rfl ?_)
              refine wp_of e114 c114_32 (xc_V (pc' := 35) (r := r0) (as := [vI z1312]) (st := []) (lm_0_70) rfl rfl (Nat.le_of_ble_eq_true rfl) w1310 g0 sh_1 (by decide) rfl (by decide) (s_12 w1310 g0 ⟨Int.le_trans (by decide) b1313.1, Int.le_trans b1313.2 (by decide)⟩) (fun R1326 T1327 H1328 p1329 => ?_))
              obtain ⟨e1330, w1332, f1333, z1334, e1331, b1335⟩ := p1329
              subst e1330
              subst e1331
              have f1336 := f1324.tr f1333 rfl
              show wp _ _ 114 35 [(3, vI z1312), (0, .ref r0), (1, vI a1), (2, vI a2)] [vI z1334] _ H1328 _
              have h1337 : CEN T H1328 ce e d := (CEN_fr w1310 gce f1333 rfl a1323)
              exact wp_ireturn e114 c114_35 rfl ⟨rfl, w1332, f1336, z1334, rfl, ⟨b1335.1, b1335.2⟩, (h1337)⟩
        · exfalso
          omega
  · show wp _ _ 114 6 [(0, .ref r0), (1, vI a1), (2, vI a2)] [vI z1219, .ref r0] _ H _
    refine wp_of e114 c114_6 (rw_if_eq (p1 := 21) (p2 := 9) (by decide) rfl ⟨Int.le_trans (by decide) b1220.1, Int.le_trans b1220.2 (by decide)⟩ (fun c1338 => ?_) (fun c1338 => ?_))
    · refine wp_of e114 c114_21 (rw_iconst (pc' := 22) rfl ?_)
      refine wp_of e114 c114_22 (xc_V (pc' := 25) (r := r0) (as := [vI 0]) (st := []) (lm_0_174) rfl rfl (Nat.le_of_ble_eq_true rfl) hW g0 sh_1 (by decide) rfl (by decide) (u_83 (e := e) (d := d) (n := n) hW g0 ⟨by decide, by decide⟩ qcu gcu qwa gwa qce gce (by assumption) (by assumption) (by omega) (by omega) (by omega) hCU_cu hCEN_ce hHDR_ce) (fun R1339 T1340 H1341 p1342 => ?_))
      obtain ⟨e1343, w1345, f1346, z1347, e1344, b1348, p1349⟩ := p1342
      subst e1343
      subst e1344
      rcases p1349 with ⟨a1350, a1351, a1352, a1353, a1354, a1355⟩ | ⟨a1356, a1357, a1358⟩
      · exfalso
        omega
      · have f1359 := f0.tr f1346 rfl
        show wp _ _ 114 25 [(0, .ref r0), (1, vI a1), (2, vI a2)] [vI z1347] _ H1341 _
        refine wp_of e114 c114_25 (rw_istore_n (pc' := 26) (z := z1347) (L' := [(3, vI z1347), (0, .ref r0), (1, vI a1), (2, vI a2)]) rfl rfl rfl ?_)
        refine wp_of e114 c114_26 (rw_iload_n (pc' := 27) (z := z1347) rfl rfl ?_)
        refine wp_of e114 c114_27 (rw_if_eq (p1 := 36) (p2 := 30) (by decide) rfl ⟨Int.le_trans (by decide) b1348.1, Int.le_trans b1348.2 (by decide)⟩ (fun c1360 => ?_) (fun c1360 => ?_))
        · exfalso
          omega
        · refine wp_of e114 c114_30 (rw_aload_n (pc' := 31) (v := .ref r0) rfl rfl rfl ?_)
          refine wp_of e114 c114_31 (rw_iload_n (pc' := 32) (z := z1347) rfl rfl ?_)
          refine wp_of e114 c114_32 (xc_V (pc' := 35) (r := r0) (as := [vI z1347]) (st := []) (lm_0_70) rfl rfl (Nat.le_of_ble_eq_true rfl) w1345 g0 sh_1 (by decide) rfl (by decide) (s_12 w1345 g0 ⟨Int.le_trans (by decide) b1348.1, Int.le_trans b1348.2 (by decide)⟩) (fun R1361 T1362 H1363 p1364 => ?_))
          obtain ⟨e1365, w1367, f1368, z1369, e1366, b1370⟩ := p1364
          subst e1365
          subst e1366
          have f1371 := f1359.tr f1368 rfl
          show wp _ _ 114 35 [(3, vI z1347), (0, .ref r0), (1, vI a1), (2, vI a2)] [vI z1369] _ H1363 _
          have h1372 : CEN T H1363 ce e d := (CEN_fr w1345 gce f1368 rfl a1358)
          exact wp_ireturn e114 c114_35 rfl ⟨rfl, w1367, f1371, z1369, rfl, ⟨b1370.1, b1370.2⟩, (h1372)⟩
    · exfalso
      omega
