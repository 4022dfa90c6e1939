/-! what methods do (own work, written by wip/gen3/sx3.py) -/
/-! StrikeAwake.sure(II)I  -/
abbrev uq_101 (r0 : Nat) (a1 : Int) (a2 : Int) (cu : Nat) (wa : Nat) (ce : Nat) (e : xD) (d : xD) (n : Int) (T : wq_T) (H : wq_H) : Option Value → wq_T → wq_H → Prop := fun r T' H' => T = T' ∧ WT T H' ∧ wfr [(12, 5), (12, 6), (12, 7), (12, 8), (12, 9), (1, 10), (6, 5), (8, 999), (10, 999), (15, 999), (9, 999), (18, 999), (19, 999), (7, 999), (11, 999), (17, 999), (13, 999)] T H H' ∧ ∃ z : Int, some (vI z) = r ∧ ((-2147483648) ≤ z ∧ z ≤ 2147483647) ∧ (((z = -1) ∧ (((a1 < 0 ∨ d 0 3 ≤ a1) ∨ a2 < 0 ∨ d 0 0 ≤ a2) ∨ 20000 < n ∨ xcn (xwf e d) (xlots d).toNat ≤ 0) ∧ CEN T H' ce e d) ∨ ((((0 ≤ a1 ∧ a1 < d 0 3) ∧ 0 ≤ a2 ∧ a2 < d 0 0) ∧ n ≤ 20000 ∧ 0 < xcn (xwf e d) (xlots d).toNat) ∧ ((z = 0 ∧ xta e d (a1).toNat (a2).toNat = 0) ∨ (z = 2 ∧ xta e d (a1).toNat (a2).toNat ≠ 0 ∧ xta e d (a1).toNat (a2).toNat = xcn (xwf e d) (xlots d).toNat) ∨ (z = 1 ∧ xta e d (a1).toNat (a2).toNat ≠ 0 ∧ xta e d (a1).toNat (a2).toNat ≠ xcn (xwf e d) (xlots d).toNat)) ∧ CEN T H' ce e d))
set_option maxHeartbeats 4000000 in
theorem u_101 {kt : Nat → Option mc_E} {T : wq_T} {H : wq_H} {r0 : Nat} {a1 : Int} {a2 : Int} {cu : Nat} {wa : Nat} {ce : Nat} {e : xD} {d : xD} {n : Int} (hW : WT T H) (g0 : T.2.2.2 r0 = some 1) (i1 : (-2147483648) ≤ a1 ∧ a1 ≤ 2147483647) (i2 : (-2147483648) ≤ a2 ∧ a2 ≤ 2147483647) (qcu : H r0 6 = (cu : Int)) (gcu : T.2.2.2 cu = some 27) (qwa : H r0 2 = (wa : Int)) (gwa : T.2.2.2 wa = some 6) (qce : H r0 3 = (ce : Int)) (gce : T.2.2.2 ce = some 12) (p0 : ∀ i, i ≠ 13 → e i = d i) (p1 : XW d) (p2 : e 0 3 = d 0 3) (p3 : e 0 0 = d 0 0) (p4 : H r0 8 = 0 ∨ n = xlots d) (p5 : H r0 8 ≠ 0 ∨ (d 0 3 = 0 ∧ d 0 0 = 0)) (hCU_cu : CU T H cu e d n) (hCEN_ce : CEN T H ce e d) (hHDR_ce : HDR T H ce ) : wpc kt 7 101 [.ref r0, vI a1, vI a2] T H (uq_101 r0 a1 a2 cu wa ce e d n T H) := by
  refine wp_enter e101 (Nat.le_of_ble_eq_true rfl) rfl ?_
  have f0 : wfr [(12, 5), (12, 6), (12, 7), (12, 8), (12, 9), (1, 10), (6, 5), (8, 999), (10, 999), (15, 999), (9, 999), (18, 999), (19, 999), (7, 999), (11, 999), (17, 999), (13, 999)] T H H := wfr.rf
  show wp _ _ 101 0 [(0, .ref r0), (1, vI a1), (2, vI a2)] [] _ H _
  have u1237 := CU_k hCU_cu
  have b1238 : 0 ≤ H r0 8 ∧ H r0 8 ≤ 1 := hW.box g0 (n := 13) rfl (by decide) rfl
  refine wp_of e101 c101_0 (rw_aload_n (pc' := 1) (v := .ref r0) rfl rfl rfl ?_)
  refine wp_of e101 c101_1 (rw_aload_n (pc' := 2) (v := .ref r0) rfl rfl rfl ?_)
  refine wp_of e101 c101_2 (rw_iload_n (pc' := 3) (z := a1) rfl rfl ?_)
  refine wp_of e101 c101_3 (xc_V (pc' := 6) (r := r0) (as := [vI a1]) (st := [.ref r0]) (lm_0_105) rfl rfl (Nat.le_of_ble_eq_true rfl) hW g0 sh_1 (by decide) rfl (by decide) (u_55  hW g0 ⟨by omega, by omega⟩ qcu gcu) (fun R1239 T1240 H1241 p1242 => ?_))
  obtain ⟨e1243, e1245, z1246, e1244, b1247, p1248⟩ := p1242
  subst e1243
  subst e1244
  subst e1245
  rcases p1248 with ⟨a1249, a1250⟩ | ⟨a1251, a1252⟩
  · show wp _ _ 101 6 [(0, .ref r0), (1, vI a1), (2, vI a2)] [vI z1246, .ref r0] _ H _
    refine wp_of e101 c101_6 (rw_if_eq (p1 := 21) (p2 := 9) (by decide) rfl ⟨by omega, by omega⟩ (fun c1253 => ?_) (fun c1253 => ?_))
    · exfalso
      omega
    · refine wp_of e101 c101_9 (rw_aload_n (pc' := 10) (v := .ref r0) rfl rfl rfl ?_)
      refine wp_of e101 c101_10 (rw_iload_n (pc' := 11) (z := a2) rfl rfl ?_)
      refine wp_of e101 c101_11 (xc_V (pc' := 14) (r := r0) (as := [vI a2]) (st := [.ref r0]) (lm_0_132) rfl rfl (Nat.le_of_ble_eq_true rfl) hW g0 sh_1 (by decide) rfl (by decide) (u_60  hW g0 ⟨by omega, by omega⟩ qcu gcu) (fun R1254 T1255 H1256 p1257 => ?_))
      obtain ⟨e1258, e1260, z1261, e1259, b1262, p1263⟩ := p1257
      subst e1258
      subst e1259
      subst e1260
      rcases p1263 with ⟨a1264, a1265⟩ | ⟨a1266, a1267⟩
      · show wp _ _ 101 14 [(0, .ref r0), (1, vI a1), (2, vI a2)] [vI z1261, .ref r0] _ H _
        refine wp_of e101 c101_14 (rw_if_eq (p1 := 21) (p2 := 17) (by decide) rfl ⟨by omega, by omega⟩ (fun c1268 => ?_) (fun c1268 => ?_))
        · exfalso
          omega
        · refine wp_of e101 c101_17 (rw_iconst (pc' := 18) rfl ?_)
          refine wp_of e101 c101_18 (rw_goto (p1 := 22) (by decide) ?_)
          refine wp_of e101 c101_22 (xc_V (pc' := 25) (r := r0) (as := [vI 1]) (st := []) (lm_0_198) rfl rfl (Nat.le_of_ble_eq_true rfl) hW g0 sh_1 (by decide) rfl (by decide) (u_102 (e := e) (d := d) (n := n) hW g0 ⟨by omega, by omega⟩ qcu gcu qwa gwa qce gce (by assumption) (by assumption) (by omega) (by omega) (by omega) hCU_cu hCEN_ce hHDR_ce) (fun R1269 T1270 H1271 p1272 => ?_))
          obtain ⟨e1273, w1275, f1276, z1277, e1274, b1278, p1279⟩ := p1272
          subst e1273
          subst e1274
          rcases p1279 with ⟨a1280, a1281, a1282, a1283, a1284, a1285, a1286⟩ | ⟨a1287, a1288, a1289⟩
          · have f1290 := f0.tr f1276 rfl
            show wp _ _ 101 25 [(0, .ref r0), (1, vI a1), (2, vI a2)] [vI z1277] _ H1271 _
            refine wp_of e101 c101_25 (rw_istore_n (pc' := 26) (z := z1277) (L' := [(3, vI z1277), (0, .ref r0), (1, vI a1), (2, vI a2)]) rfl rfl rfl ?_)
            refine wp_of e101 c101_26 (rw_iload_n (pc' := 27) (z := z1277) rfl rfl ?_)
            refine wp_of e101 c101_27 (rw_if_eq (p1 := 36) (p2 := 30) (by decide) rfl ⟨by omega, by omega⟩ (fun c1291 => ?_) (fun c1291 => ?_))
            · have h1292 : HV1 T H1271 ce (d 0 3) (fun p i => xhc e d p i (xlots d).toNat) := (a1286).1
              refine wp_of e101 c101_36 (rw_aload_n (pc' := 37) (v := .ref r0) rfl rfl rfl ?_)
              refine wp_of e101 c101_37 (rw_aload_n (pc' := 38) (v := .ref r0) rfl rfl rfl ?_)
              have k1293 : H1271 r0 3 = H r0 3 := (f1276 r0 3 _ g0 rfl)
              have q1294 : H1271 r0 3 = (ce : Int) := k1293.trans qce
              refine wp_of e101 c101_38 (xg_K (pc' := 41) lf_0_30 w1275 g0 sh_1 (by decide) (by decide) rfl q1294 rfl ?_)
              refine wp_of e101 c101_41 (rw_aload_n (pc' := 42) (v := .ref r0) rfl rfl rfl ?_)
              have k1295 : H1271 r0 6 = H r0 6 := (f1276 r0 6 _ g0 rfl)
              have q1296 : H1271 r0 6 = (cu : Int) := k1295.trans qcu
              refine wp_of e101 c101_42 (xg_K (pc' := 45) lf_0_51 w1275 g0 sh_1 (by decide) (by decide) rfl q1296 rfl ?_)
              refine wp_of e101 c101_45 (rw_iload_n (pc' := 46) (z := a1) rfl rfl ?_)
              refine wp_of e101 c101_46 (rw_iload_n (pc' := 47) (z := a2) rfl rfl ?_)
              have h1297 : CU T H1271 cu e d n := (CU_fr hW gcu f1276 rfl hCU_cu)
              refine wp_of e101 c101_47 (xc_V (pc' := 50) (r := ce) (as := [.ref cu, vI a1, vI a2]) (st := [.ref r0]) (lm_0_201) rfl rfl (Nat.le_of_ble_eq_true rfl) w1275 gce sh_12 (by decide) rfl (by decide) (u_103 (e := e) (d := d) (n := n) w1275 gce gcu ⟨by omega, by omega⟩ ⟨by omega, by omega⟩ (by assumption) (by assumption) (by omega) (by omega) (by omega) h1297 h1292 a1285) (fun R1298 T1299 H1300 p1301 => ?_))
              obtain ⟨e1302, e1304, z1305, e1303, b1306, p1307⟩ := p1301
              subst e1302
              subst e1303
              subst e1304
              show wp _ _ 101 50 [(3, vI z1277), (0, .ref r0), (1, vI a1), (2, vI a2)] [vI z1305, .ref r0] _ H1271 _
              refine wp_of e101 c101_50 (xc_V (pc' := 53) (r := r0) (as := [vI z1305]) (st := []) (lm_0_99) rfl rfl (Nat.le_of_ble_eq_true rfl) w1275 g0 sh_1 (by decide) rfl (by decide) (u_51  w1275 g0 ⟨by omega, by omega⟩) (fun R1309 T1310 H1311 p1312 => ?_))
              obtain ⟨e1313, w1315, f1316, z1317, e1314, b1318, p1319⟩ := p1312
              subst e1313
              subst e1314
              obtain ⟨a1320, a1321⟩ := p1319
              have f1322 := f1290.tr f1316 rfl
              show wp _ _ 101 53 [(3, vI z1277), (0, .ref r0), (1, vI a1), (2, vI a2)] [vI z1317] _ H1311 _
              have h1323 : CEN T H1311 ce e d := (CEN_fr w1275 gce f1316 rfl a1284)
              exact wp_ireturn e101 c101_53 rfl ⟨rfl, w1315, f1322, z1317, rfl, ⟨by omega, by omega⟩, (Or.inr ⟨by omega, by omega, h1323⟩)⟩
            · exfalso
              omega
          · have f1324 := f0.tr f1276 rfl
            show wp _ _ 101 25 [(0, .ref r0), (1, vI a1), (2, vI a2)] [vI z1277] _ H1271 _
            refine wp_of e101 c101_25 (rw_istore_n (pc' := 26) (z := z1277) (L' := [(3, vI z1277), (0, .ref r0), (1, vI a1), (2, vI a2)]) rfl rfl rfl ?_)
            refine wp_of e101 c101_26 (rw_iload_n (pc' := 27) (z := z1277) rfl rfl ?_)
            refine wp_of e101 c101_27 (rw_if_eq (p1 := 36) (p2 := 30) (by decide) rfl ⟨by omega, by omega⟩ (fun c1325 => ?_) (fun c1325 => ?_))
            · exfalso
              omega
            · refine wp_of e101 c101_30 (rw_aload_n (pc' := 31) (v := .ref r0) rfl rfl rfl ?_)
              refine wp_of e101 c101_31 (rw_iload_n (pc' := 32) (z := z1277) rfl rfl ?_)
              refine wp_of e101 c101_32 (xc_V (pc' := 35) (r := r0) (as := [vI z1277]) (st := []) (lm_0_70) rfl rfl (Nat.le_of_ble_eq_true rfl) w1275 g0 sh_1 (by decide) rfl (by decide) (u_12  w1275 g0 ⟨by omega, by omega⟩) (fun R1326 T1327 H1328 p1329 => ?_))
              obtain ⟨e1330, w1332, f1333, z1334, e1331, b1335, p1336⟩ := p1329
              subst e1330
              subst e1331
              obtain ⟨a1337, a1338⟩ := p1336
              have f1339 := f1324.tr f1333 rfl
              show wp _ _ 101 35 [(3, vI z1277), (0, .ref r0), (1, vI a1), (2, vI a2)] [vI z1334] _ H1328 _
              have h1340 : CEN T H1328 ce e d := (CEN_fr w1275 gce f1333 rfl a1289)
              exact wp_ireturn e101 c101_35 rfl ⟨rfl, w1332, f1339, z1334, rfl, ⟨by omega, by omega⟩, (Or.inl ⟨by omega, by omega, h1340⟩)⟩
      · show wp _ _ 101 14 [(0, .ref r0), (1, vI a1), (2, vI a2)] [vI z1261, .ref r0] _ H _
        refine wp_of e101 c101_14 (rw_if_eq (p1 := 21) (p2 := 17) (by decide) rfl ⟨by omega, by omega⟩ (fun c1341 => ?_) (fun c1341 => ?_))
        · refine wp_of e101 c101_21 (rw_iconst (pc' := 22) rfl ?_)
          refine wp_of e101 c101_22 (xc_V (pc' := 25) (r := r0) (as := [vI 0]) (st := []) (lm_0_198) rfl rfl (Nat.le_of_ble_eq_true rfl) hW g0 sh_1 (by decide) rfl (by decide) (u_102 (e := e) (d := d) (n := n) hW g0 ⟨by omega, by omega⟩ qcu gcu qwa gwa qce gce (by assumption) (by assumption) (by omega) (by omega) (by omega) hCU_cu hCEN_ce hHDR_ce) (fun R1342 T1343 H1344 p1345 => ?_))
          obtain ⟨e1346, w1348, f1349, z1350, e1347, b1351, p1352⟩ := p1345
          subst e1346
          subst e1347
          rcases p1352 with ⟨a1353, a1354, a1355, a1356, a1357, a1358, a1359⟩ | ⟨a1360, a1361, a1362⟩
          · have f1363 := f0.tr f1349 rfl
            show wp _ _ 101 25 [(0, .ref r0), (1, vI a1), (2, vI a2)] [vI z1350] _ H1344 _
            refine wp_of e101 c101_25 (rw_istore_n (pc' := 26) (z := z1350) (L' := [(3, vI z1350), (0, .ref r0), (1, vI a1), (2, vI a2)]) rfl rfl rfl ?_)
            refine wp_of e101 c101_26 (rw_iload_n (pc' := 27) (z := z1350) rfl rfl ?_)
            refine wp_of e101 c101_27 (rw_if_eq (p1 := 36) (p2 := 30) (by decide) rfl ⟨by omega, by omega⟩ (fun c1364 => ?_) (fun c1364 => ?_))
            · have h1365 : HV1 T H1344 ce (d 0 3) (fun p i => xhc e d p i (xlots d).toNat) := (a1359).1
              refine wp_of e101 c101_36 (rw_aload_n (pc' := 37) (v := .ref r0) rfl rfl rfl ?_)
              refine wp_of e101 c101_37 (rw_aload_n (pc' := 38) (v := .ref r0) rfl rfl rfl ?_)
              have k1366 : H1344 r0 3 = H r0 3 := (f1349 r0 3 _ g0 rfl)
              have q1367 : H1344 r0 3 = (ce : Int) := k1366.trans qce
              refine wp_of e101 c101_38 (xg_K (pc' := 41) lf_0_30 w1348 g0 sh_1 (by decide) (by decide) rfl q1367 rfl ?_)
              refine wp_of e101 c101_41 (rw_aload_n (pc' := 42) (v := .ref r0) rfl rfl rfl ?_)
              have k1368 : H1344 r0 6 = H r0 6 := (f1349 r0 6 _ g0 rfl)
              have q1369 : H1344 r0 6 = (cu : Int) := k1368.trans qcu
              refine wp_of e101 c101_42 (xg_K (pc' := 45) lf_0_51 w1348 g0 sh_1 (by decide) (by decide) rfl q1369 rfl ?_)
              refine wp_of e101 c101_45 (rw_iload_n (pc' := 46) (z := a1) rfl rfl ?_)
              refine wp_of e101 c101_46 (rw_iload_n (pc' := 47) (z := a2) rfl rfl ?_)
              have h1370 : CU T H1344 cu e d n := (CU_fr hW gcu f1349 rfl hCU_cu)
              refine wp_of e101 c101_47 (xc_V (pc' := 50) (r := ce) (as := [.ref cu, vI a1, vI a2]) (st := [.ref r0]) (lm_0_201) rfl rfl (Nat.le_of_ble_eq_true rfl) w1348 gce sh_12 (by decide) rfl (by decide) (u_103 (e := e) (d := d) (n := n) w1348 gce gcu ⟨by omega, by omega⟩ ⟨by omega, by omega⟩ (by assumption) (by assumption) (by omega) (by omega) (by omega) h1370 h1365 a1358) (fun R1371 T1372 H1373 p1374 => ?_))
              obtain ⟨e1375, e1377, z1378, e1376, b1379, p1380⟩ := p1374
              subst e1375
              subst e1376
              subst e1377
              show wp _ _ 101 50 [(3, vI z1350), (0, .ref r0), (1, vI a1), (2, vI a2)] [vI z1378, .ref r0] _ H1344 _
              refine wp_of e101 c101_50 (xc_V (pc' := 53) (r := r0) (as := [vI z1378]) (st := []) (lm_0_99) rfl rfl (Nat.le_of_ble_eq_true rfl) w1348 g0 sh_1 (by decide) rfl (by decide) (u_51  w1348 g0 ⟨by omega, by omega⟩) (fun R1382 T1383 H1384 p1385 => ?_))
              obtain ⟨e1386, w1388, f1389, z1390, e1387, b1391, p1392⟩ := p1385
              subst e1386
              subst e1387
              obtain ⟨a1393, a1394⟩ := p1392
              have f1395 := f1363.tr f1389 rfl
              show wp _ _ 101 53 [(3, vI z1350), (0, .ref r0), (1, vI a1), (2, vI a2)] [vI z1390] _ H1384 _
              have h1396 : CEN T H1384 ce e d := (CEN_fr w1348 gce f1389 rfl a1357)
              exact wp_ireturn e101 c101_53 rfl ⟨rfl, w1388, f1395, z1390, rfl, ⟨by omega, by omega⟩, (Or.inr ⟨by omega, by omega, h1396⟩)⟩
            · exfalso
              omega
          · have f1397 := f0.tr f1349 rfl
            show wp _ _ 101 25 [(0, .ref r0), (1, vI a1), (2, vI a2)] [vI z1350] _ H1344 _
            refine wp_of e101 c101_25 (rw_istore_n (pc' := 26) (z := z1350) (L' := [(3, vI z1350), (0, .ref r0), (1, vI a1), (2, vI a2)]) rfl rfl rfl ?_)
            refine wp_of e101 c101_26 (rw_iload_n (pc' := 27) (z := z1350) rfl rfl ?_)
            refine wp_of e101 c101_27 (rw_if_eq (p1 := 36) (p2 := 30) (by decide) rfl ⟨by omega, by omega⟩ (fun c1398 => ?_) (fun c1398 => ?_))
            · exfalso
              omega
            · refine wp_of e101 c101_30 (rw_aload_n (pc' := 31) (v := .ref r0) rfl rfl rfl ?_)
              refine wp_of e101 c101_31 (rw_iload_n (pc' := 32) (z := z1350) rfl rfl ?_)
              refine wp_of e101 c101_32 (xc_V (pc' := 35) (r := r0) (as := [vI z1350]) (st := []) (lm_0_70) rfl rfl (Nat.le_of_ble_eq_true rfl) w1348 g0 sh_1 (by decide) rfl (by decide) (u_12  w1348 g0 ⟨by omega, by omega⟩) (fun R1399 T1400 H1401 p1402 => ?_))
              obtain ⟨e1403, w1405, f1406, z1407, e1404, b1408, p1409⟩ := p1402
              subst e1403
              subst e1404
              obtain ⟨a1410, a1411⟩ := p1409
              have f1412 := f1397.tr f1406 rfl
              show wp _ _ 101 35 [(3, vI z1350), (0, .ref r0), (1, vI a1), (2, vI a2)] [vI z1407] _ H1401 _
              have h1413 : CEN T H1401 ce e d := (CEN_fr w1348 gce f1406 rfl a1362)
              exact wp_ireturn e101 c101_35 rfl ⟨rfl, w1405, f1412, z1407, rfl, ⟨by omega, by omega⟩, (Or.inl ⟨by omega, by omega, h1413⟩)⟩
        · exfalso
          omega
  · show wp _ _ 101 6 [(0, .ref r0), (1, vI a1), (2, vI a2)] [vI z1246, .ref r0] _ H _
    refine wp_of e101 c101_6 (rw_if_eq (p1 := 21) (p2 := 9) (by decide) rfl ⟨by omega, by omega⟩ (fun c1414 => ?_) (fun c1414 => ?_))
    · refine wp_of e101 c101_21 (rw_iconst (pc' := 22) rfl ?_)
      refine wp_of e101 c101_22 (xc_V (pc' := 25) (r := r0) (as := [vI 0]) (st := []) (lm_0_198) rfl rfl (Nat.le_of_ble_eq_true rfl) hW g0 sh_1 (by decide) rfl (by decide) (u_102 (e := e) (d := d) (n := n) hW g0 ⟨by omega, by omega⟩ qcu gcu qwa gwa qce gce (by assumption) (by assumption) (by omega) (by omega) (by omega) hCU_cu hCEN_ce hHDR_ce) (fun R1415 T1416 H1417 p1418 => ?_))
      obtain ⟨e1419, w1421, f1422, z1423, e1420, b1424, p1425⟩ := p1418
      subst e1419
      subst e1420
      rcases p1425 with ⟨a1426, a1427, a1428, a1429, a1430, a1431, a1432⟩ | ⟨a1433, a1434, a1435⟩
      · have f1436 := f0.tr f1422 rfl
        show wp _ _ 101 25 [(0, .ref r0), (1, vI a1), (2, vI a2)] [vI z1423] _ H1417 _
        refine wp_of e101 c101_25 (rw_istore_n (pc' := 26) (z := z1423) (L' := [(3, vI z1423), (0, .ref r0), (1, vI a1), (2, vI a2)]) rfl rfl rfl ?_)
        refine wp_of e101 c101_26 (rw_iload_n (pc' := 27) (z := z1423) rfl rfl ?_)
        refine wp_of e101 c101_27 (rw_if_eq (p1 := 36) (p2 := 30) (by decide) rfl ⟨by omega, by omega⟩ (fun c1437 => ?_) (fun c1437 => ?_))
        · have h1438 : HV1 T H1417 ce (d 0 3) (fun p i => xhc e d p i (xlots d).toNat) := (a1432).1
          refine wp_of e101 c101_36 (rw_aload_n (pc' := 37) (v := .ref r0) rfl rfl rfl ?_)
          refine wp_of e101 c101_37 (rw_aload_n (pc' := 38) (v := .ref r0) rfl rfl rfl ?_)
          have k1439 : H1417 r0 3 = H r0 3 := (f1422 r0 3 _ g0 rfl)
          have q1440 : H1417 r0 3 = (ce : Int) := k1439.trans qce
          refine wp_of e101 c101_38 (xg_K (pc' := 41) lf_0_30 w1421 g0 sh_1 (by decide) (by decide) rfl q1440 rfl ?_)
          refine wp_of e101 c101_41 (rw_aload_n (pc' := 42) (v := .ref r0) rfl rfl rfl ?_)
          have k1441 : H1417 r0 6 = H r0 6 := (f1422 r0 6 _ g0 rfl)
          have q1442 : H1417 r0 6 = (cu : Int) := k1441.trans qcu
          refine wp_of e101 c101_42 (xg_K (pc' := 45) lf_0_51 w1421 g0 sh_1 (by decide) (by decide) rfl q1442 rfl ?_)
          refine wp_of e101 c101_45 (rw_iload_n (pc' := 46) (z := a1) rfl rfl ?_)
          refine wp_of e101 c101_46 (rw_iload_n (pc' := 47) (z := a2) rfl rfl ?_)
          have h1443 : CU T H1417 cu e d n := (CU_fr hW gcu f1422 rfl hCU_cu)
          refine wp_of e101 c101_47 (xc_V (pc' := 50) (r := ce) (as := [.ref cu, vI a1, vI a2]) (st := [.ref r0]) (lm_0_201) rfl rfl (Nat.le_of_ble_eq_true rfl) w1421 gce sh_12 (by decide) rfl (by decide) (u_103 (e := e) (d := d) (n := n) w1421 gce gcu ⟨by omega, by omega⟩ ⟨by omega, by omega⟩ (by assumption) (by assumption) (by omega) (by omega) (by omega) h1443 h1438 a1431) (fun R1444 T1445 H1446 p1447 => ?_))
          obtain ⟨e1448, e1450, z1451, e1449, b1452, p1453⟩ := p1447
          subst e1448
          subst e1449
          subst e1450
          show wp _ _ 101 50 [(3, vI z1423), (0, .ref r0), (1, vI a1), (2, vI a2)] [vI z1451, .ref r0] _ H1417 _
          refine wp_of e101 c101_50 (xc_V (pc' := 53) (r := r0) (as := [vI z1451]) (st := []) (lm_0_99) rfl rfl (Nat.le_of_ble_eq_true rfl) w1421 g0 sh_1 (by decide) rfl (by decide) (u_51  w1421 g0 ⟨by omega, by omega⟩) (fun R1455 T1456 H1457 p1458 => ?_))
          obtain ⟨e1459, w1461, f1462, z1463, e1460, b1464, p1465⟩ := p1458
          subst e1459
          subst e1460
          obtain ⟨a1466, a1467⟩ := p1465
          have f1468 := f1436.tr f1462 rfl
          show wp _ _ 101 53 [(3, vI z1423), (0, .ref r0), (1, vI a1), (2, vI a2)] [vI z1463] _ H1457 _
          have h1469 : CEN T H1457 ce e d := (CEN_fr w1421 gce f1462 rfl a1430)
          exact wp_ireturn e101 c101_53 rfl ⟨rfl, w1461, f1468, z1463, rfl, ⟨by omega, by omega⟩, (Or.inr ⟨by omega, by omega, h1469⟩)⟩
        · exfalso
          omega
      · have f1470 := f0.tr f1422 rfl
        show wp _ _ 101 25 [(0, .ref r0), (1, vI a1), (2, vI a2)] [vI z1423] _ H1417 _
        refine wp_of e101 c101_25 (rw_istore_n (pc' := 26) (z := z1423) (L' := [(3, vI z1423), (0, .ref r0), (1, vI a1), (2, vI a2)]) rfl rfl rfl ?_)
        refine wp_of e101 c101_26 (rw_iload_n (pc' := 27) (z := z1423) rfl rfl ?_)
        refine wp_of e101 c101_27 (rw_if_eq (p1 := 36) (p2 := 30) (by decide) rfl ⟨by omega, by omega⟩ (fun c1471 => ?_) (fun c1471 => ?_))
        · exfalso
          omega
        · refine wp_of e101 c101_30 (rw_aload_n (pc' := 31) (v := .ref r0) rfl rfl rfl ?_)
          refine wp_of e101 c101_31 (rw_iload_n (pc' := 32) (z := z1423) rfl rfl ?_)
          refine wp_of e101 c101_32 (xc_V (pc' := 35) (r := r0) (as := [vI z1423]) (st := []) (lm_0_70) rfl rfl (Nat.le_of_ble_eq_true rfl) w1421 g0 sh_1 (by decide) rfl (by decide) (u_12  w1421 g0 ⟨by omega, by omega⟩) (fun R1472 T1473 H1474 p1475 => ?_))
          obtain ⟨e1476, w1478, f1479, z1480, e1477, b1481, p1482⟩ := p1475
          subst e1476
          subst e1477
          obtain ⟨a1483, a1484⟩ := p1482
          have f1485 := f1470.tr f1479 rfl
          show wp _ _ 101 35 [(3, vI z1423), (0, .ref r0), (1, vI a1), (2, vI a2)] [vI z1480] _ H1474 _
          have h1486 : CEN T H1474 ce e d := (CEN_fr w1421 gce f1479 rfl a1435)
          exact wp_ireturn e101 c101_35 rfl ⟨rfl, w1478, f1485, z1480, rfl, ⟨by omega, by omega⟩, (Or.inl ⟨by omega, by omega, h1486⟩)⟩
    · exfalso
      omega
/-! StrikeAwake.surely(IZ)I  -/
abbrev uq_104 (r0 : Nat) (a1 : Int) (a2 : Int) (cu : Nat) (wa : Nat) (ce : Nat) (e : xD) (d : xD) (n : Int) (T : wq_T) (H : wq_H) : Option Value → wq_T → wq_H → Prop := fun r T' H' => T = T' ∧ WT T H' ∧ wfr [(12, 5), (12, 6), (12, 7), (12, 8), (12, 9), (1, 10), (6, 5), (8, 999), (10, 999), (15, 999), (9, 999), (18, 999), (19, 999), (7, 999), (11, 999), (17, 999), (13, 999)] T H H' ∧ ∃ z : Int, some (vI z) = r ∧ ((-2147483648) ≤ z ∧ z ≤ 2147483647) ∧ ((CEN T H' ce e d))
set_option maxHeartbeats 4000000 in
theorem u_104 {kt : Nat → Option mc_E} {T : wq_T} {H : wq_H} {r0 : Nat} {a1 : Int} {a2 : Int} {cu : Nat} {wa : Nat} {ce : Nat} {e : xD} {d : xD} {n : Int} (hW : WT T H) (g0 : T.2.2.2 r0 = some 1) (i1 : (-2147483648) ≤ a1 ∧ a1 ≤ 2147483647) (i2 : 0 ≤ a2 ∧ a2 ≤ 1) (qcu : H r0 6 = (cu : Int)) (gcu : T.2.2.2 cu = some 27) (qwa : H r0 2 = (wa : Int)) (gwa : T.2.2.2 wa = some 6) (qce : H r0 3 = (ce : Int)) (gce : T.2.2.2 ce = some 12) (p0 : ∀ i, i ≠ 13 → e i = d i) (p1 : XW d) (p2 : e 0 3 = d 0 3) (p3 : e 0 0 = d 0 0) (p4 : H r0 8 = 0 ∨ n = xlots d) (p5 : H r0 8 ≠ 0 ∨ (d 0 3 = 0 ∧ d 0 0 = 0)) (hCU_cu : CU T H cu e d n) (hCEN_ce : CEN T H ce e d) (hHDR_ce : HDR T H ce ) : wpc kt 7 104 [.ref r0, vI a1, vI a2] T H (uq_104 r0 a1 a2 cu wa ce e d n T H) := by
  refine wp_enter e104 (Nat.le_of_ble_eq_true rfl) rfl ?_
  have f0 : wfr [(12, 5), (12, 6), (12, 7), (12, 8), (12, 9), (1, 10), (6, 5), (8, 999), (10, 999), (15, 999), (9, 999), (18, 999), (19, 999), (7, 999), (11, 999), (17, 999), (13, 999)] T H H := wfr.rf
  show wp _ _ 104 0 [(0, .ref r0), (1, vI a1), (2, vI a2)] [] _ H _
  have u1424 := CU_k hCU_cu
  have b1425 : 0 ≤ H r0 8 ∧ H r0 8 ≤ 1 := hW.box g0 (n := 13) rfl (by decide) rfl
  refine wp_of e104 c104_0 (rw_aload_n (pc' := 1) (v := .ref r0) rfl rfl rfl ?_)
  refine wp_of e104 c104_1 (rw_aload_n (pc' := 2) (v := .ref r0) rfl rfl rfl ?_)
  refine wp_of e104 c104_2 (rw_iload_n (pc' := 3) (z := a1) rfl rfl ?_)
  refine wp_of e104 c104_3 (xc_V (pc' := 6) (r := r0) (as := [vI a1]) (st := [.ref r0]) (lm_0_132) rfl rfl (Nat.le_of_ble_eq_true rfl) hW g0 sh_1 (by decide) rfl (by decide) (s_60 hW g0 ⟨by omega, by omega⟩) (fun R1426 T1427 H1428 p1429 => ?_))
  obtain ⟨e1430, e1432, z1434, e1431, b1435, p1433⟩ := p1429
  subst e1430
  subst e1431
  subst e1432
  show wp _ _ 104 6 [(0, .ref r0), (1, vI a1), (2, vI a2)] [vI z1434, .ref r0] _ H _
  refine wp_of e104 c104_6 (xc_V (pc' := 9) (r := r0) (as := [vI z1434]) (st := []) (lm_0_198) rfl rfl (Nat.le_of_ble_eq_true rfl) hW g0 sh_1 (by decide) rfl (by decide) (u_102 (e := e) (d := d) (n := n) hW g0 ⟨by omega, by omega⟩ qcu gcu qwa gwa qce gce (by assumption) (by assumption) (by omega) (by omega) (by omega) hCU_cu hCEN_ce hHDR_ce) (fun R1436 T1437 H1438 p1439 => ?_))
  obtain ⟨e1440, w1442, f1443, z1444, e1441, b1445, p1446⟩ := p1439
  subst e1440
  subst e1441
  rcases p1446 with ⟨a1447, a1448, a1449, a1450, a1451, a1452, a1453⟩ | ⟨a1454, a1455, a1456⟩
  · have f1457 := f0.tr f1443 rfl
    show wp _ _ 104 9 [(0, .ref r0), (1, vI a1), (2, vI a2)] [vI z1444] _ H1438 _
    refine wp_of e104 c104_9 (rw_istore_n (pc' := 10) (z := z1444) (L' := [(3, vI z1444), (0, .ref r0), (1, vI a1), (2, vI a2)]) rfl rfl rfl ?_)
    refine wp_of e104 c104_10 (rw_iload_n (pc' := 11) (z := z1444) rfl rfl ?_)
    refine wp_of e104 c104_11 (rw_if_eq (p1 := 20) (p2 := 14) (by decide) rfl ⟨by omega, by omega⟩ (fun c1458 => ?_) (fun c1458 => ?_))
    · refine wp_of e104 c104_20 (rw_iload_n (pc' := 21) (z := a2) rfl rfl ?_)
      refine wp_of e104 c104_21 (rw_if_eq (p1 := 28) (p2 := 24) (by decide) rfl ⟨by omega, by omega⟩ (fun c1459 => ?_) (fun c1459 => ?_))
      · refine wp_of e104 c104_28 (rw_iconst (pc' := 29) rfl ?_)
        refine wp_of e104 c104_29 (rw_istore (pc' := 31) (z := 0) (L' := [(4, vI 0), (3, vI z1444), (0, .ref r0), (1, vI a1), (2, vI a2)]) rfl rfl rfl ?_)
        refine wp_of e104 c104_31 (rw_iconst (pc' := 32) rfl ?_)
        refine wp_of e104 c104_32 (rw_istore (pc' := 34) (z := 0) (L' := [(5, vI 0), (4, vI 0), (3, vI z1444), (0, .ref r0), (1, vI a1), (2, vI a2)]) rfl rfl rfl ?_)
        refine wp_of e104 c104_34 (rw_iconst (pc' := 35) rfl ?_)
        refine wp_of e104 c104_35 (rw_istore (pc' := 37) (z := 0) (L' := [(6, vI 0), (5, vI 0), (4, vI 0), (3, vI z1444), (0, .ref r0), (1, vI a1), (2, vI a2)]) rfl rfl rfl ?_)
        have lp1614 : ∀ (n1615 : Nat) (v1617 : Int) (v1618 : Int), (0 ≤ v1617 ∧ v1617 ≤ 6) → (0 ≤ v1618 ∧ v1618 ≤ 16777215) → (6 - v1617).toNat = n1615 → wp kt 6 104 37 [(6, vI v1617), (5, vI v1618), (4, vI 0), (0, .ref r0), (1, vI a1)] [] T H1438 (uq_104 r0 a1 a2 cu wa ce e d n T H) := by
          intro n1615
          induction n1615 using Nat.strongRecOn with
          | _ n1615 ih1616 =>
            intro v1617 v1618 b1621 b1622 m1623
            refine wp_of e104 c104_37 (rw_iload (pc' := 39) (z := v1617) rfl rfl ?_)
            refine wp_of e104 c104_39 (rw_aload_n (pc' := 40) (v := .ref r0) rfl rfl rfl ?_)
            have k1624 : H1438 r0 6 = H r0 6 := (f1443 r0 6 _ g0 rfl)
            have q1625 : H1438 r0 6 = (cu : Int) := k1624.trans qcu
            refine wp_of e104 c104_40 (xg_K (pc' := 43) lf_0_51 w1442 g0 sh_1 (by decide) (by decide) rfl q1625 rfl ?_)
            have k1626 : H1438 cu 10 = H cu 10 := (f1443 cu 10 _ gcu rfl)
            refine wp_of e104 c104_43 (xg_I (pc' := 46) lf_0_96 w1442 gcu sh_27 (by decide) (by decide) ty_27_10 rfl rfl (fun b1627 b1628 => ?_))
            refine wp_of e104 c104_46 (rw_icmp_ge (p1 := 83) (p2 := 49) (by decide) rfl ⟨by omega, by omega⟩ ⟨by omega, by omega⟩ (fun c1629 => ?_) (fun c1629 => ?_))
            · refine wp_of e104 c104_83 (rw_aload_n (pc' := 84) (v := .ref r0) rfl rfl rfl ?_)
              refine wp_of e104 c104_84 (rw_iload (pc' := 86) (z := v1618) rfl rfl ?_)
              refine wp_of e104 c104_86 (xc_V (pc' := 89) (r := r0) (as := [vI v1618]) (st := []) (lm_0_99) rfl rfl (Nat.le_of_ble_eq_true rfl) w1442 g0 sh_1 (by decide) rfl (by decide) (s_51 w1442 g0 ⟨by omega, by omega⟩) (fun R1630 T1631 H1632 p1633 => ?_))
              obtain ⟨e1634, w1636, f1637, z1638, e1635, b1639⟩ := p1633
              subst e1634
              subst e1635
              have f1640 := f1457.tr f1637 rfl
              show wp _ _ 104 89 [(6, vI v1617), (5, vI v1618), (4, vI 0), (0, .ref r0), (1, vI a1)] [vI z1638] _ H1632 _
              have h1641 : CEN T H1632 ce e d := (CEN_fr w1442 gce f1637 rfl a1451)
              exact wp_ireturn e104 c104_89 rfl ⟨rfl, w1636, f1640, z1638, rfl, ⟨by omega, by omega⟩, (h1641)⟩
            · refine wp_of e104 c104_49 (rw_aload_n (pc' := 50) (v := .ref r0) rfl rfl rfl ?_)
              have k1642 : H1438 r0 3 = H r0 3 := (f1443 r0 3 _ g0 rfl)
              have q1643 : H1438 r0 3 = (ce : Int) := k1642.trans qce
              refine wp_of e104 c104_50 (xg_K (pc' := 53) lf_0_30 w1442 g0 sh_1 (by decide) (by decide) rfl q1643 rfl ?_)
              refine wp_of e104 c104_53 (rw_aload_n (pc' := 54) (v := .ref r0) rfl rfl rfl ?_)
              refine wp_of e104 c104_54 (xg_K (pc' := 57) lf_0_51 w1442 g0 sh_1 (by decide) (by decide) rfl q1625 rfl ?_)
              refine wp_of e104 c104_57 (rw_iload (pc' := 59) (z := v1617) rfl rfl ?_)
              refine wp_of e104 c104_59 (rw_iload_n (pc' := 60) (z := a1) rfl rfl ?_)
              refine wp_of e104 c104_60 (xc_V (pc' := 63) (r := ce) (as := [.ref cu, vI v1617, vI a1]) (st := []) (lm_0_201) rfl rfl (Nat.le_of_ble_eq_true rfl) w1442 gce sh_12 (by decide) rfl (by decide) (s_103 w1442 gce gcu ⟨by omega, by omega⟩ ⟨by omega, by omega⟩) (fun R1644 T1645 H1646 p1647 => ?_))
              obtain ⟨e1648, e1650, z1651, e1649, b1652⟩ := p1647
              subst e1648
              subst e1649
              subst e1650
              show wp _ _ 104 63 [(6, vI v1617), (5, vI v1618), (4, vI 0), (0, .ref r0), (1, vI a1)] [vI z1651] _ H1438 _
              refine wp_of e104 c104_63 (rw_iload (pc' := 65) (z := 0) rfl rfl ?_)
              refine wp_of e104 c104_65 (rw_icmp_ne (p1 := 77) (p2 := 68) (by decide) rfl ⟨by omega, by omega⟩ ⟨by omega, by omega⟩ (fun c1653 => ?_) (fun c1653 => ?_))
              · refine wp_of e104 c104_77 (rw_iinc (pc' := 80) (z := v1617) (L' := [(6, vI (v1617 + 1)), (5, vI v1618), (4, vI 0), (0, .ref r0), (1, vI a1)]) rfl rfl rfl rfl ?_)
                refine wp_of e104 c104_80 (rw_goto (p1 := 37) (by decide) ?_)
                exact wp_lc (ks := [6, 5, 4, 0, 1]) (wl_c rfl (wl_c rfl (wl_c rfl (wl_c rfl (wl_c rfl wl_n))))) rfl (by decide) (ih1616 _ (by omega) (v1617 + 1) v1618 ⟨by omega, by omega⟩ ⟨by omega, by omega⟩ rfl)
              · refine wp_of e104 c104_68 (rw_iload (pc' := 70) (z := v1618) rfl rfl ?_)
                refine wp_of e104 c104_70 (rw_iconst (pc' := 71) rfl ?_)
                refine wp_of e104 c104_71 (rw_iload (pc' := 73) (z := v1617) rfl rfl ?_)
                refine wp_of e104 c104_73 (rw_ishl (pc' := 74) rfl ?_)
                obtain ⟨v1654, e1655⟩ : ∃ x : Int, x = wq_shl 1 v1617 := ⟨_, rfl⟩
                rw [← e1655]
                have b1656 : 1 ≤ v1654 ∧ v1654 ≤ 64 := by
                  rw [e1655]
                  exact wq_shl1_6 ⟨by omega, by omega⟩
                refine wp_of e104 c104_74 (rw_ior (pc' := 75) rfl ?_)
                obtain ⟨v1657, e1658⟩ : ∃ x : Int, x = wq_or v1618 v1654 := ⟨_, rfl⟩
                rw [← e1658]
                have b1659 : 0 ≤ v1657 ∧ v1657 ≤ 16777215 := by
                  rw [e1658]
                  exact wq_or_24 ⟨by omega, by omega⟩ ⟨by omega, by omega⟩
                refine wp_of e104 c104_75 (rw_istore (pc' := 77) (z := v1657) (L' := [(5, vI v1657), (6, vI v1617), (4, vI 0), (0, .ref r0), (1, vI a1)]) rfl rfl rfl ?_)
                refine wp_of e104 c104_77 (rw_iinc (pc' := 80) (z := v1617) (L' := [(6, vI (v1617 + 1)), (5, vI v1657), (4, vI 0), (0, .ref r0), (1, vI a1)]) rfl rfl rfl rfl ?_)
                refine wp_of e104 c104_80 (rw_goto (p1 := 37) (by decide) ?_)
                exact wp_lc (ks := [6, 5, 4, 0, 1]) (wl_c rfl (wl_c rfl (wl_c rfl (wl_c rfl (wl_c rfl wl_n))))) rfl (by decide) (ih1616 _ (by omega) (v1617 + 1) v1657 ⟨by omega, by omega⟩ ⟨by omega, by omega⟩ rfl)
        exact wp_lc (ks := [6, 5, 4, 3, 0, 1, 2]) (wl_c rfl (wl_c rfl (wl_c rfl (wl_c rfl (wl_c rfl wl_n))))) rfl (by decide) (lp1614 _ 0 0 ⟨by omega, by omega⟩ ⟨by omega, by omega⟩ rfl)
      · refine wp_of e104 c104_24 (rw_iconst (pc' := 25) rfl ?_)
        refine wp_of e104 c104_25 (rw_goto (p1 := 29) (by decide) ?_)
        refine wp_of e104 c104_29 (rw_istore (pc' := 31) (z := 2) (L' := [(4, vI 2), (3, vI z1444), (0, .ref r0), (1, vI a1), (2, vI a2)]) rfl rfl rfl ?_)
        refine wp_of e104 c104_31 (rw_iconst (pc' := 32) rfl ?_)
        refine wp_of e104 c104_32 (rw_istore (pc' := 34) (z := 0) (L' := [(5, vI 0), (4, vI 2), (3, vI z1444), (0, .ref r0), (1, vI a1), (2, vI a2)]) rfl rfl rfl ?_)
        refine wp_of e104 c104_34 (rw_iconst (pc' := 35) rfl ?_)
        refine wp_of e104 c104_35 (rw_istore (pc' := 37) (z := 0) (L' := [(6, vI 0), (5, vI 0), (4, vI 2), (3, vI z1444), (0, .ref r0), (1, vI a1), (2, vI a2)]) rfl rfl rfl ?_)
        have lp1814 : ∀ (n1815 : Nat) (v1817 : Int) (v1818 : Int), (0 ≤ v1817 ∧ v1817 ≤ 6) → (0 ≤ v1818 ∧ v1818 ≤ 16777215) → (6 - v1817).toNat = n1815 → wp kt 6 104 37 [(6, vI v1817), (5, vI v1818), (4, vI 2), (0, .ref r0), (1, vI a1)] [] T H1438 (uq_104 r0 a1 a2 cu wa ce e d n T H) := by
          intro n1815
          induction n1815 using Nat.strongRecOn with
          | _ n1815 ih1816 =>
            intro v1817 v1818 b1821 b1822 m1823
            refine wp_of e104 c104_37 (rw_iload (pc' := 39) (z := v1817) rfl rfl ?_)
            refine wp_of e104 c104_39 (rw_aload_n (pc' := 40) (v := .ref r0) rfl rfl rfl ?_)
            have k1824 : H1438 r0 6 = H r0 6 := (f1443 r0 6 _ g0 rfl)
            have q1825 : H1438 r0 6 = (cu : Int) := k1824.trans qcu
            refine wp_of e104 c104_40 (xg_K (pc' := 43) lf_0_51 w1442 g0 sh_1 (by decide) (by decide) rfl q1825 rfl ?_)
            have k1826 : H1438 cu 10 = H cu 10 := (f1443 cu 10 _ gcu rfl)
            refine wp_of e104 c104_43 (xg_I (pc' := 46) lf_0_96 w1442 gcu sh_27 (by decide) (by decide) ty_27_10 rfl rfl (fun b1827 b1828 => ?_))
            refine wp_of e104 c104_46 (rw_icmp_ge (p1 := 83) (p2 := 49) (by decide) rfl ⟨by omega, by omega⟩ ⟨by omega, by omega⟩ (fun c1829 => ?_) (fun c1829 => ?_))
            · refine wp_of e104 c104_83 (rw_aload_n (pc' := 84) (v := .ref r0) rfl rfl rfl ?_)
              refine wp_of e104 c104_84 (rw_iload (pc' := 86) (z := v1818) rfl rfl ?_)
              refine wp_of e104 c104_86 (xc_V (pc' := 89) (r := r0) (as := [vI v1818]) (st := []) (lm_0_99) rfl rfl (Nat.le_of_ble_eq_true rfl) w1442 g0 sh_1 (by decide) rfl (by decide) (s_51 w1442 g0 ⟨by omega, by omega⟩) (fun R1830 T1831 H1832 p1833 => ?_))
              obtain ⟨e1834, w1836, f1837, z1838, e1835, b1839⟩ := p1833
              subst e1834
              subst e1835
              have f1840 := f1457.tr f1837 rfl
              show wp _ _ 104 89 [(6, vI v1817), (5, vI v1818), (4, vI 2), (0, .ref r0), (1, vI a1)] [vI z1838] _ H1832 _
              have h1841 : CEN T H1832 ce e d := (CEN_fr w1442 gce f1837 rfl a1451)
              exact wp_ireturn e104 c104_89 rfl ⟨rfl, w1836, f1840, z1838, rfl, ⟨by omega, by omega⟩, (h1841)⟩
            · refine wp_of e104 c104_49 (rw_aload_n (pc' := 50) (v := .ref r0) rfl rfl rfl ?_)
              have k1842 : H1438 r0 3 = H r0 3 := (f1443 r0 3 _ g0 rfl)
              have q1843 : H1438 r0 3 = (ce : Int) := k1842.trans qce
              refine wp_of e104 c104_50 (xg_K (pc' := 53) lf_0_30 w1442 g0 sh_1 (by decide) (by decide) rfl q1843 rfl ?_)
              refine wp_of e104 c104_53 (rw_aload_n (pc' := 54) (v := .ref r0) rfl rfl rfl ?_)
              refine wp_of e104 c104_54 (xg_K (pc' := 57) lf_0_51 w1442 g0 sh_1 (by decide) (by decide) rfl q1825 rfl ?_)
              refine wp_of e104 c104_57 (rw_iload (pc' := 59) (z := v1817) rfl rfl ?_)
              refine wp_of e104 c104_59 (rw_iload_n (pc' := 60) (z := a1) rfl rfl ?_)
              refine wp_of e104 c104_60 (xc_V (pc' := 63) (r := ce) (as := [.ref cu, vI v1817, vI a1]) (st := []) (lm_0_201) rfl rfl (Nat.le_of_ble_eq_true rfl) w1442 gce sh_12 (by decide) rfl (by decide) (s_103 w1442 gce gcu ⟨by omega, by omega⟩ ⟨by omega, by omega⟩) (fun R1844 T1845 H1846 p1847 => ?_))
              obtain ⟨e1848, e1850, z1851, e1849, b1852⟩ := p1847
              subst e1848
              subst e1849
              subst e1850
              show wp _ _ 104 63 [(6, vI v1817), (5, vI v1818), (4, vI 2), (0, .ref r0), (1, vI a1)] [vI z1851] _ H1438 _
              refine wp_of e104 c104_63 (rw_iload (pc' := 65) (z := 2) rfl rfl ?_)
              refine wp_of e104 c104_65 (rw_icmp_ne (p1 := 77) (p2 := 68) (by decide) rfl ⟨by omega, by omega⟩ ⟨by omega, by omega⟩ (fun c1853 => ?_) (fun c1853 => ?_))
              · refine wp_of e104 c104_77 (rw_iinc (pc' := 80) (z := v1817) (L' := [(6, vI (v1817 + 1)), (5, vI v1818), (4, vI 2), (0, .ref r0), (1, vI a1)]) rfl rfl rfl rfl ?_)
                refine wp_of e104 c104_80 (rw_goto (p1 := 37) (by decide) ?_)
                exact wp_lc (ks := [6, 5, 4, 0, 1]) (wl_c rfl (wl_c rfl (wl_c rfl (wl_c rfl (wl_c rfl wl_n))))) rfl (by decide) (ih1816 _ (by omega) (v1817 + 1) v1818 ⟨by omega, by omega⟩ ⟨by omega, by omega⟩ rfl)
              · refine wp_of e104 c104_68 (rw_iload (pc' := 70) (z := v1818) rfl rfl ?_)
                refine wp_of e104 c104_70 (rw_iconst (pc' := 71) rfl ?_)
                refine wp_of e104 c104_71 (rw_iload (pc' := 73) (z := v1817) rfl rfl ?_)
                refine wp_of e104 c104_73 (rw_ishl (pc' := 74) rfl ?_)
                obtain ⟨v1854, e1855⟩ : ∃ x : Int, x = wq_shl 1 v1817 := ⟨_, rfl⟩
                rw [← e1855]
                have b1856 : 1 ≤ v1854 ∧ v1854 ≤ 64 := by
                  rw [e1855]
                  exact wq_shl1_6 ⟨by omega, by omega⟩
                refine wp_of e104 c104_74 (rw_ior (pc' := 75) rfl ?_)
                obtain ⟨v1857, e1858⟩ : ∃ x : Int, x = wq_or v1818 v1854 := ⟨_, rfl⟩
                rw [← e1858]
                have b1859 : 0 ≤ v1857 ∧ v1857 ≤ 16777215 := by
                  rw [e1858]
                  exact wq_or_24 ⟨by omega, by omega⟩ ⟨by omega, by omega⟩
                refine wp_of e104 c104_75 (rw_istore (pc' := 77) (z := v1857) (L' := [(5, vI v1857), (6, vI v1817), (4, vI 2), (0, .ref r0), (1, vI a1)]) rfl rfl rfl ?_)
                refine wp_of e104 c104_77 (rw_iinc (pc' := 80) (z := v1817) (L' := [(6, vI (v1817 + 1)), (5, vI v1857), (4, vI 2), (0, .ref r0), (1, vI a1)]) rfl rfl rfl rfl ?_)
                refine wp_of e104 c104_80 (rw_goto (p1 := 37) (by decide) ?_)
                exact wp_lc (ks := [6, 5, 4, 0, 1]) (wl_c rfl (wl_c rfl (wl_c rfl (wl_c rfl (wl_c rfl wl_n))))) rfl (by decide) (ih1816 _ (by omega) (v1817 + 1) v1857 ⟨by omega, by omega⟩ ⟨by omega, by omega⟩ rfl)
        exact wp_lc (ks := [6, 5, 4, 3, 0, 1, 2]) (wl_c rfl (wl_c rfl (wl_c rfl (wl_c rfl (wl_c rfl wl_n))))) rfl (by decide) (lp1814 _ 0 0 ⟨by omega, by omega⟩ ⟨by omega, by omega⟩ rfl)
    · exfalso
      omega
  · have f1860 := f0.tr f1443 rfl
    show wp _ _ 104 9 [(0, .ref r0), (1, vI a1), (2, vI a2)] [vI z1444] _ H1438 _
    refine wp_of e104 c104_9 (rw_istore_n (pc' := 10) (z := z1444) (L' := [(3, vI z1444), (0, .ref r0), (1, vI a1), (2, vI a2)]) rfl rfl rfl ?_)
    refine wp_of e104 c104_10 (rw_iload_n (pc' := 11) (z := z1444) rfl rfl ?_)
    refine wp_of e104 c104_11 (rw_if_eq (p1 := 20) (p2 := 14) (by decide) rfl ⟨by omega, by omega⟩ (fun c1861 => ?_) (fun c1861 => ?_))
    · exfalso
      omega
    · refine wp_of e104 c104_14 (rw_aload_n (pc' := 15) (v := .ref r0) rfl rfl rfl ?_)
      refine wp_of e104 c104_15 (rw_iload_n (pc' := 16) (z := z1444) rfl rfl ?_)
      refine wp_of e104 c104_16 (xc_V (pc' := 19) (r := r0) (as := [vI z1444]) (st := []) (lm_0_70) rfl rfl (Nat.le_of_ble_eq_true rfl) w1442 g0 sh_1 (by decide) rfl (by decide) (s_12 w1442 g0 ⟨by omega, by omega⟩) (fun R1862 T1863 H1864 p1865 => ?_))
      obtain ⟨e1866, w1868, f1869, z1870, e1867, b1871⟩ := p1865
      subst e1866
      subst e1867
      have f1872 := f1860.tr f1869 rfl
      show wp _ _ 104 19 [(3, vI z1444), (0, .ref r0), (1, vI a1), (2, vI a2)] [vI z1870] _ H1864 _
      have h1873 : CEN T H1864 ce e d := (CEN_fr w1442 gce f1869 rfl a1456)
      exact wp_ireturn e104 c104_19 rfl ⟨rfl, w1868, f1872, z1870, rfl, ⟨by omega, by omega⟩, (h1873)⟩
/-! StrikeAwake.chance(II)I  -/
abbrev uq_105 (r0 : Nat) (a1 : Int) (a2 : Int) (cu : Nat) (wa : Nat) (ce : Nat) (e : xD) (d : xD) (n : Int) (T : wq_T) (H : wq_H) : Option Value → wq_T → wq_H → Prop := fun r T' H' => T = T' ∧ WT T H' ∧ wfr [(12, 5), (12, 6), (12, 7), (12, 8), (12, 9), (1, 10), (6, 5), (8, 999), (10, 999), (15, 999), (9, 999), (18, 999), (19, 999), (7, 999), (11, 999), (17, 999), (13, 999)] T H H' ∧ ∃ z : Int, some (vI z) = r ∧ ((-2147483648) ≤ z ∧ z ≤ 2147483647) ∧ (((z = -1) ∧ (((a1 < 0 ∨ d 0 3 ≤ a1) ∨ a2 < 0 ∨ d 0 0 ≤ a2) ∨ 20000 < n ∨ xcn (xwf e d) (xlots d).toNat ≤ 0) ∧ CEN T H' ce e d) ∨ ((((0 ≤ a1 ∧ a1 < d 0 3) ∧ 0 ≤ a2 ∧ a2 < d 0 0) ∧ n ≤ 20000 ∧ 0 < xcn (xwf e d) (xlots d).toNat) ∧ (z = (100 * xtw e d (a1).toNat (a2).toNat) / xsW e d (xlots d).toNat) ∧ CEN T H' ce e d))
set_option maxHeartbeats 4000000 in
theorem u_105 {kt : Nat → Option mc_E} {T : wq_T} {H : wq_H} {r0 : Nat} {a1 : Int} {a2 : Int} {cu : Nat} {wa : Nat} {ce : Nat} {e : xD} {d : xD} {n : Int} (hW : WT T H) (g0 : T.2.2.2 r0 = some 1) (i1 : (-2147483648) ≤ a1 ∧ a1 ≤ 2147483647) (i2 : (-2147483648) ≤ a2 ∧ a2 ≤ 2147483647) (qcu : H r0 6 = (cu : Int)) (gcu : T.2.2.2 cu = some 27) (qwa : H r0 2 = (wa : Int)) (gwa : T.2.2.2 wa = some 6) (qce : H r0 3 = (ce : Int)) (gce : T.2.2.2 ce = some 12) (p0 : ∀ i, i ≠ 13 → e i = d i) (p1 : XW d) (p2 : e 0 3 = d 0 3) (p3 : e 0 0 = d 0 0) (p4 : H r0 8 = 0 ∨ n = xlots d) (p5 : H r0 8 ≠ 0 ∨ (d 0 3 = 0 ∧ d 0 0 = 0)) (hCU_cu : CU T H cu e d n) (hCEN_ce : CEN T H ce e d) (hHDR_ce : HDR T H ce ) : wpc kt 7 105 [.ref r0, vI a1, vI a2] T H (uq_105 r0 a1 a2 cu wa ce e d n T H) := by
  refine wp_enter e105 (Nat.le_of_ble_eq_true rfl) rfl ?_
  have f0 : wfr [(12, 5), (12, 6), (12, 7), (12, 8), (12, 9), (1, 10), (6, 5), (8, 999), (10, 999), (15, 999), (9, 999), (18, 999), (19, 999), (7, 999), (11, 999), (17, 999), (13, 999)] T H H := wfr.rf
  show wp _ _ 105 0 [(0, .ref r0), (1, vI a1), (2, vI a2)] [] _ H _
  have u1237 := CU_k hCU_cu
  have b1238 : 0 ≤ H r0 8 ∧ H r0 8 ≤ 1 := hW.box g0 (n := 13) rfl (by decide) rfl
  refine wp_of e105 c105_0 (rw_aload_n (pc' := 1) (v := .ref r0) rfl rfl rfl ?_)
  refine wp_of e105 c105_1 (rw_aload_n (pc' := 2) (v := .ref r0) rfl rfl rfl ?_)
  refine wp_of e105 c105_2 (rw_iload_n (pc' := 3) (z := a1) rfl rfl ?_)
  refine wp_of e105 c105_3 (xc_V (pc' := 6) (r := r0) (as := [vI a1]) (st := [.ref r0]) (lm_0_105) rfl rfl (Nat.le_of_ble_eq_true rfl) hW g0 sh_1 (by decide) rfl (by decide) (u_55  hW g0 ⟨by omega, by omega⟩ qcu gcu) (fun R1239 T1240 H1241 p1242 => ?_))
  obtain ⟨e1243, e1245, z1246, e1244, b1247, p1248⟩ := p1242
  subst e1243
  subst e1244
  subst e1245
  rcases p1248 with ⟨a1249, a1250⟩ | ⟨a1251, a1252⟩
  · show wp _ _ 105 6 [(0, .ref r0), (1, vI a1), (2, vI a2)] [vI z1246, .ref r0] _ H _
    refine wp_of e105 c105_6 (rw_if_eq (p1 := 21) (p2 := 9) (by decide) rfl ⟨by omega, by omega⟩ (fun c1253 => ?_) (fun c1253 => ?_))
    · exfalso
      omega
    · refine wp_of e105 c105_9 (rw_aload_n (pc' := 10) (v := .ref r0) rfl rfl rfl ?_)
      refine wp_of e105 c105_10 (rw_iload_n (pc' := 11) (z := a2) rfl rfl ?_)
      refine wp_of e105 c105_11 (xc_V (pc' := 14) (r := r0) (as := [vI a2]) (st := [.ref r0]) (lm_0_132) rfl rfl (Nat.le_of_ble_eq_true rfl) hW g0 sh_1 (by decide) rfl (by decide) (u_60  hW g0 ⟨by omega, by omega⟩ qcu gcu) (fun R1254 T1255 H1256 p1257 => ?_))
      obtain ⟨e1258, e1260, z1261, e1259, b1262, p1263⟩ := p1257
      subst e1258
      subst e1259
      subst e1260
      rcases p1263 with ⟨a1264, a1265⟩ | ⟨a1266, a1267⟩
      · show wp _ _ 105 14 [(0, .ref r0), (1, vI a1), (2, vI a2)] [vI z1261, .ref r0] _ H _
        refine wp_of e105 c105_14 (rw_if_eq (p1 := 21) (p2 := 17) (by decide) rfl ⟨by omega, by omega⟩ (fun c1268 => ?_) (fun c1268 => ?_))
        · exfalso
          omega
        · refine wp_of e105 c105_17 (rw_iconst (pc' := 18) rfl ?_)
          refine wp_of e105 c105_18 (rw_goto (p1 := 22) (by decide) ?_)
          refine wp_of e105 c105_22 (xc_V (pc' := 25) (r := r0) (as := [vI 1]) (st := []) (lm_0_198) rfl rfl (Nat.le_of_ble_eq_true rfl) hW g0 sh_1 (by decide) rfl (by decide) (u_102 (e := e) (d := d) (n := n) hW g0 ⟨by omega, by omega⟩ qcu gcu qwa gwa qce gce (by assumption) (by assumption) (by omega) (by omega) (by omega) hCU_cu hCEN_ce hHDR_ce) (fun R1269 T1270 H1271 p1272 => ?_))
          obtain ⟨e1273, w1275, f1276, z1277, e1274, b1278, p1279⟩ := p1272
          subst e1273
          subst e1274
          rcases p1279 with ⟨a1280, a1281, a1282, a1283, a1284, a1285, a1286⟩ | ⟨a1287, a1288, a1289⟩
          · have f1290 := f0.tr f1276 rfl
            show wp _ _ 105 25 [(0, .ref r0), (1, vI a1), (2, vI a2)] [vI z1277] _ H1271 _
            refine wp_of e105 c105_25 (rw_istore_n (pc' := 26) (z := z1277) (L' := [(3, vI z1277), (0, .ref r0), (1, vI a1), (2, vI a2)]) rfl rfl rfl ?_)
            refine wp_of e105 c105_26 (rw_iload_n (pc' := 27) (z := z1277) rfl rfl ?_)
            refine wp_of e105 c105_27 (rw_if_eq (p1 := 36) (p2 := 30) (by decide) rfl ⟨by omega, by omega⟩ (fun c1291 => ?_) (fun c1291 => ?_))
            · have h1292 : HV2 T H1271 ce (d 0 3) (fun p i => xhw e d p i (xlots d).toNat) := (a1286).2.1
              have _wp := xsW_p e d (by omega) (xlots d).toNat (by omega)
              refine wp_of e105 c105_36 (rw_aload_n (pc' := 37) (v := .ref r0) rfl rfl rfl ?_)
              refine wp_of e105 c105_37 (rw_aload_n (pc' := 38) (v := .ref r0) rfl rfl rfl ?_)
              have k1293 : H1271 r0 3 = H r0 3 := (f1276 r0 3 _ g0 rfl)
              have q1294 : H1271 r0 3 = (ce : Int) := k1293.trans qce
              refine wp_of e105 c105_38 (xg_K (pc' := 41) lf_0_30 w1275 g0 sh_1 (by decide) (by decide) rfl q1294 rfl ?_)
              refine wp_of e105 c105_41 (rw_aload_n (pc' := 42) (v := .ref r0) rfl rfl rfl ?_)
              have k1295 : H1271 r0 6 = H r0 6 := (f1276 r0 6 _ g0 rfl)
              have q1296 : H1271 r0 6 = (cu : Int) := k1295.trans qcu
              refine wp_of e105 c105_42 (xg_K (pc' := 45) lf_0_51 w1275 g0 sh_1 (by decide) (by decide) rfl q1296 rfl ?_)
              refine wp_of e105 c105_45 (rw_iload_n (pc' := 46) (z := a1) rfl rfl ?_)
              refine wp_of e105 c105_46 (rw_iload_n (pc' := 47) (z := a2) rfl rfl ?_)
              have h1297 : CU T H1271 cu e d n := (CU_fr hW gcu f1276 rfl hCU_cu)
              refine wp_of e105 c105_47 (xc_V (pc' := 50) (r := ce) (as := [.ref cu, vI a1, vI a2]) (st := [.ref r0]) (lm_0_204) rfl rfl (Nat.le_of_ble_eq_true rfl) w1275 gce sh_12 (by decide) rfl (by decide) (u_106 (e := e) (d := d) (n := n) w1275 gce gcu ⟨by omega, by omega⟩ ⟨by omega, by omega⟩ (by assumption) (by assumption) (by omega) (by omega) (by omega) (by omega) h1297 h1292 a1285) (fun R1298 T1299 H1300 p1301 => ?_))
              obtain ⟨e1302, e1304, z1305, e1303, b1306, p1307⟩ := p1301
              subst e1302
              subst e1303
              subst e1304
              show wp _ _ 105 50 [(3, vI z1277), (0, .ref r0), (1, vI a1), (2, vI a2)] [vI z1305, .ref r0] _ H1271 _
              refine wp_of e105 c105_50 (xc_V (pc' := 53) (r := r0) (as := [vI z1305]) (st := []) (lm_0_99) rfl rfl (Nat.le_of_ble_eq_true rfl) w1275 g0 sh_1 (by decide) rfl (by decide) (u_51  w1275 g0 ⟨by omega, by omega⟩) (fun R1309 T1310 H1311 p1312 => ?_))
              obtain ⟨e1313, w1315, f1316, z1317, e1314, b1318, p1319⟩ := p1312
              subst e1313
              subst e1314
              obtain ⟨a1320, a1321⟩ := p1319
              have f1322 := f1290.tr f1316 rfl
              show wp _ _ 105 53 [(3, vI z1277), (0, .ref r0), (1, vI a1), (2, vI a2)] [vI z1317] _ H1311 _
              have h1323 : CEN T H1311 ce e d := (CEN_fr w1275 gce f1316 rfl a1284)
              exact wp_ireturn e105 c105_53 rfl ⟨rfl, w1315, f1322, z1317, rfl, ⟨by omega, by omega⟩, (Or.inr ⟨by omega, by omega, h1323⟩)⟩
            · exfalso
              omega
          · have f1324 := f0.tr f1276 rfl
            show wp _ _ 105 25 [(0, .ref r0), (1, vI a1), (2, vI a2)] [vI z1277] _ H1271 _
            refine wp_of e105 c105_25 (rw_istore_n (pc' := 26) (z := z1277) (L' := [(3, vI z1277), (0, .ref r0), (1, vI a1), (2, vI a2)]) rfl rfl rfl ?_)
            refine wp_of e105 c105_26 (rw_iload_n (pc' := 27) (z := z1277) rfl rfl ?_)
            refine wp_of e105 c105_27 (rw_if_eq (p1 := 36) (p2 := 30) (by decide) rfl ⟨by omega, by omega⟩ (fun c1325 => ?_) (fun c1325 => ?_))
            · exfalso
              omega
            · refine wp_of e105 c105_30 (rw_aload_n (pc' := 31) (v := .ref r0) rfl rfl rfl ?_)
              refine wp_of e105 c105_31 (rw_iload_n (pc' := 32) (z := z1277) rfl rfl ?_)
              refine wp_of e105 c105_32 (xc_V (pc' := 35) (r := r0) (as := [vI z1277]) (st := []) (lm_0_70) rfl rfl (Nat.le_of_ble_eq_true rfl) w1275 g0 sh_1 (by decide) rfl (by decide) (u_12  w1275 g0 ⟨by omega, by omega⟩) (fun R1326 T1327 H1328 p1329 => ?_))
              obtain ⟨e1330, w1332, f1333, z1334, e1331, b1335, p1336⟩ := p1329
              subst e1330
              subst e1331
              obtain ⟨a1337, a1338⟩ := p1336
              have f1339 := f1324.tr f1333 rfl
              show wp _ _ 105 35 [(3, vI z1277), (0, .ref r0), (1, vI a1), (2, vI a2)] [vI z1334] _ H1328 _
              have h1340 : CEN T H1328 ce e d := (CEN_fr w1275 gce f1333 rfl a1289)
              exact wp_ireturn e105 c105_35 rfl ⟨rfl, w1332, f1339, z1334, rfl, ⟨by omega, by omega⟩, (Or.inl ⟨by omega, by omega, h1340⟩)⟩
      · show wp _ _ 105 14 [(0, .ref r0), (1, vI a1), (2, vI a2)] [vI z1261, .ref r0] _ H _
        refine wp_of e105 c105_14 (rw_if_eq (p1 := 21) (p2 := 17) (by decide) rfl ⟨by omega, by omega⟩ (fun c1341 => ?_) (fun c1341 => ?_))
        · refine wp_of e105 c105_21 (rw_iconst (pc' := 22) rfl ?_)
          refine wp_of e105 c105_22 (xc_V (pc' := 25) (r := r0) (as := [vI 0]) (st := []) (lm_0_198) rfl rfl (Nat.le_of_ble_eq_true rfl) hW g0 sh_1 (by decide) rfl (by decide) (u_102 (e := e) (d := d) (n := n) hW g0 ⟨by omega, by omega⟩ qcu gcu qwa gwa qce gce (by assumption) (by assumption) (by omega) (by omega) (by omega) hCU_cu hCEN_ce hHDR_ce) (fun R1342 T1343 H1344 p1345 => ?_))
          obtain ⟨e1346, w1348, f1349, z1350, e1347, b1351, p1352⟩ := p1345
          subst e1346
          subst e1347
          rcases p1352 with ⟨a1353, a1354, a1355, a1356, a1357, a1358, a1359⟩ | ⟨a1360, a1361, a1362⟩
          · have f1363 := f0.tr f1349 rfl
            show wp _ _ 105 25 [(0, .ref r0), (1, vI a1), (2, vI a2)] [vI z1350] _ H1344 _
            refine wp_of e105 c105_25 (rw_istore_n (pc' := 26) (z := z1350) (L' := [(3, vI z1350), (0, .ref r0), (1, vI a1), (2, vI a2)]) rfl rfl rfl ?_)
            refine wp_of e105 c105_26 (rw_iload_n (pc' := 27) (z := z1350) rfl rfl ?_)
            refine wp_of e105 c105_27 (rw_if_eq (p1 := 36) (p2 := 30) (by decide) rfl ⟨by omega, by omega⟩ (fun c1364 => ?_) (fun c1364 => ?_))
            · have h1365 : HV2 T H1344 ce (d 0 3) (fun p i => xhw e d p i (xlots d).toNat) := (a1359).2.1
              have _wp := xsW_p e d (by omega) (xlots d).toNat (by omega)
              refine wp_of e105 c105_36 (rw_aload_n (pc' := 37) (v := .ref r0) rfl rfl rfl ?_)
              refine wp_of e105 c105_37 (rw_aload_n (pc' := 38) (v := .ref r0) rfl rfl rfl ?_)
              have k1366 : H1344 r0 3 = H r0 3 := (f1349 r0 3 _ g0 rfl)
              have q1367 : H1344 r0 3 = (ce : Int) := k1366.trans qce
              refine wp_of e105 c105_38 (xg_K (pc' := 41) lf_0_30 w1348 g0 sh_1 (by decide) (by decide) rfl q1367 rfl ?_)
              refine wp_of e105 c105_41 (rw_aload_n (pc' := 42) (v := .ref r0) rfl rfl rfl ?_)
              have k1368 : H1344 r0 6 = H r0 6 := (f1349 r0 6 _ g0 rfl)
              have q1369 : H1344 r0 6 = (cu : Int) := k1368.trans qcu
              refine wp_of e105 c105_42 (xg_K (pc' := 45) lf_0_51 w1348 g0 sh_1 (by decide) (by decide) rfl q1369 rfl ?_)
              refine wp_of e105 c105_45 (rw_iload_n (pc' := 46) (z := a1) rfl rfl ?_)
              refine wp_of e105 c105_46 (rw_iload_n (pc' := 47) (z := a2) rfl rfl ?_)
              have h1370 : CU T H1344 cu e d n := (CU_fr hW gcu f1349 rfl hCU_cu)
              refine wp_of e105 c105_47 (xc_V (pc' := 50) (r := ce) (as := [.ref cu, vI a1, vI a2]) (st := [.ref r0]) (lm_0_204) rfl rfl (Nat.le_of_ble_eq_true rfl) w1348 gce sh_12 (by decide) rfl (by decide) (u_106 (e := e) (d := d) (n := n) w1348 gce gcu ⟨by omega, by omega⟩ ⟨by omega, by omega⟩ (by assumption) (by assumption) (by omega) (by omega) (by omega) (by omega) h1370 h1365 a1358) (fun R1371 T1372 H1373 p1374 => ?_))
              obtain ⟨e1375, e1377, z1378, e1376, b1379, p1380⟩ := p1374
              subst e1375
              subst e1376
              subst e1377
              show wp _ _ 105 50 [(3, vI z1350), (0, .ref r0), (1, vI a1), (2, vI a2)] [vI z1378, .ref r0] _ H1344 _
              refine wp_of e105 c105_50 (xc_V (pc' := 53) (r := r0) (as := [vI z1378]) (st := []) (lm_0_99) rfl rfl (Nat.le_of_ble_eq_true rfl) w1348 g0 sh_1 (by decide) rfl (by decide) (u_51  w1348 g0 ⟨by omega, by omega⟩) (fun R1382 T1383 H1384 p1385 => ?_))
              obtain ⟨e1386, w1388, f1389, z1390, e1387, b1391, p1392⟩ := p1385
              subst e1386
              subst e1387
              obtain ⟨a1393, a1394⟩ := p1392
              have f1395 := f1363.tr f1389 rfl
              show wp _ _ 105 53 [(3, vI z1350), (0, .ref r0), (1, vI a1), (2, vI a2)] [vI z1390] _ H1384 _
              have h1396 : CEN T H1384 ce e d := (CEN_fr w1348 gce f1389 rfl a1357)
              exact wp_ireturn e105 c105_53 rfl ⟨rfl, w1388, f1395, z1390, rfl, ⟨by omega, by omega⟩, (Or.inr ⟨by omega, by omega, h1396⟩)⟩
            · exfalso
              omega
          · have f1397 := f0.tr f1349 rfl
            show wp _ _ 105 25 [(0, .ref r0), (1, vI a1), (2, vI a2)] [vI z1350] _ H1344 _
            refine wp_of e105 c105_25 (rw_istore_n (pc' := 26) (z := z1350) (L' := [(3, vI z1350), (0, .ref r0), (1, vI a1), (2, vI a2)]) rfl rfl rfl ?_)
            refine wp_of e105 c105_26 (rw_iload_n (pc' := 27) (z := z1350) rfl rfl ?_)
            refine wp_of e105 c105_27 (rw_if_eq (p1 := 36) (p2 := 30) (by decide) rfl ⟨by omega, by omega⟩ (fun c1398 => ?_) (fun c1398 => ?_))
            · exfalso
              omega
            · refine wp_of e105 c105_30 (rw_aload_n (pc' := 31) (v := .ref r0) rfl rfl rfl ?_)
              refine wp_of e105 c105_31 (rw_iload_n (pc' := 32) (z := z1350) rfl rfl ?_)
              refine wp_of e105 c105_32 (xc_V (pc' := 35) (r := r0) (as := [vI z1350]) (st := []) (lm_0_70) rfl rfl (Nat.le_of_ble_eq_true rfl) w1348 g0 sh_1 (by decide) rfl (by decide) (u_12  w1348 g0 ⟨by omega, by omega⟩) (fun R1399 T1400 H1401 p1402 => ?_))
              obtain ⟨e1403, w1405, f1406, z1407, e1404, b1408, p1409⟩ := p1402
              subst e1403
              subst e1404
              obtain ⟨a1410, a1411⟩ := p1409
              have f1412 := f1397.tr f1406 rfl
              show wp _ _ 105 35 [(3, vI z1350), (0, .ref r0), (1, vI a1), (2, vI a2)] [vI z1407] _ H1401 _
              have h1413 : CEN T H1401 ce e d := (CEN_fr w1348 gce f1406 rfl a1362)
              exact wp_ireturn e105 c105_35 rfl ⟨rfl, w1405, f1412, z1407, rfl, ⟨by omega, by omega⟩, (Or.inl ⟨by omega, by omega, h1413⟩)⟩
        · exfalso
          omega
  · show wp _ _ 105 6 [(0, .ref r0), (1, vI a1), (2, vI a2)] [vI z1246, .ref r0] _ H _
    refine wp_of e105 c105_6 (rw_if_eq (p1 := 21) (p2 := 9) (by decide) rfl ⟨by omega, by omega⟩ (fun c1414 => ?_) (fun c1414 => ?_))
    · refine wp_of e105 c105_21 (rw_iconst (pc' := 22) rfl ?_)
      refine wp_of e105 c105_22 (xc_V (pc' := 25) (r := r0) (as := [vI 0]) (st := []) (lm_0_198) rfl rfl (Nat.le_of_ble_eq_true rfl) hW g0 sh_1 (by decide) rfl (by decide) (u_102 (e := e) (d := d) (n := n) hW g0 ⟨by omega, by omega⟩ qcu gcu qwa gwa qce gce (by assumption) (by assumption) (by omega) (by omega) (by omega) hCU_cu hCEN_ce hHDR_ce) (fun R1415 T1416 H1417 p1418 => ?_))
      obtain ⟨e1419, w1421, f1422, z1423, e1420, b1424, p1425⟩ := p1418
      subst e1419
      subst e1420
      rcases p1425 with ⟨a1426, a1427, a1428, a1429, a1430, a1431, a1432⟩ | ⟨a1433, a1434, a1435⟩
      · have f1436 := f0.tr f1422 rfl
        show wp _ _ 105 25 [(0, .ref r0), (1, vI a1), (2, vI a2)] [vI z1423] _ H1417 _
        refine wp_of e105 c105_25 (rw_istore_n (pc' := 26) (z := z1423) (L' := [(3, vI z1423), (0, .ref r0), (1, vI a1), (2, vI a2)]) rfl rfl rfl ?_)
        refine wp_of e105 c105_26 (rw_iload_n (pc' := 27) (z := z1423) rfl rfl ?_)
        refine wp_of e105 c105_27 (rw_if_eq (p1 := 36) (p2 := 30) (by decide) rfl ⟨by omega, by omega⟩ (fun c1437 => ?_) (fun c1437 => ?_))
        · have h1438 : HV2 T H1417 ce (d 0 3) (fun p i => xhw e d p i (xlots d).toNat) := (a1432).2.1
          have _wp := xsW_p e d (by omega) (xlots d).toNat (by omega)
          refine wp_of e105 c105_36 (rw_aload_n (pc' := 37) (v := .ref r0) rfl rfl rfl ?_)
          refine wp_of e105 c105_37 (rw_aload_n (pc' := 38) (v := .ref r0) rfl rfl rfl ?_)
          have k1439 : H1417 r0 3 = H r0 3 := (f1422 r0 3 _ g0 rfl)
          have q1440 : H1417 r0 3 = (ce : Int) := k1439.trans qce
          refine wp_of e105 c105_38 (xg_K (pc' := 41) lf_0_30 w1421 g0 sh_1 (by decide) (by decide) rfl q1440 rfl ?_)
          refine wp_of e105 c105_41 (rw_aload_n (pc' := 42) (v := .ref r0) rfl rfl rfl ?_)
          have k1441 : H1417 r0 6 = H r0 6 := (f1422 r0 6 _ g0 rfl)
          have q1442 : H1417 r0 6 = (cu : Int) := k1441.trans qcu
          refine wp_of e105 c105_42 (xg_K (pc' := 45) lf_0_51 w1421 g0 sh_1 (by decide) (by decide) rfl q1442 rfl ?_)
          refine wp_of e105 c105_45 (rw_iload_n (pc' := 46) (z := a1) rfl rfl ?_)
          refine wp_of e105 c105_46 (rw_iload_n (pc' := 47) (z := a2) rfl rfl ?_)
          have h1443 : CU T H1417 cu e d n := (CU_fr hW gcu f1422 rfl hCU_cu)
          refine wp_of e105 c105_47 (xc_V (pc' := 50) (r := ce) (as := [.ref cu, vI a1, vI a2]) (st := [.ref r0]) (lm_0_204) rfl rfl (Nat.le_of_ble_eq_true rfl) w1421 gce sh_12 (by decide) rfl (by decide) (u_106 (e := e) (d := d) (n := n) w1421 gce gcu ⟨by omega, by omega⟩ ⟨by omega, by omega⟩ (by assumption) (by assumption) (by omega) (by omega) (by omega) (by omega) h1443 h1438 a1431) (fun R1444 T1445 H1446 p1447 => ?_))
          obtain ⟨e1448, e1450, z1451, e1449, b1452, p1453⟩ := p1447
          subst e1448
          subst e1449
          subst e1450
          show wp _ _ 105 50 [(3, vI z1423), (0, .ref r0), (1, vI a1), (2, vI a2)] [vI z1451, .ref r0] _ H1417 _
          refine wp_of e105 c105_50 (xc_V (pc' := 53) (r := r0) (as := [vI z1451]) (st := []) (lm_0_99) rfl rfl (Nat.le_of_ble_eq_true rfl) w1421 g0 sh_1 (by decide) rfl (by decide) (u_51  w1421 g0 ⟨by omega, by omega⟩) (fun R1455 T1456 H1457 p1458 => ?_))
          obtain ⟨e1459, w1461, f1462, z1463, e1460, b1464, p1465⟩ := p1458
          subst e1459
          subst e1460
          obtain ⟨a1466, a1467⟩ := p1465
          have f1468 := f1436.tr f1462 rfl
          show wp _ _ 105 53 [(3, vI z1423), (0, .ref r0), (1, vI a1), (2, vI a2)] [vI z1463] _ H1457 _
          have h1469 : CEN T H1457 ce e d := (CEN_fr w1421 gce f1462 rfl a1430)
          exact wp_ireturn e105 c105_53 rfl ⟨rfl, w1461, f1468, z1463, rfl, ⟨by omega, by omega⟩, (Or.inr ⟨by omega, by omega, h1469⟩)⟩
        · exfalso
          omega
      · have f1470 := f0.tr f1422 rfl
        show wp _ _ 105 25 [(0, .ref r0), (1, vI a1), (2, vI a2)] [vI z1423] _ H1417 _
        refine wp_of e105 c105_25 (rw_istore_n (pc' := 26) (z := z1423) (L' := [(3, vI z1423), (0, .ref r0), (1, vI a1), (2, vI a2)]) rfl rfl rfl ?_)
        refine wp_of e105 c105_26 (rw_iload_n (pc' := 27) (z := z1423) rfl rfl ?_)
        refine wp_of e105 c105_27 (rw_if_eq (p1 := 36) (p2 := 30) (by decide) rfl ⟨by omega, by omega⟩ (fun c1471 => ?_) (fun c1471 => ?_))
        · exfalso
          omega
        · refine wp_of e105 c105_30 (rw_aload_n (pc' := 31) (v := .ref r0) rfl rfl rfl ?_)
          refine wp_of e105 c105_31 (rw_iload_n (pc' := 32) (z := z1423) rfl rfl ?_)
          refine wp_of e105 c105_32 (xc_V (pc' := 35) (r := r0) (as := [vI z1423]) (st := []) (lm_0_70) rfl rfl (Nat.le_of_ble_eq_true rfl) w1421 g0 sh_1 (by decide) rfl (by decide) (u_12  w1421 g0 ⟨by omega, by omega⟩) (fun R1472 T1473 H1474 p1475 => ?_))
          obtain ⟨e1476, w1478, f1479, z1480, e1477, b1481, p1482⟩ := p1475
          subst e1476
          subst e1477
          obtain ⟨a1483, a1484⟩ := p1482
          have f1485 := f1470.tr f1479 rfl
          show wp _ _ 105 35 [(3, vI z1423), (0, .ref r0), (1, vI a1), (2, vI a2)] [vI z1480] _ H1474 _
          have h1486 : CEN T H1474 ce e d := (CEN_fr w1421 gce f1479 rfl a1435)
          exact wp_ireturn e105 c105_35 rfl ⟨rfl, w1478, f1485, z1480, rfl, ⟨by omega, by omega⟩, (Or.inl ⟨by omega, by omega, h1486⟩)⟩
    · exfalso
      omega
/-! StrikeAwake.likeliest(I)I  -/
abbrev uq_107 (r0 : Nat) (a1 : Int) (cu : Nat) (wa : Nat) (ce : Nat) (e : xD) (d : xD) (n : Int) (T : wq_T) (H : wq_H) : Option Value → wq_T → wq_H → Prop := fun r T' H' => T = T' ∧ WT T H' ∧ wfr [(12, 5), (12, 6), (12, 7), (12, 8), (12, 9), (1, 10), (6, 5), (8, 999), (10, 999), (15, 999), (9, 999), (18, 999), (19, 999), (7, 999), (11, 999), (17, 999), (13, 999)] T H H' ∧ ∃ z : Int, some (vI z) = r ∧ ((-2147483648) ≤ z ∧ z ≤ 2147483647) ∧ (((z = -1) ∧ ((a1 < 0 ∨ d 0 3 ≤ a1) ∨ 20000 < n ∨ xcn (xwf e d) (xlots d).toNat ≤ 0) ∧ CEN T H' ce e d) ∨ (((0 ≤ a1 ∧ a1 < d 0 3) ∧ n ≤ 20000 ∧ 0 < xcn (xwf e d) (xlots d).toNat) ∧ (z = xlot d (xbW e d (xlots d).toNat).2 (a1).toNat) ∧ CEN T H' ce e d))
set_option maxHeartbeats 4000000 in
theorem u_107 {kt : Nat → Option mc_E} {T : wq_T} {H : wq_H} {r0 : Nat} {a1 : Int} {cu : Nat} {wa : Nat} {ce : Nat} {e : xD} {d : xD} {n : Int} (hW : WT T H) (g0 : T.2.2.2 r0 = some 1) (i1 : (-2147483648) ≤ a1 ∧ a1 ≤ 2147483647) (qcu : H r0 6 = (cu : Int)) (gcu : T.2.2.2 cu = some 27) (qwa : H r0 2 = (wa : Int)) (gwa : T.2.2.2 wa = some 6) (qce : H r0 3 = (ce : Int)) (gce : T.2.2.2 ce = some 12) (p0 : ∀ i, i ≠ 13 → e i = d i) (p1 : XW d) (p2 : e 0 3 = d 0 3) (p3 : e 0 0 = d 0 0) (p4 : H r0 8 = 0 ∨ n = xlots d) (p5 : H r0 8 ≠ 0 ∨ (d 0 3 = 0 ∧ d 0 0 = 0)) (hCU_cu : CU T H cu e d n) (hCEN_ce : CEN T H ce e d) (hHDR_ce : HDR T H ce ) : wpc kt 7 107 [.ref r0, vI a1] T H (uq_107 r0 a1 cu wa ce e d n T H) := by
  refine wp_enter e107 (Nat.le_of_ble_eq_true rfl) rfl ?_
  have f0 : wfr [(12, 5), (12, 6), (12, 7), (12, 8), (12, 9), (1, 10), (6, 5), (8, 999), (10, 999), (15, 999), (9, 999), (18, 999), (19, 999), (7, 999), (11, 999), (17, 999), (13, 999)] T H H := wfr.rf
  show wp _ _ 107 0 [(0, .ref r0), (1, vI a1)] [] _ H _
  have u1155 := CU_k hCU_cu
  have b1156 : 0 ≤ H r0 8 ∧ H r0 8 ≤ 1 := hW.box g0 (n := 13) rfl (by decide) rfl
  refine wp_of e107 c107_0 (rw_aload_n (pc' := 1) (v := .ref r0) rfl rfl rfl ?_)
  refine wp_of e107 c107_1 (rw_aload_n (pc' := 2) (v := .ref r0) rfl rfl rfl ?_)
  refine wp_of e107 c107_2 (rw_iload_n (pc' := 3) (z := a1) rfl rfl ?_)
  refine wp_of e107 c107_3 (xc_V (pc' := 6) (r := r0) (as := [vI a1]) (st := [.ref r0]) (lm_0_105) rfl rfl (Nat.le_of_ble_eq_true rfl) hW g0 sh_1 (by decide) rfl (by decide) (u_55  hW g0 ⟨by omega, by omega⟩ qcu gcu) (fun R1157 T1158 H1159 p1160 => ?_))
  obtain ⟨e1161, e1163, z1164, e1162, b1165, p1166⟩ := p1160
  subst e1161
  subst e1162
  subst e1163
  rcases p1166 with ⟨a1167, a1168⟩ | ⟨a1169, a1170⟩
  · show wp _ _ 107 6 [(0, .ref r0), (1, vI a1)] [vI z1164, .ref r0] _ H _
    refine wp_of e107 c107_6 (xc_V (pc' := 9) (r := r0) (as := [vI z1164]) (st := []) (lm_0_198) rfl rfl (Nat.le_of_ble_eq_true rfl) hW g0 sh_1 (by decide) rfl (by decide) (u_102 (e := e) (d := d) (n := n) hW g0 ⟨by omega, by omega⟩ qcu gcu qwa gwa qce gce (by assumption) (by assumption) (by omega) (by omega) (by omega) hCU_cu hCEN_ce hHDR_ce) (fun R1171 T1172 H1173 p1174 => ?_))
    obtain ⟨e1175, w1177, f1178, z1179, e1176, b1180, p1181⟩ := p1174
    subst e1175
    subst e1176
    rcases p1181 with ⟨a1182, a1183, a1184, a1185, a1186, a1187, a1188⟩ | ⟨a1189, a1190, a1191⟩
    · have f1192 := f0.tr f1178 rfl
      show wp _ _ 107 9 [(0, .ref r0), (1, vI a1)] [vI z1179] _ H1173 _
      refine wp_of e107 c107_9 (rw_istore_n (pc' := 10) (z := z1179) (L' := [(2, vI z1179), (0, .ref r0), (1, vI a1)]) rfl rfl rfl ?_)
      refine wp_of e107 c107_10 (rw_iload_n (pc' := 11) (z := z1179) rfl rfl ?_)
      refine wp_of e107 c107_11 (rw_if_eq (p1 := 20) (p2 := 14) (by decide) rfl ⟨by omega, by omega⟩ (fun c1193 => ?_) (fun c1193 => ?_))
      · have _cbb := a1187
        have _cb := _cbb.1
        have _cb6 := _cbb.2.1
        have _cb8 := _cbb.2.2.1
        have _cb7 := _cbb.2.2.2.1
        have h1194 : CEM T H1173 ce (xwf e d) (xlots d).toNat := _cbb.2.2.2.2
        have _bw := @xbW_2 d e (by omega) (xlots d).toNat (by omega)
        refine wp_of e107 c107_20 (rw_aload_n (pc' := 21) (v := .ref r0) rfl rfl rfl ?_)
        refine wp_of e107 c107_21 (rw_aload_n (pc' := 22) (v := .ref r0) rfl rfl rfl ?_)
        have k1195 : H1173 r0 6 = H r0 6 := (f1178 r0 6 _ g0 rfl)
        have q1196 : H1173 r0 6 = (cu : Int) := k1195.trans qcu
        refine wp_of e107 c107_22 (xg_K (pc' := 25) lf_0_51 w1177 g0 sh_1 (by decide) (by decide) rfl q1196 rfl ?_)
        refine wp_of e107 c107_25 (rw_aload_n (pc' := 26) (v := .ref r0) rfl rfl rfl ?_)
        have k1197 : H1173 r0 3 = H r0 3 := (f1178 r0 3 _ g0 rfl)
        have q1198 : H1173 r0 3 = (ce : Int) := k1197.trans qce
        refine wp_of e107 c107_26 (xg_K (pc' := 29) lf_0_30 w1177 g0 sh_1 (by decide) (by decide) rfl q1198 rfl ?_)
        refine wp_of e107 c107_29 (xg_I (pc' := 32) lf_0_207 w1177 gce sh_12 (by decide) (by decide) ty_12_7 rfl rfl (fun b1199 b1200 => ?_))
        refine wp_of e107 c107_32 (rw_iload_n (pc' := 33) (z := a1) rfl rfl ?_)
        have h1201 : CU T H1173 cu e d n := (CU_fr hW gcu f1178 rfl hCU_cu)
        refine wp_of e107 c107_33 (xc_V (pc' := 36) (r := cu) (as := [vI (H1173 ce 7), vI a1]) (st := [.ref r0]) (lm_0_183) rfl rfl (Nat.le_of_ble_eq_true rfl) w1177 gcu sh_27 (by decide) rfl (by decide) (u_96 (e := e) (d := d) (n := n) w1177 gcu ⟨by omega, by omega⟩ ⟨by omega, by omega⟩ (by omega) (by omega) (by omega) (by omega) h1201) (fun R1202 T1203 H1204 p1205 => ?_))
        obtain ⟨e1206, e1208, z1209, e1207, b1210, p1211⟩ := p1205
        subst e1206
        subst e1207
        subst e1208
        show wp _ _ 107 36 [(2, vI z1179), (0, .ref r0), (1, vI a1)] [vI z1209, .ref r0] _ H1173 _
        have _lz : z1209 = xlot d (xbW e d (xlots d).toNat).2 (a1).toNat := by
          rw [show (xbW e d (xlots d).toNat).2 = H1173 ce 7 by omega]
          assumption
        refine wp_of e107 c107_36 (xc_V (pc' := 39) (r := r0) (as := [vI z1209]) (st := []) (lm_0_99) rfl rfl (Nat.le_of_ble_eq_true rfl) w1177 g0 sh_1 (by decide) rfl (by decide) (u_51  w1177 g0 ⟨by omega, by omega⟩) (fun R1213 T1214 H1215 p1216 => ?_))
        obtain ⟨e1217, w1219, f1220, z1221, e1218, b1222, p1223⟩ := p1216
        subst e1217
        subst e1218
        obtain ⟨a1224, a1225⟩ := p1223
        have f1226 := f1192.tr f1220 rfl
        show wp _ _ 107 39 [(2, vI z1179), (0, .ref r0), (1, vI a1)] [vI z1221] _ H1215 _
        have h1227 : CEN T H1215 ce e d := (CEN_fr w1177 gce f1220 rfl a1186)
        exact wp_ireturn e107 c107_39 rfl ⟨rfl, w1219, f1226, z1221, rfl, ⟨by omega, by omega⟩, (Or.inr ⟨by omega, by omega, h1227⟩)⟩
      · exfalso
        omega
    · have f1228 := f0.tr f1178 rfl
      show wp _ _ 107 9 [(0, .ref r0), (1, vI a1)] [vI z1179] _ H1173 _
      refine wp_of e107 c107_9 (rw_istore_n (pc' := 10) (z := z1179) (L' := [(2, vI z1179), (0, .ref r0), (1, vI a1)]) rfl rfl rfl ?_)
      refine wp_of e107 c107_10 (rw_iload_n (pc' := 11) (z := z1179) rfl rfl ?_)
      refine wp_of e107 c107_11 (rw_if_eq (p1 := 20) (p2 := 14) (by decide) rfl ⟨by omega, by omega⟩ (fun c1229 => ?_) (fun c1229 => ?_))
      · exfalso
        omega
      · refine wp_of e107 c107_14 (rw_aload_n (pc' := 15) (v := .ref r0) rfl rfl rfl ?_)
        refine wp_of e107 c107_15 (rw_iload_n (pc' := 16) (z := z1179) rfl rfl ?_)
        refine wp_of e107 c107_16 (xc_V (pc' := 19) (r := r0) (as := [vI z1179]) (st := []) (lm_0_70) rfl rfl (Nat.le_of_ble_eq_true rfl) w1177 g0 sh_1 (by decide) rfl (by decide) (u_12  w1177 g0 ⟨by omega, by omega⟩) (fun R1230 T1231 H1232 p1233 => ?_))
        obtain ⟨e1234, w1236, f1237, z1238, e1235, b1239, p1240⟩ := p1233
        subst e1234
        subst e1235
        obtain ⟨a1241, a1242⟩ := p1240
        have f1243 := f1228.tr f1237 rfl
        show wp _ _ 107 19 [(2, vI z1179), (0, .ref r0), (1, vI a1)] [vI z1238] _ H1232 _
        have h1244 : CEN T H1232 ce e d := (CEN_fr w1177 gce f1237 rfl a1191)
        exact wp_ireturn e107 c107_19 rfl ⟨rfl, w1236, f1243, z1238, rfl, ⟨by omega, by omega⟩, (Or.inl ⟨by omega, by omega, h1244⟩)⟩
  · show wp _ _ 107 6 [(0, .ref r0), (1, vI a1)] [vI z1164, .ref r0] _ H _
    refine wp_of e107 c107_6 (xc_V (pc' := 9) (r := r0) (as := [vI z1164]) (st := []) (lm_0_198) rfl rfl (Nat.le_of_ble_eq_true rfl) hW g0 sh_1 (by decide) rfl (by decide) (u_102 (e := e) (d := d) (n := n) hW g0 ⟨by omega, by omega⟩ qcu gcu qwa gwa qce gce (by assumption) (by assumption) (by omega) (by omega) (by omega) hCU_cu hCEN_ce hHDR_ce) (fun R1245 T1246 H1247 p1248 => ?_))
    obtain ⟨e1249, w1251, f1252, z1253, e1250, b1254, p1255⟩ := p1248
    subst e1249
    subst e1250
    rcases p1255 with ⟨a1256, a1257, a1258, a1259, a1260, a1261, a1262⟩ | ⟨a1263, a1264, a1265⟩
    · have f1266 := f0.tr f1252 rfl
      show wp _ _ 107 9 [(0, .ref r0), (1, vI a1)] [vI z1253] _ H1247 _
      refine wp_of e107 c107_9 (rw_istore_n (pc' := 10) (z := z1253) (L' := [(2, vI z1253), (0, .ref r0), (1, vI a1)]) rfl rfl rfl ?_)
      refine wp_of e107 c107_10 (rw_iload_n (pc' := 11) (z := z1253) rfl rfl ?_)
      refine wp_of e107 c107_11 (rw_if_eq (p1 := 20) (p2 := 14) (by decide) rfl ⟨by omega, by omega⟩ (fun c1267 => ?_) (fun c1267 => ?_))
      · have _cbb := a1261
        have _cb := _cbb.1
        have _cb6 := _cbb.2.1
        have _cb8 := _cbb.2.2.1
        have _cb7 := _cbb.2.2.2.1
        have h1268 : CEM T H1247 ce (xwf e d) (xlots d).toNat := _cbb.2.2.2.2
        have _bw := @xbW_2 d e (by omega) (xlots d).toNat (by omega)
        refine wp_of e107 c107_20 (rw_aload_n (pc' := 21) (v := .ref r0) rfl rfl rfl ?_)
        refine wp_of e107 c107_21 (rw_aload_n (pc' := 22) (v := .ref r0) rfl rfl rfl ?_)
        have k1269 : H1247 r0 6 = H r0 6 := (f1252 r0 6 _ g0 rfl)
        have q1270 : H1247 r0 6 = (cu : Int) := k1269.trans qcu
        refine wp_of e107 c107_22 (xg_K (pc' := 25) lf_0_51 w1251 g0 sh_1 (by decide) (by decide) rfl q1270 rfl ?_)
        refine wp_of e107 c107_25 (rw_aload_n (pc' := 26) (v := .ref r0) rfl rfl rfl ?_)
        have k1271 : H1247 r0 3 = H r0 3 := (f1252 r0 3 _ g0 rfl)
        have q1272 : H1247 r0 3 = (ce : Int) := k1271.trans qce
        refine wp_of e107 c107_26 (xg_K (pc' := 29) lf_0_30 w1251 g0 sh_1 (by decide) (by decide) rfl q1272 rfl ?_)
        refine wp_of e107 c107_29 (xg_I (pc' := 32) lf_0_207 w1251 gce sh_12 (by decide) (by decide) ty_12_7 rfl rfl (fun b1273 b1274 => ?_))
        refine wp_of e107 c107_32 (rw_iload_n (pc' := 33) (z := a1) rfl rfl ?_)
        have h1275 : CU T H1247 cu e d n := (CU_fr hW gcu f1252 rfl hCU_cu)
        refine wp_of e107 c107_33 (xc_V (pc' := 36) (r := cu) (as := [vI (H1247 ce 7), vI a1]) (st := [.ref r0]) (lm_0_183) rfl rfl (Nat.le_of_ble_eq_true rfl) w1251 gcu sh_27 (by decide) rfl (by decide) (u_96 (e := e) (d := d) (n := n) w1251 gcu ⟨by omega, by omega⟩ ⟨by omega, by omega⟩ (by omega) (by omega) (by omega) (by omega) h1275) (fun R1276 T1277 H1278 p1279 => ?_))
        obtain ⟨e1280, e1282, z1283, e1281, b1284, p1285⟩ := p1279
        subst e1280
        subst e1281
        subst e1282
        show wp _ _ 107 36 [(2, vI z1253), (0, .ref r0), (1, vI a1)] [vI z1283, .ref r0] _ H1247 _
        have _lz : z1283 = xlot d (xbW e d (xlots d).toNat).2 (a1).toNat := by
          rw [show (xbW e d (xlots d).toNat).2 = H1247 ce 7 by omega]
          assumption
        refine wp_of e107 c107_36 (xc_V (pc' := 39) (r := r0) (as := [vI z1283]) (st := []) (lm_0_99) rfl rfl (Nat.le_of_ble_eq_true rfl) w1251 g0 sh_1 (by decide) rfl (by decide) (u_51  w1251 g0 ⟨by omega, by omega⟩) (fun R1287 T1288 H1289 p1290 => ?_))
        obtain ⟨e1291, w1293, f1294, z1295, e1292, b1296, p1297⟩ := p1290
        subst e1291
        subst e1292
        obtain ⟨a1298, a1299⟩ := p1297
        have f1300 := f1266.tr f1294 rfl
        show wp _ _ 107 39 [(2, vI z1253), (0, .ref r0), (1, vI a1)] [vI z1295] _ H1289 _
        have h1301 : CEN T H1289 ce e d := (CEN_fr w1251 gce f1294 rfl a1260)
        exact wp_ireturn e107 c107_39 rfl ⟨rfl, w1293, f1300, z1295, rfl, ⟨by omega, by omega⟩, (Or.inr ⟨by omega, by omega, h1301⟩)⟩
      · exfalso
        omega
    · have f1302 := f0.tr f1252 rfl
      show wp _ _ 107 9 [(0, .ref r0), (1, vI a1)] [vI z1253] _ H1247 _
      refine wp_of e107 c107_9 (rw_istore_n (pc' := 10) (z := z1253) (L' := [(2, vI z1253), (0, .ref r0), (1, vI a1)]) rfl rfl rfl ?_)
      refine wp_of e107 c107_10 (rw_iload_n (pc' := 11) (z := z1253) rfl rfl ?_)
      refine wp_of e107 c107_11 (rw_if_eq (p1 := 20) (p2 := 14) (by decide) rfl ⟨by omega, by omega⟩ (fun c1303 => ?_) (fun c1303 => ?_))
      · exfalso
        omega
      · refine wp_of e107 c107_14 (rw_aload_n (pc' := 15) (v := .ref r0) rfl rfl rfl ?_)
        refine wp_of e107 c107_15 (rw_iload_n (pc' := 16) (z := z1253) rfl rfl ?_)
        refine wp_of e107 c107_16 (xc_V (pc' := 19) (r := r0) (as := [vI z1253]) (st := []) (lm_0_70) rfl rfl (Nat.le_of_ble_eq_true rfl) w1251 g0 sh_1 (by decide) rfl (by decide) (u_12  w1251 g0 ⟨by omega, by omega⟩) (fun R1304 T1305 H1306 p1307 => ?_))
        obtain ⟨e1308, w1310, f1311, z1312, e1309, b1313, p1314⟩ := p1307
        subst e1308
        subst e1309
        obtain ⟨a1315, a1316⟩ := p1314
        have f1317 := f1302.tr f1311 rfl
        show wp _ _ 107 19 [(2, vI z1253), (0, .ref r0), (1, vI a1)] [vI z1312] _ H1306 _
        have h1318 : CEN T H1306 ce e d := (CEN_fr w1251 gce f1311 rfl a1265)
        exact wp_ireturn e107 c107_19 rfl ⟨rfl, w1310, f1317, z1312, rfl, ⟨by omega, by omega⟩, (Or.inl ⟨by omega, by omega, h1318⟩)⟩
/-! StrikeAwake.greatest()J  -/
abbrev uq_108 (r0 : Nat) (cu : Nat) (wa : Nat) (ce : Nat) (e : xD) (d : xD) (n : Int) (T : wq_T) (H : wq_H) : Option Value → wq_T → wq_H → Prop := fun r T' H' => T = T' ∧ WT T H' ∧ wfr [(12, 5), (12, 6), (12, 7), (12, 8), (12, 9), (1, 10), (6, 5), (8, 999), (10, 999), (15, 999), (9, 999), (18, 999), (19, 999), (7, 999), (11, 999), (17, 999), (13, 999)] T H H' ∧ ∃ z : Int, some (vL z) = r ∧ ((-9223372036854775808) ≤ z ∧ z ≤ 9223372036854775807) ∧ (((z = -1) ∧ (H r0 8 = 0 ∨ 20000 < n ∨ xcn (xwf e d) (xlots d).toNat ≤ 0) ∧ CEN T H' ce e d) ∨ ((H r0 8 ≠ 0 ∧ n ≤ 20000 ∧ 0 < xcn (xwf e d) (xlots d).toNat) ∧ (z = (xbW e d (xlots d).toNat).1) ∧ CEN T H' ce e d))
set_option maxHeartbeats 4000000 in
theorem u_108 {kt : Nat → Option mc_E} {T : wq_T} {H : wq_H} {r0 : Nat} {cu : Nat} {wa : Nat} {ce : Nat} {e : xD} {d : xD} {n : Int} (hW : WT T H) (g0 : T.2.2.2 r0 = some 1) (qcu : H r0 6 = (cu : Int)) (gcu : T.2.2.2 cu = some 27) (qwa : H r0 2 = (wa : Int)) (gwa : T.2.2.2 wa = some 6) (qce : H r0 3 = (ce : Int)) (gce : T.2.2.2 ce = some 12) (p0 : ∀ i, i ≠ 13 → e i = d i) (p1 : XW d) (p2 : e 0 3 = d 0 3) (p3 : e 0 0 = d 0 0) (p4 : H r0 8 = 0 ∨ n = xlots d) (p5 : H r0 8 ≠ 0 ∨ (d 0 3 = 0 ∧ d 0 0 = 0)) (hCU_cu : CU T H cu e d n) (hCEN_ce : CEN T H ce e d) (hHDR_ce : HDR T H ce ) : wpc kt 7 108 [.ref r0] T H (uq_108 r0 cu wa ce e d n T H) := by
  refine wp_enter e108 (Nat.le_of_ble_eq_true rfl) rfl ?_
  have f0 : wfr [(12, 5), (12, 6), (12, 7), (12, 8), (12, 9), (1, 10), (6, 5), (8, 999), (10, 999), (15, 999), (9, 999), (18, 999), (19, 999), (7, 999), (11, 999), (17, 999), (13, 999)] T H H := wfr.rf
  show wp _ _ 108 0 [(0, .ref r0)] [] _ H _
  have u1051 := CU_k hCU_cu
  have b1052 : 0 ≤ H r0 8 ∧ H r0 8 ≤ 1 := hW.box g0 (n := 13) rfl (by decide) rfl
  refine wp_of e108 c108_0 (rw_aload_n (pc' := 1) (v := .ref r0) rfl rfl rfl ?_)
  refine wp_of e108 c108_1 (rw_aload_n (pc' := 2) (v := .ref r0) rfl rfl rfl ?_)
  refine wp_of e108 c108_2 (xg_I (pc' := 5) lf_0_58 hW g0 sh_1 (by decide) (by decide) ty_1_8 rfl rfl (fun b1053 b1054 => ?_))
  refine wp_of e108 c108_5 (xc_V (pc' := 8) (r := r0) (as := [vI (H r0 8)]) (st := []) (lm_0_198) rfl rfl (Nat.le_of_ble_eq_true rfl) hW g0 sh_1 (by decide) rfl (by decide) (u_102 (e := e) (d := d) (n := n) hW g0 ⟨by omega, by omega⟩ qcu gcu qwa gwa qce gce (by assumption) (by assumption) (by omega) (by omega) (by omega) hCU_cu hCEN_ce hHDR_ce) (fun R1055 T1056 H1057 p1058 => ?_))
  obtain ⟨e1059, w1061, f1062, z1063, e1060, b1064, p1065⟩ := p1058
  subst e1059
  subst e1060
  rcases p1065 with ⟨a1066, a1067, a1068, a1069, a1070, a1071, a1072⟩ | ⟨a1073, a1074, a1075⟩
  · have f1076 := f0.tr f1062 rfl
    show wp _ _ 108 8 [(0, .ref r0)] [vI z1063] _ H1057 _
    refine wp_of e108 c108_8 (rw_istore_n (pc' := 9) (z := z1063) (L' := [(1, vI z1063), (0, .ref r0)]) rfl rfl rfl ?_)
    refine wp_of e108 c108_9 (rw_iload_n (pc' := 10) (z := z1063) rfl rfl ?_)
    refine wp_of e108 c108_10 (rw_if_eq (p1 := 20) (p2 := 13) (by decide) rfl ⟨by omega, by omega⟩ (fun c1077 => ?_) (fun c1077 => ?_))
    · have _cbb := a1071
      have _cb := _cbb.1
      have _cb6 := _cbb.2.1
      have _cb8 := _cbb.2.2.1
      have _cb7 := _cbb.2.2.2.1
      have h1078 : CEM T H1057 ce (xwf e d) (xlots d).toNat := _cbb.2.2.2.2
      refine wp_of e108 c108_20 (rw_aload_n (pc' := 21) (v := .ref r0) rfl rfl rfl ?_)
      refine wp_of e108 c108_21 (rw_iconst (pc' := 22) rfl ?_)
      refine wp_of e108 c108_22 (xp_I (pc' := 25) lf_0_102 w1061 g0 sh_1 (by decide) (by decide) ty_1_10 rfl rfl (by omega) (by omega) ⟨by omega, by omega⟩ rfl (fun H1079 e1080 w1081 => ?_))
      have f1082 := f1076.put' e1080 g0 rfl
      have k1083 : H1079 r0 10 = 0 := wq_u_s e1080
      refine wp_of e108 c108_25 (rw_aload_n (pc' := 26) (v := .ref r0) rfl rfl rfl ?_)
      have k1084 : H1079 r0 3 = H r0 3 := ((wq_u_j e1080 rfl).trans (f1062 r0 3 _ g0 rfl))
      have q1085 : H1079 r0 3 = (ce : Int) := k1084.trans qce
      refine wp_of e108 c108_26 (xg_K (pc' := 29) lf_0_30 w1081 g0 sh_1 (by decide) (by decide) rfl q1085 rfl ?_)
      refine wp_of e108 c108_29 (xg_L (pc' := 32) lf_0_210 w1081 gce sh_12 (by decide) (by decide) ty_12_8 rfl rfl (fun b1086 b1087 => ?_))
      have h1088 : CEN T H1079 ce e d := (CEN_fr w1061 gce ((wfr.rf (l := [(1, 10)])).put' e1080 g0 rfl) rfl a1070)
      exact wp_lreturn e108 c108_32 rfl ⟨rfl, w1081, f1082, H1079 ce 8, rfl, ⟨by omega, by omega⟩, (Or.inr ⟨by omega, by omega, h1088⟩)⟩
    · exfalso
      omega
  · have f1089 := f0.tr f1062 rfl
    show wp _ _ 108 8 [(0, .ref r0)] [vI z1063] _ H1057 _
    refine wp_of e108 c108_8 (rw_istore_n (pc' := 9) (z := z1063) (L' := [(1, vI z1063), (0, .ref r0)]) rfl rfl rfl ?_)
    refine wp_of e108 c108_9 (rw_iload_n (pc' := 10) (z := z1063) rfl rfl ?_)
    refine wp_of e108 c108_10 (rw_if_eq (p1 := 20) (p2 := 13) (by decide) rfl ⟨by omega, by omega⟩ (fun c1090 => ?_) (fun c1090 => ?_))
    · exfalso
      omega
    · refine wp_of e108 c108_13 (rw_aload_n (pc' := 14) (v := .ref r0) rfl rfl rfl ?_)
      refine wp_of e108 c108_14 (rw_iload_n (pc' := 15) (z := z1063) rfl rfl ?_)
      refine wp_of e108 c108_15 (xc_V (pc' := 18) (r := r0) (as := [vI z1063]) (st := []) (lm_0_70) rfl rfl (Nat.le_of_ble_eq_true rfl) w1061 g0 sh_1 (by decide) rfl (by decide) (u_12  w1061 g0 ⟨by omega, by omega⟩) (fun R1091 T1092 H1093 p1094 => ?_))
      obtain ⟨e1095, w1097, f1098, z1099, e1096, b1100, p1101⟩ := p1094
      subst e1095
      subst e1096
      obtain ⟨a1102, a1103⟩ := p1101
      have f1104 := f1089.tr f1098 rfl
      show wp _ _ 108 18 [(1, vI z1063), (0, .ref r0)] [vI z1099] _ H1093 _
      refine wp_of e108 c108_18 (rw_i2l (pc' := 19) rfl ⟨by omega, by omega⟩ ?_)
      have h1105 : CEN T H1093 ce e d := (CEN_fr w1061 gce f1098 rfl a1075)
      exact wp_lreturn e108 c108_19 rfl ⟨rfl, w1097, f1104, z1099, rfl, ⟨by omega, by omega⟩, (Or.inl ⟨by omega, by omega, h1105⟩)⟩
/-! StrikeAwake.together(II)I  -/
abbrev uq_109 (r0 : Nat) (a1 : Int) (a2 : Int) (cu : Nat) (wa : Nat) (ce : Nat) (e : xD) (d : xD) (n : Int) (T : wq_T) (H : wq_H) : Option Value → wq_T → wq_H → Prop := fun r T' H' => T = T' ∧ WT T H' ∧ wfr [(12, 5), (12, 6), (12, 7), (12, 8), (12, 9), (1, 10), (6, 5), (8, 999), (10, 999), (15, 999), (9, 999), (18, 999), (19, 999), (7, 999), (11, 999), (17, 999), (13, 999)] T H H' ∧ ∃ z : Int, some (vI z) = r ∧ ((-2147483648) ≤ z ∧ z ≤ 2147483647) ∧ (((z = -1) ∧ (((a1 < 0 ∨ d 0 3 ≤ a1) ∨ (a2 < 0 ∨ d 0 3 ≤ a2) ∨ a1 = a2) ∨ 20000 < n) ∧ CEN T H' ce e d) ∨ ((((0 ≤ a1 ∧ a1 < d 0 3) ∧ (0 ≤ a2 ∧ a2 < d 0 3) ∧ a1 ≠ a2) ∧ n ≤ 20000) ∧ (z = wfd (xwf e d) (fun n x => wq_or x (wq_and (xwb d (xlot d ((n : Nat) : Int)) (a1).toNat) (xwb d (xlot d ((n : Nat) : Int)) (a2).toNat))) 0 (xlots d).toNat) ∧ CEN T H' ce e d))
set_option maxHeartbeats 4000000 in
theorem u_109 {kt : Nat → Option mc_E} {T : wq_T} {H : wq_H} {r0 : Nat} {a1 : Int} {a2 : Int} {cu : Nat} {wa : Nat} {ce : Nat} {e : xD} {d : xD} {n : Int} (hW : WT T H) (g0 : T.2.2.2 r0 = some 1) (i1 : (-2147483648) ≤ a1 ∧ a1 ≤ 2147483647) (i2 : (-2147483648) ≤ a2 ∧ a2 ≤ 2147483647) (qcu : H r0 6 = (cu : Int)) (gcu : T.2.2.2 cu = some 27) (qwa : H r0 2 = (wa : Int)) (gwa : T.2.2.2 wa = some 6) (qce : H r0 3 = (ce : Int)) (gce : T.2.2.2 ce = some 12) (p0 : ∀ i, i ≠ 13 → e i = d i) (p1 : XW d) (p2 : e 0 3 = d 0 3) (p3 : e 0 0 = d 0 0) (p4 : H r0 8 = 0 ∨ n = xlots d) (p5 : H r0 8 ≠ 0 ∨ (d 0 3 = 0 ∧ d 0 0 = 0)) (hCU_cu : CU T H cu e d n) (hCEN_ce : CEN T H ce e d) (hHDR_ce : HDR T H ce ) : wpc kt 6 109 [.ref r0, vI a1, vI a2] T H (uq_109 r0 a1 a2 cu wa ce e d n T H) := by
  refine wp_enter e109 (Nat.le_of_ble_eq_true rfl) rfl ?_
  have f0 : wfr [(12, 5), (12, 6), (12, 7), (12, 8), (12, 9), (1, 10), (6, 5), (8, 999), (10, 999), (15, 999), (9, 999), (18, 999), (19, 999), (7, 999), (11, 999), (17, 999), (13, 999)] T H H := wfr.rf
  show wp _ _ 109 0 [(0, .ref r0), (1, vI a1), (2, vI a2)] [] _ H _
  have u1306 := CU_k hCU_cu
  have b1307 : 0 ≤ H r0 8 ∧ H r0 8 ≤ 1 := hW.box g0 (n := 13) rfl (by decide) rfl
  refine wp_of e109 c109_0 (rw_aload_n (pc' := 1) (v := .ref r0) rfl rfl rfl ?_)
  refine wp_of e109 c109_1 (rw_aload_n (pc' := 2) (v := .ref r0) rfl rfl rfl ?_)
  refine wp_of e109 c109_2 (rw_iload_n (pc' := 3) (z := a1) rfl rfl ?_)
  refine wp_of e109 c109_3 (xc_V (pc' := 6) (r := r0) (as := [vI a1]) (st := [.ref r0]) (lm_0_105) rfl rfl (Nat.le_of_ble_eq_true rfl) hW g0 sh_1 (by decide) rfl (by decide) (u_55  hW g0 ⟨by omega, by omega⟩ qcu gcu) (fun R1308 T1309 H1310 p1311 => ?_))
  obtain ⟨e1312, e1314, z1315, e1313, b1316, p1317⟩ := p1311
  subst e1312
  subst e1313
  subst e1314
  rcases p1317 with ⟨a1318, a1319⟩ | ⟨a1320, a1321⟩
  · show wp _ _ 109 6 [(0, .ref r0), (1, vI a1), (2, vI a2)] [vI z1315, .ref r0] _ H _
    refine wp_of e109 c109_6 (rw_if_eq (p1 := 26) (p2 := 9) (by decide) rfl ⟨by omega, by omega⟩ (fun c1322 => ?_) (fun c1322 => ?_))
    · exfalso
      omega
    · refine wp_of e109 c109_9 (rw_aload_n (pc' := 10) (v := .ref r0) rfl rfl rfl ?_)
      refine wp_of e109 c109_10 (rw_iload_n (pc' := 11) (z := a2) rfl rfl ?_)
      refine wp_of e109 c109_11 (xc_V (pc' := 14) (r := r0) (as := [vI a2]) (st := [.ref r0]) (lm_0_105) rfl rfl (Nat.le_of_ble_eq_true rfl) hW g0 sh_1 (by decide) rfl (by decide) (u_55  hW g0 ⟨by omega, by omega⟩ qcu gcu) (fun R1323 T1324 H1325 p1326 => ?_))
      obtain ⟨e1327, e1329, z1330, e1328, b1331, p1332⟩ := p1326
      subst e1327
      subst e1328
      subst e1329
      rcases p1332 with ⟨a1333, a1334⟩ | ⟨a1335, a1336⟩
      · show wp _ _ 109 14 [(0, .ref r0), (1, vI a1), (2, vI a2)] [vI z1330, .ref r0] _ H _
        refine wp_of e109 c109_14 (rw_if_eq (p1 := 26) (p2 := 17) (by decide) rfl ⟨by omega, by omega⟩ (fun c1337 => ?_) (fun c1337 => ?_))
        · exfalso
          omega
        · refine wp_of e109 c109_17 (rw_iload_n (pc' := 18) (z := a1) rfl rfl ?_)
          refine wp_of e109 c109_18 (rw_iload_n (pc' := 19) (z := a2) rfl rfl ?_)
          refine wp_of e109 c109_19 (rw_icmp_eq (p1 := 26) (p2 := 22) (by decide) rfl ⟨by omega, by omega⟩ ⟨by omega, by omega⟩ (fun c1338 => ?_) (fun c1338 => ?_))
          · refine wp_of e109 c109_26 (rw_iconst (pc' := 27) rfl ?_)
            refine wp_of e109 c109_27 (xc_V (pc' := 30) (r := r0) (as := [vI 0]) (st := []) (lm_0_174) rfl rfl (Nat.le_of_ble_eq_true rfl) hW g0 sh_1 (by decide) rfl (by decide) (u_83 (e := e) (d := d) (n := n) hW g0 ⟨by omega, by omega⟩ qcu gcu qwa gwa qce gce (by assumption) (by assumption) (by omega) (by omega) (by omega) hCU_cu hCEN_ce hHDR_ce) (fun R1339 T1340 H1341 p1342 => ?_))
            obtain ⟨e1343, w1345, f1346, z1347, e1344, b1348, p1349⟩ := p1342
            subst e1343
            subst e1344
            rcases p1349 with ⟨a1350, a1351, a1352, a1353, a1354, a1355⟩ | ⟨a1356, a1357, a1358⟩
            · have f1359 := f0.tr f1346 rfl
              show wp _ _ 109 30 [(0, .ref r0), (1, vI a1), (2, vI a2)] [vI z1347] _ H1341 _
              refine wp_of e109 c109_30 (rw_istore_n (pc' := 31) (z := z1347) (L' := [(3, vI z1347), (0, .ref r0), (1, vI a1), (2, vI a2)]) rfl rfl rfl ?_)
              refine wp_of e109 c109_31 (rw_iload_n (pc' := 32) (z := z1347) rfl rfl ?_)
              refine wp_of e109 c109_32 (rw_if_eq (p1 := 41) (p2 := 35) (by decide) rfl ⟨by omega, by omega⟩ (fun c1360 => ?_) (fun c1360 => ?_))
              · have _cbb := a1354
                have _cb := _cbb.1
                have _cb6 := _cbb.2.1
                have _cb8 := _cbb.2.2.1
                have _cb7 := _cbb.2.2.2.1
                have h1361 : CEM T H1341 ce (xwf e d) (xlots d).toNat := _cbb.2.2.2.2
                refine wp_of e109 c109_41 (rw_aload_n (pc' := 42) (v := .ref r0) rfl rfl rfl ?_)
                refine wp_of e109 c109_42 (rw_aload_n (pc' := 43) (v := .ref r0) rfl rfl rfl ?_)
                have k1362 : H1341 r0 3 = H r0 3 := (f1346 r0 3 _ g0 rfl)
                have q1363 : H1341 r0 3 = (ce : Int) := k1362.trans qce
                refine wp_of e109 c109_43 (xg_K (pc' := 46) lf_0_30 w1345 g0 sh_1 (by decide) (by decide) rfl q1363 rfl ?_)
                refine wp_of e109 c109_46 (rw_aload_n (pc' := 47) (v := .ref r0) rfl rfl rfl ?_)
                have k1364 : H1341 r0 6 = H r0 6 := (f1346 r0 6 _ g0 rfl)
                have q1365 : H1341 r0 6 = (cu : Int) := k1364.trans qcu
                refine wp_of e109 c109_47 (xg_K (pc' := 50) lf_0_51 w1345 g0 sh_1 (by decide) (by decide) rfl q1365 rfl ?_)
                refine wp_of e109 c109_50 (rw_iload_n (pc' := 51) (z := a1) rfl rfl ?_)
                refine wp_of e109 c109_51 (rw_iload_n (pc' := 52) (z := a2) rfl rfl ?_)
                have k1366 : H1341 cu 18 = H cu 18 := (f1346 cu 18 _ gcu rfl)
                have h1367 : CU T H1341 cu e d n := (CU_fr hW gcu f1346 rfl hCU_cu)
                refine wp_of e109 c109_52 (xc_V (pc' := 55) (r := ce) (as := [.ref cu, vI a1, vI a2]) (st := [.ref r0]) (lm_0_213) rfl rfl (Nat.le_of_ble_eq_true rfl) w1345 gce sh_12 (by decide) rfl (by decide) (u_110 (e := e) (d := d) (n := n) w1345 gce gcu ⟨by omega, by omega⟩ ⟨by omega, by omega⟩ (by assumption) (by assumption) (by omega) (by omega) (by omega) (by omega) (by omega) h1367 h1361) (fun R1368 T1369 H1370 p1371 => ?_))
                obtain ⟨e1372, e1374, z1375, e1373, b1376, p1377⟩ := p1371
                subst e1372
                subst e1373
                subst e1374
                show wp _ _ 109 55 [(3, vI z1347), (0, .ref r0), (1, vI a1), (2, vI a2)] [vI z1375, .ref r0] _ H1341 _
                refine wp_of e109 c109_55 (xc_V (pc' := 58) (r := r0) (as := [vI z1375]) (st := []) (lm_0_99) rfl rfl (Nat.le_of_ble_eq_true rfl) w1345 g0 sh_1 (by decide) rfl (by decide) (u_51  w1345 g0 ⟨by omega, by omega⟩) (fun R1379 T1380 H1381 p1382 => ?_))
                obtain ⟨e1383, w1385, f1386, z1387, e1384, b1388, p1389⟩ := p1382
                subst e1383
                subst e1384
                obtain ⟨a1390, a1391⟩ := p1389
                have f1392 := f1359.tr f1386 rfl
                show wp _ _ 109 58 [(3, vI z1347), (0, .ref r0), (1, vI a1), (2, vI a2)] [vI z1387] _ H1381 _
                have h1393 : CEN T H1381 ce e d := (CEN_fr w1345 gce f1386 rfl a1353)
                exact wp_ireturn e109 c109_58 rfl ⟨rfl, w1385, f1392, z1387, rfl, ⟨by omega, by omega⟩, (Or.inr ⟨by omega, by omega, h1393⟩)⟩
              · exfalso
                omega
            · have f1394 := f0.tr f1346 rfl
              show wp _ _ 109 30 [(0, .ref r0), (1, vI a1), (2, vI a2)] [vI z1347] _ H1341 _
              refine wp_of e109 c109_30 (rw_istore_n (pc' := 31) (z := z1347) (L' := [(3, vI z1347), (0, .ref r0), (1, vI a1), (2, vI a2)]) rfl rfl rfl ?_)
              refine wp_of e109 c109_31 (rw_iload_n (pc' := 32) (z := z1347) rfl rfl ?_)
              refine wp_of e109 c109_32 (rw_if_eq (p1 := 41) (p2 := 35) (by decide) rfl ⟨by omega, by omega⟩ (fun c1395 => ?_) (fun c1395 => ?_))
              · exfalso
                omega
              · refine wp_of e109 c109_35 (rw_aload_n (pc' := 36) (v := .ref r0) rfl rfl rfl ?_)
                refine wp_of e109 c109_36 (rw_iload_n (pc' := 37) (z := z1347) rfl rfl ?_)
                refine wp_of e109 c109_37 (xc_V (pc' := 40) (r := r0) (as := [vI z1347]) (st := []) (lm_0_70) rfl rfl (Nat.le_of_ble_eq_true rfl) w1345 g0 sh_1 (by decide) rfl (by decide) (u_12  w1345 g0 ⟨by omega, by omega⟩) (fun R1396 T1397 H1398 p1399 => ?_))
                obtain ⟨e1400, w1402, f1403, z1404, e1401, b1405, p1406⟩ := p1399
                subst e1400
                subst e1401
                obtain ⟨a1407, a1408⟩ := p1406
                have f1409 := f1394.tr f1403 rfl
                show wp _ _ 109 40 [(3, vI z1347), (0, .ref r0), (1, vI a1), (2, vI a2)] [vI z1404] _ H1398 _
                have h1410 : CEN T H1398 ce e d := (CEN_fr w1345 gce f1403 rfl a1358)
                exact wp_ireturn e109 c109_40 rfl ⟨rfl, w1402, f1409, z1404, rfl, ⟨by omega, by omega⟩, (Or.inl ⟨by omega, by omega, h1410⟩)⟩
          · refine wp_of e109 c109_22 (rw_iconst (pc' := 23) rfl ?_)
            refine wp_of e109 c109_23 (rw_goto (p1 := 27) (by decide) ?_)
            refine wp_of e109 c109_27 (xc_V (pc' := 30) (r := r0) (as := [vI 1]) (st := []) (lm_0_174) rfl rfl (Nat.le_of_ble_eq_true rfl) hW g0 sh_1 (by decide) rfl (by decide) (u_83 (e := e) (d := d) (n := n) hW g0 ⟨by omega, by omega⟩ qcu gcu qwa gwa qce gce (by assumption) (by assumption) (by omega) (by omega) (by omega) hCU_cu hCEN_ce hHDR_ce) (fun R1411 T1412 H1413 p1414 => ?_))
            obtain ⟨e1415, w1417, f1418, z1419, e1416, b1420, p1421⟩ := p1414
            subst e1415
            subst e1416
            rcases p1421 with ⟨a1422, a1423, a1424, a1425, a1426, a1427⟩ | ⟨a1428, a1429, a1430⟩
            · have f1431 := f0.tr f1418 rfl
              show wp _ _ 109 30 [(0, .ref r0), (1, vI a1), (2, vI a2)] [vI z1419] _ H1413 _
              refine wp_of e109 c109_30 (rw_istore_n (pc' := 31) (z := z1419) (L' := [(3, vI z1419), (0, .ref r0), (1, vI a1), (2, vI a2)]) rfl rfl rfl ?_)
              refine wp_of e109 c109_31 (rw_iload_n (pc' := 32) (z := z1419) rfl rfl ?_)
              refine wp_of e109 c109_32 (rw_if_eq (p1 := 41) (p2 := 35) (by decide) rfl ⟨by omega, by omega⟩ (fun c1432 => ?_) (fun c1432 => ?_))
              · have _cbb := a1426
                have _cb := _cbb.1
                have _cb6 := _cbb.2.1
                have _cb8 := _cbb.2.2.1
                have _cb7 := _cbb.2.2.2.1
                have h1433 : CEM T H1413 ce (xwf e d) (xlots d).toNat := _cbb.2.2.2.2
                refine wp_of e109 c109_41 (rw_aload_n (pc' := 42) (v := .ref r0) rfl rfl rfl ?_)
                refine wp_of e109 c109_42 (rw_aload_n (pc' := 43) (v := .ref r0) rfl rfl rfl ?_)
                have k1434 : H1413 r0 3 = H r0 3 := (f1418 r0 3 _ g0 rfl)
                have q1435 : H1413 r0 3 = (ce : Int) := k1434.trans qce
                refine wp_of e109 c109_43 (xg_K (pc' := 46) lf_0_30 w1417 g0 sh_1 (by decide) (by decide) rfl q1435 rfl ?_)
                refine wp_of e109 c109_46 (rw_aload_n (pc' := 47) (v := .ref r0) rfl rfl rfl ?_)
                have k1436 : H1413 r0 6 = H r0 6 := (f1418 r0 6 _ g0 rfl)
                have q1437 : H1413 r0 6 = (cu : Int) := k1436.trans qcu
                refine wp_of e109 c109_47 (xg_K (pc' := 50) lf_0_51 w1417 g0 sh_1 (by decide) (by decide) rfl q1437 rfl ?_)
                refine wp_of e109 c109_50 (rw_iload_n (pc' := 51) (z := a1) rfl rfl ?_)
                refine wp_of e109 c109_51 (rw_iload_n (pc' := 52) (z := a2) rfl rfl ?_)
                have k1438 : H1413 cu 18 = H cu 18 := (f1418 cu 18 _ gcu rfl)
                have h1439 : CU T H1413 cu e d n := (CU_fr hW gcu f1418 rfl hCU_cu)
                refine wp_of e109 c109_52 (xc_V (pc' := 55) (r := ce) (as := [.ref cu, vI a1, vI a2]) (st := [.ref r0]) (lm_0_213) rfl rfl (Nat.le_of_ble_eq_true rfl) w1417 gce sh_12 (by decide) rfl (by decide) (u_110 (e := e) (d := d) (n := n) w1417 gce gcu ⟨by omega, by omega⟩ ⟨by omega, by omega⟩ (by assumption) (by assumption) (by omega) (by omega) (by omega) (by omega) (by omega) h1439 h1433) (fun R1440 T1441 H1442 p1443 => ?_))
                obtain ⟨e1444, e1446, z1447, e1445, b1448, p1449⟩ := p1443
                subst e1444
                subst e1445
                subst e1446
                show wp _ _ 109 55 [(3, vI z1419), (0, .ref r0), (1, vI a1), (2, vI a2)] [vI z1447, .ref r0] _ H1413 _
                refine wp_of e109 c109_55 (xc_V (pc' := 58) (r := r0) (as := [vI z1447]) (st := []) (lm_0_99) rfl rfl (Nat.le_of_ble_eq_true rfl) w1417 g0 sh_1 (by decide) rfl (by decide) (u_51  w1417 g0 ⟨by omega, by omega⟩) (fun R1451 T1452 H1453 p1454 => ?_))
                obtain ⟨e1455, w1457, f1458, z1459, e1456, b1460, p1461⟩ := p1454
                subst e1455
                subst e1456
                obtain ⟨a1462, a1463⟩ := p1461
                have f1464 := f1431.tr f1458 rfl
                show wp _ _ 109 58 [(3, vI z1419), (0, .ref r0), (1, vI a1), (2, vI a2)] [vI z1459] _ H1453 _
                have h1465 : CEN T H1453 ce e d := (CEN_fr w1417 gce f1458 rfl a1425)
                exact wp_ireturn e109 c109_58 rfl ⟨rfl, w1457, f1464, z1459, rfl, ⟨by omega, by omega⟩, (Or.inr ⟨by omega, by omega, h1465⟩)⟩
              · exfalso
                omega
            · have f1466 := f0.tr f1418 rfl
              show wp _ _ 109 30 [(0, .ref r0), (1, vI a1), (2, vI a2)] [vI z1419] _ H1413 _
              refine wp_of e109 c109_30 (rw_istore_n (pc' := 31) (z := z1419) (L' := [(3, vI z1419), (0, .ref r0), (1, vI a1), (2, vI a2)]) rfl rfl rfl ?_)
              refine wp_of e109 c109_31 (rw_iload_n (pc' := 32) (z := z1419) rfl rfl ?_)
              refine wp_of e109 c109_32 (rw_if_eq (p1 := 41) (p2 := 35) (by decide) rfl ⟨by omega, by omega⟩ (fun c1467 => ?_) (fun c1467 => ?_))
              · exfalso
                omega
              · refine wp_of e109 c109_35 (rw_aload_n (pc' := 36) (v := .ref r0) rfl rfl rfl ?_)
                refine wp_of e109 c109_36 (rw_iload_n (pc' := 37) (z := z1419) rfl rfl ?_)
                refine wp_of e109 c109_37 (xc_V (pc' := 40) (r := r0) (as := [vI z1419]) (st := []) (lm_0_70) rfl rfl (Nat.le_of_ble_eq_true rfl) w1417 g0 sh_1 (by decide) rfl (by decide) (u_12  w1417 g0 ⟨by omega, by omega⟩) (fun R1468 T1469 H1470 p1471 => ?_))
                obtain ⟨e1472, w1474, f1475, z1476, e1473, b1477, p1478⟩ := p1471
                subst e1472
                subst e1473
                obtain ⟨a1479, a1480⟩ := p1478
                have f1481 := f1466.tr f1475 rfl
                show wp _ _ 109 40 [(3, vI z1419), (0, .ref r0), (1, vI a1), (2, vI a2)] [vI z1476] _ H1470 _
                have h1482 : CEN T H1470 ce e d := (CEN_fr w1417 gce f1475 rfl a1430)
                exact wp_ireturn e109 c109_40 rfl ⟨rfl, w1474, f1481, z1476, rfl, ⟨by omega, by omega⟩, (Or.inl ⟨by omega, by omega, h1482⟩)⟩
      · show wp _ _ 109 14 [(0, .ref r0), (1, vI a1), (2, vI a2)] [vI z1330, .ref r0] _ H _
        refine wp_of e109 c109_14 (rw_if_eq (p1 := 26) (p2 := 17) (by decide) rfl ⟨by omega, by omega⟩ (fun c1483 => ?_) (fun c1483 => ?_))
        · refine wp_of e109 c109_26 (rw_iconst (pc' := 27) rfl ?_)
          refine wp_of e109 c109_27 (xc_V (pc' := 30) (r := r0) (as := [vI 0]) (st := []) (lm_0_174) rfl rfl (Nat.le_of_ble_eq_true rfl) hW g0 sh_1 (by decide) rfl (by decide) (u_83 (e := e) (d := d) (n := n) hW g0 ⟨by omega, by omega⟩ qcu gcu qwa gwa qce gce (by assumption) (by assumption) (by omega) (by omega) (by omega) hCU_cu hCEN_ce hHDR_ce) (fun R1484 T1485 H1486 p1487 => ?_))
          obtain ⟨e1488, w1490, f1491, z1492, e1489, b1493, p1494⟩ := p1487
          subst e1488
          subst e1489
          rcases p1494 with ⟨a1495, a1496, a1497, a1498, a1499, a1500⟩ | ⟨a1501, a1502, a1503⟩
          · have f1504 := f0.tr f1491 rfl
            show wp _ _ 109 30 [(0, .ref r0), (1, vI a1), (2, vI a2)] [vI z1492] _ H1486 _
            refine wp_of e109 c109_30 (rw_istore_n (pc' := 31) (z := z1492) (L' := [(3, vI z1492), (0, .ref r0), (1, vI a1), (2, vI a2)]) rfl rfl rfl ?_)
            refine wp_of e109 c109_31 (rw_iload_n (pc' := 32) (z := z1492) rfl rfl ?_)
            refine wp_of e109 c109_32 (rw_if_eq (p1 := 41) (p2 := 35) (by decide) rfl ⟨by omega, by omega⟩ (fun c1505 => ?_) (fun c1505 => ?_))
            · have _cbb := a1499
              have _cb := _cbb.1
              have _cb6 := _cbb.2.1
              have _cb8 := _cbb.2.2.1
              have _cb7 := _cbb.2.2.2.1
              have h1506 : CEM T H1486 ce (xwf e d) (xlots d).toNat := _cbb.2.2.2.2
              refine wp_of e109 c109_41 (rw_aload_n (pc' := 42) (v := .ref r0) rfl rfl rfl ?_)
              refine wp_of e109 c109_42 (rw_aload_n (pc' := 43) (v := .ref r0) rfl rfl rfl ?_)
              have k1507 : H1486 r0 3 = H r0 3 := (f1491 r0 3 _ g0 rfl)
              have q1508 : H1486 r0 3 = (ce : Int) := k1507.trans qce
              refine wp_of e109 c109_43 (xg_K (pc' := 46) lf_0_30 w1490 g0 sh_1 (by decide) (by decide) rfl q1508 rfl ?_)
              refine wp_of e109 c109_46 (rw_aload_n (pc' := 47) (v := .ref r0) rfl rfl rfl ?_)
              have k1509 : H1486 r0 6 = H r0 6 := (f1491 r0 6 _ g0 rfl)
              have q1510 : H1486 r0 6 = (cu : Int) := k1509.trans qcu
              refine wp_of e109 c109_47 (xg_K (pc' := 50) lf_0_51 w1490 g0 sh_1 (by decide) (by decide) rfl q1510 rfl ?_)
              refine wp_of e109 c109_50 (rw_iload_n (pc' := 51) (z := a1) rfl rfl ?_)
              refine wp_of e109 c109_51 (rw_iload_n (pc' := 52) (z := a2) rfl rfl ?_)
              have k1511 : H1486 cu 18 = H cu 18 := (f1491 cu 18 _ gcu rfl)
              have h1512 : CU T H1486 cu e d n := (CU_fr hW gcu f1491 rfl hCU_cu)
              refine wp_of e109 c109_52 (xc_V (pc' := 55) (r := ce) (as := [.ref cu, vI a1, vI a2]) (st := [.ref r0]) (lm_0_213) rfl rfl (Nat.le_of_ble_eq_true rfl) w1490 gce sh_12 (by decide) rfl (by decide) (u_110 (e := e) (d := d) (n := n) w1490 gce gcu ⟨by omega, by omega⟩ ⟨by omega, by omega⟩ (by assumption) (by assumption) (by omega) (by omega) (by omega) (by omega) (by omega) h1512 h1506) (fun R1513 T1514 H1515 p1516 => ?_))
              obtain ⟨e1517, e1519, z1520, e1518, b1521, p1522⟩ := p1516
              subst e1517
              subst e1518
              subst e1519
              show wp _ _ 109 55 [(3, vI z1492), (0, .ref r0), (1, vI a1), (2, vI a2)] [vI z1520, .ref r0] _ H1486 _
              refine wp_of e109 c109_55 (xc_V (pc' := 58) (r := r0) (as := [vI z1520]) (st := []) (lm_0_99) rfl rfl (Nat.le_of_ble_eq_true rfl) w1490 g0 sh_1 (by decide) rfl (by decide) (u_51  w1490 g0 ⟨by omega, by omega⟩) (fun R1524 T1525 H1526 p1527 => ?_))
              obtain ⟨e1528, w1530, f1531, z1532, e1529, b1533, p1534⟩ := p1527
              subst e1528
              subst e1529
              obtain ⟨a1535, a1536⟩ := p1534
              have f1537 := f1504.tr f1531 rfl
              show wp _ _ 109 58 [(3, vI z1492), (0, .ref r0), (1, vI a1), (2, vI a2)] [vI z1532] _ H1526 _
              have h1538 : CEN T H1526 ce e d := (CEN_fr w1490 gce f1531 rfl a1498)
              exact wp_ireturn e109 c109_58 rfl ⟨rfl, w1530, f1537, z1532, rfl, ⟨by omega, by omega⟩, (Or.inr ⟨by omega, by omega, h1538⟩)⟩
            · exfalso
              omega
          · have f1539 := f0.tr f1491 rfl
            show wp _ _ 109 30 [(0, .ref r0), (1, vI a1), (2, vI a2)] [vI z1492] _ H1486 _
            refine wp_of e109 c109_30 (rw_istore_n (pc' := 31) (z := z1492) (L' := [(3, vI z1492), (0, .ref r0), (1, vI a1), (2, vI a2)]) rfl rfl rfl ?_)
            refine wp_of e109 c109_31 (rw_iload_n (pc' := 32) (z := z1492) rfl rfl ?_)
            refine wp_of e109 c109_32 (rw_if_eq (p1 := 41) (p2 := 35) (by decide) rfl ⟨by omega, by omega⟩ (fun c1540 => ?_) (fun c1540 => ?_))
            · exfalso
              omega
            · refine wp_of e109 c109_35 (rw_aload_n (pc' := 36) (v := .ref r0) rfl rfl rfl ?_)
              refine wp_of e109 c109_36 (rw_iload_n (pc' := 37) (z := z1492) rfl rfl ?_)
              refine wp_of e109 c109_37 (xc_V (pc' := 40) (r := r0) (as := [vI z1492]) (st := []) (lm_0_70) rfl rfl (Nat.le_of_ble_eq_true rfl) w1490 g0 sh_1 (by decide) rfl (by decide) (u_12  w1490 g0 ⟨by omega, by omega⟩) (fun R1541 T1542 H1543 p1544 => ?_))
              obtain ⟨e1545, w1547, f1548, z1549, e1546, b1550, p1551⟩ := p1544
              subst e1545
              subst e1546
              obtain ⟨a1552, a1553⟩ := p1551
              have f1554 := f1539.tr f1548 rfl
              show wp _ _ 109 40 [(3, vI z1492), (0, .ref r0), (1, vI a1), (2, vI a2)] [vI z1549] _ H1543 _
              have h1555 : CEN T H1543 ce e d := (CEN_fr w1490 gce f1548 rfl a1503)
              exact wp_ireturn e109 c109_40 rfl ⟨rfl, w1547, f1554, z1549, rfl, ⟨by omega, by omega⟩, (Or.inl ⟨by omega, by omega, h1555⟩)⟩
        · exfalso
          omega
  · show wp _ _ 109 6 [(0, .ref r0), (1, vI a1), (2, vI a2)] [vI z1315, .ref r0] _ H _
    refine wp_of e109 c109_6 (rw_if_eq (p1 := 26) (p2 := 9) (by decide) rfl ⟨by omega, by omega⟩ (fun c1556 => ?_) (fun c1556 => ?_))
    · refine wp_of e109 c109_26 (rw_iconst (pc' := 27) rfl ?_)
      refine wp_of e109 c109_27 (xc_V (pc' := 30) (r := r0) (as := [vI 0]) (st := []) (lm_0_174) rfl rfl (Nat.le_of_ble_eq_true rfl) hW g0 sh_1 (by decide) rfl (by decide) (u_83 (e := e) (d := d) (n := n) hW g0 ⟨by omega, by omega⟩ qcu gcu qwa gwa qce gce (by assumption) (by assumption) (by omega) (by omega) (by omega) hCU_cu hCEN_ce hHDR_ce) (fun R1557 T1558 H1559 p1560 => ?_))
      obtain ⟨e1561, w1563, f1564, z1565, e1562, b1566, p1567⟩ := p1560
      subst e1561
      subst e1562
      rcases p1567 with ⟨a1568, a1569, a1570, a1571, a1572, a1573⟩ | ⟨a1574, a1575, a1576⟩
      · have f1577 := f0.tr f1564 rfl
        show wp _ _ 109 30 [(0, .ref r0), (1, vI a1), (2, vI a2)] [vI z1565] _ H1559 _
        refine wp_of e109 c109_30 (rw_istore_n (pc' := 31) (z := z1565) (L' := [(3, vI z1565), (0, .ref r0), (1, vI a1), (2, vI a2)]) rfl rfl rfl ?_)
        refine wp_of e109 c109_31 (rw_iload_n (pc' := 32) (z := z1565) rfl rfl ?_)
        refine wp_of e109 c109_32 (rw_if_eq (p1 := 41) (p2 := 35) (by decide) rfl ⟨by omega, by omega⟩ (fun c1578 => ?_) (fun c1578 => ?_))
        · have _cbb := a1572
          have _cb := _cbb.1
          have _cb6 := _cbb.2.1
          have _cb8 := _cbb.2.2.1
          have _cb7 := _cbb.2.2.2.1
          have h1579 : CEM T H1559 ce (xwf e d) (xlots d).toNat := _cbb.2.2.2.2
          refine wp_of e109 c109_41 (rw_aload_n (pc' := 42) (v := .ref r0) rfl rfl rfl ?_)
          refine wp_of e109 c109_42 (rw_aload_n (pc' := 43) (v := .ref r0) rfl rfl rfl ?_)
          have k1580 : H1559 r0 3 = H r0 3 := (f1564 r0 3 _ g0 rfl)
          have q1581 : H1559 r0 3 = (ce : Int) := k1580.trans qce
          refine wp_of e109 c109_43 (xg_K (pc' := 46) lf_0_30 w1563 g0 sh_1 (by decide) (by decide) rfl q1581 rfl ?_)
          refine wp_of e109 c109_46 (rw_aload_n (pc' := 47) (v := .ref r0) rfl rfl rfl ?_)
          have k1582 : H1559 r0 6 = H r0 6 := (f1564 r0 6 _ g0 rfl)
          have q1583 : H1559 r0 6 = (cu : Int) := k1582.trans qcu
          refine wp_of e109 c109_47 (xg_K (pc' := 50) lf_0_51 w1563 g0 sh_1 (by decide) (by decide) rfl q1583 rfl ?_)
          refine wp_of e109 c109_50 (rw_iload_n (pc' := 51) (z := a1) rfl rfl ?_)
          refine wp_of e109 c109_51 (rw_iload_n (pc' := 52) (z := a2) rfl rfl ?_)
          have k1584 : H1559 cu 18 = H cu 18 := (f1564 cu 18 _ gcu rfl)
          have h1585 : CU T H1559 cu e d n := (CU_fr hW gcu f1564 rfl hCU_cu)
          refine wp_of e109 c109_52 (xc_V (pc' := 55) (r := ce) (as := [.ref cu, vI a1, vI a2]) (st := [.ref r0]) (lm_0_213) rfl rfl (Nat.le_of_ble_eq_true rfl) w1563 gce sh_12 (by decide) rfl (by decide) (u_110 (e := e) (d := d) (n := n) w1563 gce gcu ⟨by omega, by omega⟩ ⟨by omega, by omega⟩ (by assumption) (by assumption) (by omega) (by omega) (by omega) (by omega) (by omega) h1585 h1579) (fun R1586 T1587 H1588 p1589 => ?_))
          obtain ⟨e1590, e1592, z1593, e1591, b1594, p1595⟩ := p1589
          subst e1590
          subst e1591
          subst e1592
          show wp _ _ 109 55 [(3, vI z1565), (0, .ref r0), (1, vI a1), (2, vI a2)] [vI z1593, .ref r0] _ H1559 _
          refine wp_of e109 c109_55 (xc_V (pc' := 58) (r := r0) (as := [vI z1593]) (st := []) (lm_0_99) rfl rfl (Nat.le_of_ble_eq_true rfl) w1563 g0 sh_1 (by decide) rfl (by decide) (u_51  w1563 g0 ⟨by omega, by omega⟩) (fun R1597 T1598 H1599 p1600 => ?_))
          obtain ⟨e1601, w1603, f1604, z1605, e1602, b1606, p1607⟩ := p1600
          subst e1601
          subst e1602
          obtain ⟨a1608, a1609⟩ := p1607
          have f1610 := f1577.tr f1604 rfl
          show wp _ _ 109 58 [(3, vI z1565), (0, .ref r0), (1, vI a1), (2, vI a2)] [vI z1605] _ H1599 _
          have h1611 : CEN T H1599 ce e d := (CEN_fr w1563 gce f1604 rfl a1571)
          exact wp_ireturn e109 c109_58 rfl ⟨rfl, w1603, f1610, z1605, rfl, ⟨by omega, by omega⟩, (Or.inr ⟨by omega, by omega, h1611⟩)⟩
        · exfalso
          omega
      · have f1612 := f0.tr f1564 rfl
        show wp _ _ 109 30 [(0, .ref r0), (1, vI a1), (2, vI a2)] [vI z1565] _ H1559 _
        refine wp_of e109 c109_30 (rw_istore_n (pc' := 31) (z := z1565) (L' := [(3, vI z1565), (0, .ref r0), (1, vI a1), (2, vI a2)]) rfl rfl rfl ?_)
        refine wp_of e109 c109_31 (rw_iload_n (pc' := 32) (z := z1565) rfl rfl ?_)
        refine wp_of e109 c109_32 (rw_if_eq (p1 := 41) (p2 := 35) (by decide) rfl ⟨by omega, by omega⟩ (fun c1613 => ?_) (fun c1613 => ?_))
        · exfalso
          omega
        · refine wp_of e109 c109_35 (rw_aload_n (pc' := 36) (v := .ref r0) rfl rfl rfl ?_)
          refine wp_of e109 c109_36 (rw_iload_n (pc' := 37) (z := z1565) rfl rfl ?_)
          refine wp_of e109 c109_37 (xc_V (pc' := 40) (r := r0) (as := [vI z1565]) (st := []) (lm_0_70) rfl rfl (Nat.le_of_ble_eq_true rfl) w1563 g0 sh_1 (by decide) rfl (by decide) (u_12  w1563 g0 ⟨by omega, by omega⟩) (fun R1614 T1615 H1616 p1617 => ?_))
          obtain ⟨e1618, w1620, f1621, z1622, e1619, b1623, p1624⟩ := p1617
          subst e1618
          subst e1619
          obtain ⟨a1625, a1626⟩ := p1624
          have f1627 := f1612.tr f1621 rfl
          show wp _ _ 109 40 [(3, vI z1565), (0, .ref r0), (1, vI a1), (2, vI a2)] [vI z1622] _ H1616 _
          have h1628 : CEN T H1616 ce e d := (CEN_fr w1563 gce f1621 rfl a1576)
          exact wp_ireturn e109 c109_40 rfl ⟨rfl, w1620, f1627, z1622, rfl, ⟨by omega, by omega⟩, (Or.inl ⟨by omega, by omega, h1628⟩)⟩
    · exfalso
      omega
/-! StrikeAwake.possible(I)J  -/
abbrev uq_112 (r0 : Nat) (a1 : Int) (cu : Nat) (wa : Nat) (ce : Nat) (e : xD) (d : xD) (n : Int) (T : wq_T) (H : wq_H) : Option Value → wq_T → wq_H → Prop := fun r T' H' => T = T' ∧ WT T H' ∧ wfr [(12, 5), (12, 6), (12, 7), (12, 8), (12, 9), (1, 10), (6, 5), (8, 999), (10, 999), (15, 999), (9, 999), (18, 999), (19, 999), (7, 999), (11, 999), (17, 999), (13, 999)] T H H' ∧ ∃ z : Int, some (vL z) = r ∧ ((-9223372036854775808) ≤ z ∧ z ≤ 9223372036854775807) ∧ (((z = -1) ∧ ((a1 < 0 ∨ d 0 3 ≤ a1) ∨ 20000 < n) ∧ CEN T H' ce e d) ∨ (((0 ≤ a1 ∧ a1 < d 0 3) ∧ n ≤ 20000) ∧ (z = xps e d (a1).toNat) ∧ CEN T H' ce e d))
set_option maxHeartbeats 4000000 in
theorem u_112 {kt : Nat → Option mc_E} {T : wq_T} {H : wq_H} {r0 : Nat} {a1 : Int} {cu : Nat} {wa : Nat} {ce : Nat} {e : xD} {d : xD} {n : Int} (hW : WT T H) (g0 : T.2.2.2 r0 = some 1) (i1 : (-2147483648) ≤ a1 ∧ a1 ≤ 2147483647) (qcu : H r0 6 = (cu : Int)) (gcu : T.2.2.2 cu = some 27) (qwa : H r0 2 = (wa : Int)) (gwa : T.2.2.2 wa = some 6) (qce : H r0 3 = (ce : Int)) (gce : T.2.2.2 ce = some 12) (p0 : ∀ i, i ≠ 13 → e i = d i) (p1 : XW d) (p2 : e 0 3 = d 0 3) (p3 : e 0 0 = d 0 0) (p4 : H r0 8 = 0 ∨ n = xlots d) (p5 : H r0 8 ≠ 0 ∨ (d 0 3 = 0 ∧ d 0 0 = 0)) (hCU_cu : CU T H cu e d n) (hCEN_ce : CEN T H ce e d) (hHDR_ce : HDR T H ce ) : wpc kt 6 112 [.ref r0, vI a1] T H (uq_112 r0 a1 cu wa ce e d n T H) := by
  refine wp_enter e112 (Nat.le_of_ble_eq_true rfl) rfl ?_
  have f0 : wfr [(12, 5), (12, 6), (12, 7), (12, 8), (12, 9), (1, 10), (6, 5), (8, 999), (10, 999), (15, 999), (9, 999), (18, 999), (19, 999), (7, 999), (11, 999), (17, 999), (13, 999)] T H H := wfr.rf
  show wp _ _ 112 0 [(0, .ref r0), (1, vI a1)] [] _ H _
  have u1131 := CU_k hCU_cu
  have b1132 : 0 ≤ H r0 8 ∧ H r0 8 ≤ 1 := hW.box g0 (n := 13) rfl (by decide) rfl
  refine wp_of e112 c112_0 (rw_aload_n (pc' := 1) (v := .ref r0) rfl rfl rfl ?_)
  refine wp_of e112 c112_1 (rw_aload_n (pc' := 2) (v := .ref r0) rfl rfl rfl ?_)
  refine wp_of e112 c112_2 (rw_iload_n (pc' := 3) (z := a1) rfl rfl ?_)
  refine wp_of e112 c112_3 (xc_V (pc' := 6) (r := r0) (as := [vI a1]) (st := [.ref r0]) (lm_0_105) rfl rfl (Nat.le_of_ble_eq_true rfl) hW g0 sh_1 (by decide) rfl (by decide) (u_55  hW g0 ⟨by omega, by omega⟩ qcu gcu) (fun R1133 T1134 H1135 p1136 => ?_))
  obtain ⟨e1137, e1139, z1140, e1138, b1141, p1142⟩ := p1136
  subst e1137
  subst e1138
  subst e1139
  rcases p1142 with ⟨a1143, a1144⟩ | ⟨a1145, a1146⟩
  · show wp _ _ 112 6 [(0, .ref r0), (1, vI a1)] [vI z1140, .ref r0] _ H _
    refine wp_of e112 c112_6 (xc_V (pc' := 9) (r := r0) (as := [vI z1140]) (st := []) (lm_0_174) rfl rfl (Nat.le_of_ble_eq_true rfl) hW g0 sh_1 (by decide) rfl (by decide) (u_83 (e := e) (d := d) (n := n) hW g0 ⟨by omega, by omega⟩ qcu gcu qwa gwa qce gce (by assumption) (by assumption) (by omega) (by omega) (by omega) hCU_cu hCEN_ce hHDR_ce) (fun R1147 T1148 H1149 p1150 => ?_))
    obtain ⟨e1151, w1153, f1154, z1155, e1152, b1156, p1157⟩ := p1150
    subst e1151
    subst e1152
    rcases p1157 with ⟨a1158, a1159, a1160, a1161, a1162, a1163⟩ | ⟨a1164, a1165, a1166⟩
    · have f1167 := f0.tr f1154 rfl
      show wp _ _ 112 9 [(0, .ref r0), (1, vI a1)] [vI z1155] _ H1149 _
      refine wp_of e112 c112_9 (rw_istore_n (pc' := 10) (z := z1155) (L' := [(2, vI z1155), (0, .ref r0), (1, vI a1)]) rfl rfl rfl ?_)
      refine wp_of e112 c112_10 (rw_iload_n (pc' := 11) (z := z1155) rfl rfl ?_)
      refine wp_of e112 c112_11 (rw_if_eq (p1 := 21) (p2 := 14) (by decide) rfl ⟨by omega, by omega⟩ (fun c1168 => ?_) (fun c1168 => ?_))
      · have h1169 : HV1 T H1149 ce (d 0 3) (fun p i => xhc e d p i (xlots d).toNat) := (a1163).1
        refine wp_of e112 c112_21 (rw_aload_n (pc' := 22) (v := .ref r0) rfl rfl rfl ?_)
        refine wp_of e112 c112_22 (rw_iconst (pc' := 23) rfl ?_)
        refine wp_of e112 c112_23 (xp_I (pc' := 26) lf_0_102 w1153 g0 sh_1 (by decide) (by decide) ty_1_10 rfl rfl (by omega) (by omega) ⟨by omega, by omega⟩ rfl (fun H1170 e1171 w1172 => ?_))
        have f1173 := f1167.put' e1171 g0 rfl
        have k1174 : H1170 r0 10 = 0 := wq_u_s e1171
        refine wp_of e112 c112_26 (rw_aload_n (pc' := 27) (v := .ref r0) rfl rfl rfl ?_)
        have k1175 : H1170 r0 3 = H r0 3 := ((wq_u_j e1171 rfl).trans (f1154 r0 3 _ g0 rfl))
        have q1176 : H1170 r0 3 = (ce : Int) := k1175.trans qce
        refine wp_of e112 c112_27 (xg_K (pc' := 30) lf_0_30 w1172 g0 sh_1 (by decide) (by decide) rfl q1176 rfl ?_)
        refine wp_of e112 c112_30 (rw_aload_n (pc' := 31) (v := .ref r0) rfl rfl rfl ?_)
        have k1177 : H1170 r0 6 = H r0 6 := ((wq_u_j e1171 rfl).trans (f1154 r0 6 _ g0 rfl))
        have q1178 : H1170 r0 6 = (cu : Int) := k1177.trans qcu
        refine wp_of e112 c112_31 (xg_K (pc' := 34) lf_0_51 w1172 g0 sh_1 (by decide) (by decide) rfl q1178 rfl ?_)
        refine wp_of e112 c112_34 (rw_iload_n (pc' := 35) (z := a1) rfl rfl ?_)
        have h1179 : CU T H1170 cu e d n := (CU_fr w1153 gcu ((wfr.rf (l := [(1, 10)])).put' e1171 g0 rfl) rfl (CU_fr hW gcu f1154 rfl hCU_cu))
        have h1180 : HV1 T H1170 ce (d 0 3) (fun p i => xhc e d p i (xlots d).toNat) := (HV1_fr w1153 gce ((wfr.rf (l := [(1, 10)])).put' e1171 g0 rfl) rfl h1169)
        refine wp_of e112 c112_35 (xc_V (pc' := 38) (r := ce) (as := [.ref cu, vI a1]) (st := []) (lm_0_216) rfl rfl (Nat.le_of_ble_eq_true rfl) w1172 gce sh_12 (by decide) rfl (by decide) (u_113 (e := e) (d := d) (n := n) w1172 gce gcu ⟨by omega, by omega⟩ (by assumption) (by assumption) (by omega) (by omega) h1179 h1180) (fun R1181 T1182 H1183 p1184 => ?_))
        obtain ⟨e1185, e1187, z1188, e1186, b1189, p1190⟩ := p1184
        subst e1185
        subst e1186
        subst e1187
        show wp _ _ 112 38 [(2, vI z1155), (0, .ref r0), (1, vI a1)] [vL z1188] _ H1170 _
        have h1192 : CEN T H1170 ce e d := (CEN_fr w1153 gce ((wfr.rf (l := [(1, 10)])).put' e1171 g0 rfl) rfl a1161)
        exact wp_lreturn e112 c112_38 rfl ⟨rfl, w1172, f1173, z1188, rfl, ⟨by omega, by omega⟩, (Or.inr ⟨by omega, by omega, h1192⟩)⟩
      · exfalso
        omega
    · have f1193 := f0.tr f1154 rfl
      show wp _ _ 112 9 [(0, .ref r0), (1, vI a1)] [vI z1155] _ H1149 _
      refine wp_of e112 c112_9 (rw_istore_n (pc' := 10) (z := z1155) (L' := [(2, vI z1155), (0, .ref r0), (1, vI a1)]) rfl rfl rfl ?_)
      refine wp_of e112 c112_10 (rw_iload_n (pc' := 11) (z := z1155) rfl rfl ?_)
      refine wp_of e112 c112_11 (rw_if_eq (p1 := 21) (p2 := 14) (by decide) rfl ⟨by omega, by omega⟩ (fun c1194 => ?_) (fun c1194 => ?_))
      · exfalso
        omega
      · refine wp_of e112 c112_14 (rw_aload_n (pc' := 15) (v := .ref r0) rfl rfl rfl ?_)
        refine wp_of e112 c112_15 (rw_iload_n (pc' := 16) (z := z1155) rfl rfl ?_)
        refine wp_of e112 c112_16 (xc_V (pc' := 19) (r := r0) (as := [vI z1155]) (st := []) (lm_0_70) rfl rfl (Nat.le_of_ble_eq_true rfl) w1153 g0 sh_1 (by decide) rfl (by decide) (u_12  w1153 g0 ⟨by omega, by omega⟩) (fun R1195 T1196 H1197 p1198 => ?_))
        obtain ⟨e1199, w1201, f1202, z1203, e1200, b1204, p1205⟩ := p1198
        subst e1199
        subst e1200
        obtain ⟨a1206, a1207⟩ := p1205
        have f1208 := f1193.tr f1202 rfl
        show wp _ _ 112 19 [(2, vI z1155), (0, .ref r0), (1, vI a1)] [vI z1203] _ H1197 _
        refine wp_of e112 c112_19 (rw_i2l (pc' := 20) rfl ⟨by omega, by omega⟩ ?_)
        have h1209 : CEN T H1197 ce e d := (CEN_fr w1153 gce f1202 rfl a1166)
        exact wp_lreturn e112 c112_20 rfl ⟨rfl, w1201, f1208, z1203, rfl, ⟨by omega, by omega⟩, (Or.inl ⟨by omega, by omega, h1209⟩)⟩
  · show wp _ _ 112 6 [(0, .ref r0), (1, vI a1)] [vI z1140, .ref r0] _ H _
    refine wp_of e112 c112_6 (xc_V (pc' := 9) (r := r0) (as := [vI z1140]) (st := []) (lm_0_174) rfl rfl (Nat.le_of_ble_eq_true rfl) hW g0 sh_1 (by decide) rfl (by decide) (u_83 (e := e) (d := d) (n := n) hW g0 ⟨by omega, by omega⟩ qcu gcu qwa gwa qce gce (by assumption) (by assumption) (by omega) (by omega) (by omega) hCU_cu hCEN_ce hHDR_ce) (fun R1210 T1211 H1212 p1213 => ?_))
    obtain ⟨e1214, w1216, f1217, z1218, e1215, b1219, p1220⟩ := p1213
    subst e1214
    subst e1215
    rcases p1220 with ⟨a1221, a1222, a1223, a1224, a1225, a1226⟩ | ⟨a1227, a1228, a1229⟩
    · have f1230 := f0.tr f1217 rfl
      show wp _ _ 112 9 [(0, .ref r0), (1, vI a1)] [vI z1218] _ H1212 _
      refine wp_of e112 c112_9 (rw_istore_n (pc' := 10) (z := z1218) (L' := [(2, vI z1218), (0, .ref r0), (1, vI a1)]) rfl rfl rfl ?_)
      refine wp_of e112 c112_10 (rw_iload_n (pc' := 11) (z := z1218) rfl rfl ?_)
      refine wp_of e112 c112_11 (rw_if_eq (p1 := 21) (p2 := 14) (by decide) rfl ⟨by omega, by omega⟩ (fun c1231 => ?_) (fun c1231 => ?_))
      · have h1232 : HV1 T H1212 ce (d 0 3) (fun p i => xhc e d p i (xlots d).toNat) := (a1226).1
        refine wp_of e112 c112_21 (rw_aload_n (pc' := 22) (v := .ref r0) rfl rfl rfl ?_)
        refine wp_of e112 c112_22 (rw_iconst (pc' := 23) rfl ?_)
        refine wp_of e112 c112_23 (xp_I (pc' := 26) lf_0_102 w1216 g0 sh_1 (by decide) (by decide) ty_1_10 rfl rfl (by omega) (by omega) ⟨by omega, by omega⟩ rfl (fun H1233 e1234 w1235 => ?_))
        have f1236 := f1230.put' e1234 g0 rfl
        have k1237 : H1233 r0 10 = 0 := wq_u_s e1234
        refine wp_of e112 c112_26 (rw_aload_n (pc' := 27) (v := .ref r0) rfl rfl rfl ?_)
        have k1238 : H1233 r0 3 = H r0 3 := ((wq_u_j e1234 rfl).trans (f1217 r0 3 _ g0 rfl))
        have q1239 : H1233 r0 3 = (ce : Int) := k1238.trans qce
        refine wp_of e112 c112_27 (xg_K (pc' := 30) lf_0_30 w1235 g0 sh_1 (by decide) (by decide) rfl q1239 rfl ?_)
        refine wp_of e112 c112_30 (rw_aload_n (pc' := 31) (v := .ref r0) rfl rfl rfl ?_)
        have k1240 : H1233 r0 6 = H r0 6 := ((wq_u_j e1234 rfl).trans (f1217 r0 6 _ g0 rfl))
        have q1241 : H1233 r0 6 = (cu : Int) := k1240.trans qcu
        refine wp_of e112 c112_31 (xg_K (pc' := 34) lf_0_51 w1235 g0 sh_1 (by decide) (by decide) rfl q1241 rfl ?_)
        refine wp_of e112 c112_34 (rw_iload_n (pc' := 35) (z := a1) rfl rfl ?_)
        have h1242 : CU T H1233 cu e d n := (CU_fr w1216 gcu ((wfr.rf (l := [(1, 10)])).put' e1234 g0 rfl) rfl (CU_fr hW gcu f1217 rfl hCU_cu))
        have h1243 : HV1 T H1233 ce (d 0 3) (fun p i => xhc e d p i (xlots d).toNat) := (HV1_fr w1216 gce ((wfr.rf (l := [(1, 10)])).put' e1234 g0 rfl) rfl h1232)
        refine wp_of e112 c112_35 (xc_V (pc' := 38) (r := ce) (as := [.ref cu, vI a1]) (st := []) (lm_0_216) rfl rfl (Nat.le_of_ble_eq_true rfl) w1235 gce sh_12 (by decide) rfl (by decide) (u_113 (e := e) (d := d) (n := n) w1235 gce gcu ⟨by omega, by omega⟩ (by assumption) (by assumption) (by omega) (by omega) h1242 h1243) (fun R1244 T1245 H1246 p1247 => ?_))
        obtain ⟨e1248, e1250, z1251, e1249, b1252, p1253⟩ := p1247
        subst e1248
        subst e1249
        subst e1250
        show wp _ _ 112 38 [(2, vI z1218), (0, .ref r0), (1, vI a1)] [vL z1251] _ H1233 _
        have h1255 : CEN T H1233 ce e d := (CEN_fr w1216 gce ((wfr.rf (l := [(1, 10)])).put' e1234 g0 rfl) rfl a1224)
        exact wp_lreturn e112 c112_38 rfl ⟨rfl, w1235, f1236, z1251, rfl, ⟨by omega, by omega⟩, (Or.inr ⟨by omega, by omega, h1255⟩)⟩
      · exfalso
        omega
    · have f1256 := f0.tr f1217 rfl
      show wp _ _ 112 9 [(0, .ref r0), (1, vI a1)] [vI z1218] _ H1212 _
      refine wp_of e112 c112_9 (rw_istore_n (pc' := 10) (z := z1218) (L' := [(2, vI z1218), (0, .ref r0), (1, vI a1)]) rfl rfl rfl ?_)
      refine wp_of e112 c112_10 (rw_iload_n (pc' := 11) (z := z1218) rfl rfl ?_)
      refine wp_of e112 c112_11 (rw_if_eq (p1 := 21) (p2 := 14) (by decide) rfl ⟨by omega, by omega⟩ (fun c1257 => ?_) (fun c1257 => ?_))
      · exfalso
        omega
      · refine wp_of e112 c112_14 (rw_aload_n (pc' := 15) (v := .ref r0) rfl rfl rfl ?_)
        refine wp_of e112 c112_15 (rw_iload_n (pc' := 16) (z := z1218) rfl rfl ?_)
        refine wp_of e112 c112_16 (xc_V (pc' := 19) (r := r0) (as := [vI z1218]) (st := []) (lm_0_70) rfl rfl (Nat.le_of_ble_eq_true rfl) w1216 g0 sh_1 (by decide) rfl (by decide) (u_12  w1216 g0 ⟨by omega, by omega⟩) (fun R1258 T1259 H1260 p1261 => ?_))
        obtain ⟨e1262, w1264, f1265, z1266, e1263, b1267, p1268⟩ := p1261
        subst e1262
        subst e1263
        obtain ⟨a1269, a1270⟩ := p1268
        have f1271 := f1256.tr f1265 rfl
        show wp _ _ 112 19 [(2, vI z1218), (0, .ref r0), (1, vI a1)] [vI z1266] _ H1260 _
        refine wp_of e112 c112_19 (rw_i2l (pc' := 20) rfl ⟨by omega, by omega⟩ ?_)
        have h1272 : CEN T H1260 ce e d := (CEN_fr w1216 gce f1265 rfl a1229)
        exact wp_lreturn e112 c112_20 rfl ⟨rfl, w1264, f1271, z1266, rfl, ⟨by omega, by omega⟩, (Or.inl ⟨by omega, by omega, h1272⟩)⟩
/-! StrikeAwake.hiding(II)I  -/
abbrev uq_114 (r0 : Nat) (a1 : Int) (a2 : Int) (cu : Nat) (wa : Nat) (ce : Nat) (e : xD) (d : xD) (n : Int) (T : wq_T) (H : wq_H) : Option Value → wq_T → wq_H → Prop := fun r T' H' => T = T' ∧ WT T H' ∧ wfr [(12, 5), (12, 6), (12, 7), (12, 8), (12, 9), (1, 10), (6, 5), (8, 999), (10, 999), (15, 999), (9, 999), (18, 999), (19, 999), (7, 999), (11, 999), (17, 999), (13, 999)] T H H' ∧ ∃ z : Int, some (vI z) = r ∧ ((-2147483648) ≤ z ∧ z ≤ 2147483647) ∧ (((z = -1) ∧ (((a1 < 0 ∨ d 0 3 ≤ a1) ∨ a2 < 0 ∨ d 0 0 ≤ a2) ∨ 20000 < n) ∧ CEN T H' ce e d) ∨ ((((0 ≤ a1 ∧ a1 < d 0 3) ∧ 0 ≤ a2 ∧ a2 < d 0 0) ∧ n ≤ 20000) ∧ (z = wfd (xwf e d) (fun n x => if hb (xsb d (xlot d ((n : Nat) : Int)) (a1).toNat) (a2).toNat = 1 then wq_or x (xpa d (xlot d ((n : Nat) : Int)) (a2).toNat) else x) 0 (xlots d).toNat) ∧ CEN T H' ce e d))
set_option maxHeartbeats 4000000 in
theorem u_114 {kt : Nat → Option mc_E} {T : wq_T} {H : wq_H} {r0 : Nat} {a1 : Int} {a2 : Int} {cu : Nat} {wa : Nat} {ce : Nat} {e : xD} {d : xD} {n : Int} (hW : WT T H) (g0 : T.2.2.2 r0 = some 1) (i1 : (-2147483648) ≤ a1 ∧ a1 ≤ 2147483647) (i2 : (-2147483648) ≤ a2 ∧ a2 ≤ 2147483647) (qcu : H r0 6 = (cu : Int)) (gcu : T.2.2.2 cu = some 27) (qwa : H r0 2 = (wa : Int)) (gwa : T.2.2.2 wa = some 6) (qce : H r0 3 = (ce : Int)) (gce : T.2.2.2 ce = some 12) (p0 : ∀ i, i ≠ 13 → e i = d i) (p1 : XW d) (p2 : e 0 3 = d 0 3) (p3 : e 0 0 = d 0 0) (p4 : H r0 8 = 0 ∨ n = xlots d) (p5 : H r0 8 ≠ 0 ∨ (d 0 3 = 0 ∧ d 0 0 = 0)) (hCU_cu : CU T H cu e d n) (hCEN_ce : CEN T H ce e d) (hHDR_ce : HDR T H ce ) : wpc kt 6 114 [.ref r0, vI a1, vI a2] T H (uq_114 r0 a1 a2 cu wa ce e d n T H) := by
  refine wp_enter e114 (Nat.le_of_ble_eq_true rfl) rfl ?_
  have f0 : wfr [(12, 5), (12, 6), (12, 7), (12, 8), (12, 9), (1, 10), (6, 5), (8, 999), (10, 999), (15, 999), (9, 999), (18, 999), (19, 999), (7, 999), (11, 999), (17, 999), (13, 999)] T H H := wfr.rf
  show wp _ _ 114 0 [(0, .ref r0), (1, vI a1), (2, vI a2)] [] _ H _
  have u1237 := CU_k hCU_cu
  have b1238 : 0 ≤ H r0 8 ∧ H r0 8 ≤ 1 := hW.box g0 (n := 13) rfl (by decide) rfl
  refine wp_of e114 c114_0 (rw_aload_n (pc' := 1) (v := .ref r0) rfl rfl rfl ?_)
  refine wp_of e114 c114_1 (rw_aload_n (pc' := 2) (v := .ref r0) rfl rfl rfl ?_)
  refine wp_of e114 c114_2 (rw_iload_n (pc' := 3) (z := a1) rfl rfl ?_)
  refine wp_of e114 c114_3 (xc_V (pc' := 6) (r := r0) (as := [vI a1]) (st := [.ref r0]) (lm_0_105) rfl rfl (Nat.le_of_ble_eq_true rfl) hW g0 sh_1 (by decide) rfl (by decide) (u_55  hW g0 ⟨by omega, by omega⟩ qcu gcu) (fun R1239 T1240 H1241 p1242 => ?_))
  obtain ⟨e1243, e1245, z1246, e1244, b1247, p1248⟩ := p1242
  subst e1243
  subst e1244
  subst e1245
  rcases p1248 with ⟨a1249, a1250⟩ | ⟨a1251, a1252⟩
  · show wp _ _ 114 6 [(0, .ref r0), (1, vI a1), (2, vI a2)] [vI z1246, .ref r0] _ H _
    refine wp_of e114 c114_6 (rw_if_eq (p1 := 21) (p2 := 9) (by decide) rfl ⟨by omega, by omega⟩ (fun c1253 => ?_) (fun c1253 => ?_))
    · exfalso
      omega
    · refine wp_of e114 c114_9 (rw_aload_n (pc' := 10) (v := .ref r0) rfl rfl rfl ?_)
      refine wp_of e114 c114_10 (rw_iload_n (pc' := 11) (z := a2) rfl rfl ?_)
      refine wp_of e114 c114_11 (xc_V (pc' := 14) (r := r0) (as := [vI a2]) (st := [.ref r0]) (lm_0_132) rfl rfl (Nat.le_of_ble_eq_true rfl) hW g0 sh_1 (by decide) rfl (by decide) (u_60  hW g0 ⟨by omega, by omega⟩ qcu gcu) (fun R1254 T1255 H1256 p1257 => ?_))
      obtain ⟨e1258, e1260, z1261, e1259, b1262, p1263⟩ := p1257
      subst e1258
      subst e1259
      subst e1260
      rcases p1263 with ⟨a1264, a1265⟩ | ⟨a1266, a1267⟩
      · show wp _ _ 114 14 [(0, .ref r0), (1, vI a1), (2, vI a2)] [vI z1261, .ref r0] _ H _
        refine wp_of e114 c114_14 (rw_if_eq (p1 := 21) (p2 := 17) (by decide) rfl ⟨by omega, by omega⟩ (fun c1268 => ?_) (fun c1268 => ?_))
        · exfalso
          omega
        · refine wp_of e114 c114_17 (rw_iconst (pc' := 18) rfl ?_)
          refine wp_of e114 c114_18 (rw_goto (p1 := 22) (by decide) ?_)
          refine wp_of e114 c114_22 (xc_V (pc' := 25) (r := r0) (as := [vI 1]) (st := []) (lm_0_174) rfl rfl (Nat.le_of_ble_eq_true rfl) hW g0 sh_1 (by decide) rfl (by decide) (u_83 (e := e) (d := d) (n := n) hW g0 ⟨by omega, by omega⟩ qcu gcu qwa gwa qce gce (by assumption) (by assumption) (by omega) (by omega) (by omega) hCU_cu hCEN_ce hHDR_ce) (fun R1269 T1270 H1271 p1272 => ?_))
          obtain ⟨e1273, w1275, f1276, z1277, e1274, b1278, p1279⟩ := p1272
          subst e1273
          subst e1274
          rcases p1279 with ⟨a1280, a1281, a1282, a1283, a1284, a1285⟩ | ⟨a1286, a1287, a1288⟩
          · have f1289 := f0.tr f1276 rfl
            show wp _ _ 114 25 [(0, .ref r0), (1, vI a1), (2, vI a2)] [vI z1277] _ H1271 _
            refine wp_of e114 c114_25 (rw_istore_n (pc' := 26) (z := z1277) (L' := [(3, vI z1277), (0, .ref r0), (1, vI a1), (2, vI a2)]) rfl rfl rfl ?_)
            refine wp_of e114 c114_26 (rw_iload_n (pc' := 27) (z := z1277) rfl rfl ?_)
            refine wp_of e114 c114_27 (rw_if_eq (p1 := 36) (p2 := 30) (by decide) rfl ⟨by omega, by omega⟩ (fun c1290 => ?_) (fun c1290 => ?_))
            · have _cbb := a1284
              have _cb := _cbb.1
              have _cb6 := _cbb.2.1
              have _cb8 := _cbb.2.2.1
              have _cb7 := _cbb.2.2.2.1
              have h1291 : CEM T H1271 ce (xwf e d) (xlots d).toNat := _cbb.2.2.2.2
              refine wp_of e114 c114_36 (rw_aload_n (pc' := 37) (v := .ref r0) rfl rfl rfl ?_)
              refine wp_of e114 c114_37 (rw_aload_n (pc' := 38) (v := .ref r0) rfl rfl rfl ?_)
              have k1292 : H1271 r0 3 = H r0 3 := (f1276 r0 3 _ g0 rfl)
              have q1293 : H1271 r0 3 = (ce : Int) := k1292.trans qce
              refine wp_of e114 c114_38 (xg_K (pc' := 41) lf_0_30 w1275 g0 sh_1 (by decide) (by decide) rfl q1293 rfl ?_)
              refine wp_of e114 c114_41 (rw_aload_n (pc' := 42) (v := .ref r0) rfl rfl rfl ?_)
              have k1294 : H1271 r0 6 = H r0 6 := (f1276 r0 6 _ g0 rfl)
              have q1295 : H1271 r0 6 = (cu : Int) := k1294.trans qcu
              refine wp_of e114 c114_42 (xg_K (pc' := 45) lf_0_51 w1275 g0 sh_1 (by decide) (by decide) rfl q1295 rfl ?_)
              refine wp_of e114 c114_45 (rw_iload_n (pc' := 46) (z := a1) rfl rfl ?_)
              refine wp_of e114 c114_46 (rw_iload_n (pc' := 47) (z := a2) rfl rfl ?_)
              have k1296 : H1271 cu 18 = H cu 18 := (f1276 cu 18 _ gcu rfl)
              have h1297 : CU T H1271 cu e d n := (CU_fr hW gcu f1276 rfl hCU_cu)
              refine wp_of e114 c114_47 (xc_V (pc' := 50) (r := ce) (as := [.ref cu, vI a1, vI a2]) (st := [.ref r0]) (lm_0_220) rfl rfl (Nat.le_of_ble_eq_true rfl) w1275 gce sh_12 (by decide) rfl (by decide) (u_115 (e := e) (d := d) (n := n) w1275 gce gcu ⟨by omega, by omega⟩ ⟨by omega, by omega⟩ (by assumption) (by assumption) (by omega) (by omega) (by omega) (by omega) h1297 h1291) (fun R1298 T1299 H1300 p1301 => ?_))
              obtain ⟨e1302, e1304, z1305, e1303, b1306, p1307⟩ := p1301
              subst e1302
              subst e1303
              subst e1304
              show wp _ _ 114 50 [(3, vI z1277), (0, .ref r0), (1, vI a1), (2, vI a2)] [vI z1305, .ref r0] _ H1271 _
              refine wp_of e114 c114_50 (xc_V (pc' := 53) (r := r0) (as := [vI z1305]) (st := []) (lm_0_99) rfl rfl (Nat.le_of_ble_eq_true rfl) w1275 g0 sh_1 (by decide) rfl (by decide) (u_51  w1275 g0 ⟨by omega, by omega⟩) (fun R1309 T1310 H1311 p1312 => ?_))
              obtain ⟨e1313, w1315, f1316, z1317, e1314, b1318, p1319⟩ := p1312
              subst e1313
              subst e1314
              obtain ⟨a1320, a1321⟩ := p1319
              have f1322 := f1289.tr f1316 rfl
              show wp _ _ 114 53 [(3, vI z1277), (0, .ref r0), (1, vI a1), (2, vI a2)] [vI z1317] _ H1311 _
              have h1323 : CEN T H1311 ce e d := (CEN_fr w1275 gce f1316 rfl a1283)
              exact wp_ireturn e114 c114_53 rfl ⟨rfl, w1315, f1322, z1317, rfl, ⟨by omega, by omega⟩, (Or.inr ⟨by omega, by omega, h1323⟩)⟩
            · exfalso
              omega
          · have f1324 := f0.tr f1276 rfl
            show wp _ _ 114 25 [(0, .ref r0), (1, vI a1), (2, vI a2)] [vI z1277] _ H1271 _
            refine wp_of e114 c114_25 (rw_istore_n (pc' := 26) (z := z1277) (L' := [(3, vI z1277), (0, .ref r0), (1, vI a1), (2, vI a2)]) rfl rfl rfl ?_)
            refine wp_of e114 c114_26 (rw_iload_n (pc' := 27) (z := z1277) rfl rfl ?_)
            refine wp_of e114 c114_27 (rw_if_eq (p1 := 36) (p2 := 30) (by decide) rfl ⟨by omega, by omega⟩ (fun c1325 => ?_) (fun c1325 => ?_))
            · exfalso
              omega
            · refine wp_of e114 c114_30 (rw_aload_n (pc' := 31) (v := .ref r0) rfl rfl rfl ?_)
              refine wp_of e114 c114_31 (rw_iload_n (pc' := 32) (z := z1277) rfl rfl ?_)
              refine wp_of e114 c114_32 (xc_V (pc' := 35) (r := r0) (as := [vI z1277]) (st := []) (lm_0_70) rfl rfl (Nat.le_of_ble_eq_true rfl) w1275 g0 sh_1 (by decide) rfl (by decide) (u_12  w1275 g0 ⟨by omega, by omega⟩) (fun R1326 T1327 H1328 p1329 => ?_))
              obtain ⟨e1330, w1332, f1333, z1334, e1331, b1335, p1336⟩ := p1329
              subst e1330
              subst e1331
              obtain ⟨a1337, a1338⟩ := p1336
              have f1339 := f1324.tr f1333 rfl
              show wp _ _ 114 35 [(3, vI z1277), (0, .ref r0), (1, vI a1), (2, vI a2)] [vI z1334] _ H1328 _
              have h1340 : CEN T H1328 ce e d := (CEN_fr w1275 gce f1333 rfl a1288)
              exact wp_ireturn e114 c114_35 rfl ⟨rfl, w1332, f1339, z1334, rfl, ⟨by omega, by omega⟩, (Or.inl ⟨by omega, by omega, h1340⟩)⟩
      · show wp _ _ 114 14 [(0, .ref r0), (1, vI a1), (2, vI a2)] [vI z1261, .ref r0] _ H _
        refine wp_of e114 c114_14 (rw_if_eq (p1 := 21) (p2 := 17) (by decide) rfl ⟨by omega, by omega⟩ (fun c1341 => ?_) (fun c1341 => ?_))
        · refine wp_of e114 c114_21 (rw_iconst (pc' := 22) rfl ?_)
          refine wp_of e114 c114_22 (xc_V (pc' := 25) (r := r0) (as := [vI 0]) (st := []) (lm_0_174) rfl rfl (Nat.le_of_ble_eq_true rfl) hW g0 sh_1 (by decide) rfl (by decide) (u_83 (e := e) (d := d) (n := n) hW g0 ⟨by omega, by omega⟩ qcu gcu qwa gwa qce gce (by assumption) (by assumption) (by omega) (by omega) (by omega) hCU_cu hCEN_ce hHDR_ce) (fun R1342 T1343 H1344 p1345 => ?_))
          obtain ⟨e1346, w1348, f1349, z1350, e1347, b1351, p1352⟩ := p1345
          subst e1346
          subst e1347
          rcases p1352 with ⟨a1353, a1354, a1355, a1356, a1357, a1358⟩ | ⟨a1359, a1360, a1361⟩
          · have f1362 := f0.tr f1349 rfl
            show wp _ _ 114 25 [(0, .ref r0), (1, vI a1), (2, vI a2)] [vI z1350] _ H1344 _
            refine wp_of e114 c114_25 (rw_istore_n (pc' := 26) (z := z1350) (L' := [(3, vI z1350), (0, .ref r0), (1, vI a1), (2, vI a2)]) rfl rfl rfl ?_)
            refine wp_of e114 c114_26 (rw_iload_n (pc' := 27) (z := z1350) rfl rfl ?_)
            refine wp_of e114 c114_27 (rw_if_eq (p1 := 36) (p2 := 30) (by decide) rfl ⟨by omega, by omega⟩ (fun c1363 => ?_) (fun c1363 => ?_))
            · have _cbb := a1357
              have _cb := _cbb.1
              have _cb6 := _cbb.2.1
              have _cb8 := _cbb.2.2.1
              have _cb7 := _cbb.2.2.2.1
              have h1364 : CEM T H1344 ce (xwf e d) (xlots d).toNat := _cbb.2.2.2.2
              refine wp_of e114 c114_36 (rw_aload_n (pc' := 37) (v := .ref r0) rfl rfl rfl ?_)
              refine wp_of e114 c114_37 (rw_aload_n (pc' := 38) (v := .ref r0) rfl rfl rfl ?_)
              have k1365 : H1344 r0 3 = H r0 3 := (f1349 r0 3 _ g0 rfl)
              have q1366 : H1344 r0 3 = (ce : Int) := k1365.trans qce
              refine wp_of e114 c114_38 (xg_K (pc' := 41) lf_0_30 w1348 g0 sh_1 (by decide) (by decide) rfl q1366 rfl ?_)
              refine wp_of e114 c114_41 (rw_aload_n (pc' := 42) (v := .ref r0) rfl rfl rfl ?_)
              have k1367 : H1344 r0 6 = H r0 6 := (f1349 r0 6 _ g0 rfl)
              have q1368 : H1344 r0 6 = (cu : Int) := k1367.trans qcu
              refine wp_of e114 c114_42 (xg_K (pc' := 45) lf_0_51 w1348 g0 sh_1 (by decide) (by decide) rfl q1368 rfl ?_)
              refine wp_of e114 c114_45 (rw_iload_n (pc' := 46) (z := a1) rfl rfl ?_)
              refine wp_of e114 c114_46 (rw_iload_n (pc' := 47) (z := a2) rfl rfl ?_)
              have k1369 : H1344 cu 18 = H cu 18 := (f1349 cu 18 _ gcu rfl)
              have h1370 : CU T H1344 cu e d n := (CU_fr hW gcu f1349 rfl hCU_cu)
              refine wp_of e114 c114_47 (xc_V (pc' := 50) (r := ce) (as := [.ref cu, vI a1, vI a2]) (st := [.ref r0]) (lm_0_220) rfl rfl (Nat.le_of_ble_eq_true rfl) w1348 gce sh_12 (by decide) rfl (by decide) (u_115 (e := e) (d := d) (n := n) w1348 gce gcu ⟨by omega, by omega⟩ ⟨by omega, by omega⟩ (by assumption) (by assumption) (by omega) (by omega) (by omega) (by omega) h1370 h1364) (fun R1371 T1372 H1373 p1374 => ?_))
              obtain ⟨e1375, e1377, z1378, e1376, b1379, p1380⟩ := p1374
              subst e1375
              subst e1376
              subst e1377
              show wp _ _ 114 50 [(3, vI z1350), (0, .ref r0), (1, vI a1), (2, vI a2)] [vI z1378, .ref r0] _ H1344 _
              refine wp_of e114 c114_50 (xc_V (pc' := 53) (r := r0) (as := [vI z1378]) (st := []) (lm_0_99) rfl rfl (Nat.le_of_ble_eq_true rfl) w1348 g0 sh_1 (by decide) rfl (by decide) (u_51  w1348 g0 ⟨by omega, by omega⟩) (fun R1382 T1383 H1384 p1385 => ?_))
              obtain ⟨e1386, w1388, f1389, z1390, e1387, b1391, p1392⟩ := p1385
              subst e1386
              subst e1387
              obtain ⟨a1393, a1394⟩ := p1392
              have f1395 := f1362.tr f1389 rfl
              show wp _ _ 114 53 [(3, vI z1350), (0, .ref r0), (1, vI a1), (2, vI a2)] [vI z1390] _ H1384 _
              have h1396 : CEN T H1384 ce e d := (CEN_fr w1348 gce f1389 rfl a1356)
              exact wp_ireturn e114 c114_53 rfl ⟨rfl, w1388, f1395, z1390, rfl, ⟨by omega, by omega⟩, (Or.inr ⟨by omega, by omega, h1396⟩)⟩
            · exfalso
              omega
          · have f1397 := f0.tr f1349 rfl
            show wp _ _ 114 25 [(0, .ref r0), (1, vI a1), (2, vI a2)] [vI z1350] _ H1344 _
            refine wp_of e114 c114_25 (rw_istore_n (pc' := 26) (z := z1350) (L' := [(3, vI z1350), (0, .ref r0), (1, vI a1), (2, vI a2)]) rfl rfl rfl ?_)
            refine wp_of e114 c114_26 (rw_iload_n (pc' := 27) (z := z1350) rfl rfl ?_)
            refine wp_of e114 c114_27 (rw_if_eq (p1 := 36) (p2 := 30) (by decide) rfl ⟨by omega, by omega⟩ (fun c1398 => ?_) (fun c1398 => ?_))
            · exfalso
              omega
            · refine wp_of e114 c114_30 (rw_aload_n (pc' := 31) (v := .ref r0) rfl rfl rfl ?_)
              refine wp_of e114 c114_31 (rw_iload_n (pc' := 32) (z := z1350) rfl rfl ?_)
              refine wp_of e114 c114_32 (xc_V (pc' := 35) (r := r0) (as := [vI z1350]) (st := []) (lm_0_70) rfl rfl (Nat.le_of_ble_eq_true rfl) w1348 g0 sh_1 (by decide) rfl (by decide) (u_12  w1348 g0 ⟨by omega, by omega⟩) (fun R1399 T1400 H1401 p1402 => ?_))
              obtain ⟨e1403, w1405, f1406, z1407, e1404, b1408, p1409⟩ := p1402
              subst e1403
              subst e1404
              obtain ⟨a1410, a1411⟩ := p1409
              have f1412 := f1397.tr f1406 rfl
              show wp _ _ 114 35 [(3, vI z1350), (0, .ref r0), (1, vI a1), (2, vI a2)] [vI z1407] _ H1401 _
              have h1413 : CEN T H1401 ce e d := (CEN_fr w1348 gce f1406 rfl a1361)
              exact wp_ireturn e114 c114_35 rfl ⟨rfl, w1405, f1412, z1407, rfl, ⟨by omega, by omega⟩, (Or.inl ⟨by omega, by omega, h1413⟩)⟩
        · exfalso
          omega
  · show wp _ _ 114 6 [(0, .ref r0), (1, vI a1), (2, vI a2)] [vI z1246, .ref r0] _ H _
    refine wp_of e114 c114_6 (rw_if_eq (p1 := 21) (p2 := 9) (by decide) rfl ⟨by omega, by omega⟩ (fun c1414 => ?_) (fun c1414 => ?_))
    · refine wp_of e114 c114_21 (rw_iconst (pc' := 22) rfl ?_)
      refine wp_of e114 c114_22 (xc_V (pc' := 25) (r := r0) (as := [vI 0]) (st := []) (lm_0_174) rfl rfl (Nat.le_of_ble_eq_true rfl) hW g0 sh_1 (by decide) rfl (by decide) (u_83 (e := e) (d := d) (n := n) hW g0 ⟨by omega, by omega⟩ qcu gcu qwa gwa qce gce (by assumption) (by assumption) (by omega) (by omega) (by omega) hCU_cu hCEN_ce hHDR_ce) (fun R1415 T1416 H1417 p1418 => ?_))
      obtain ⟨e1419, w1421, f1422, z1423, e1420, b1424, p1425⟩ := p1418
      subst e1419
      subst e1420
      rcases p1425 with ⟨a1426, a1427, a1428, a1429, a1430, a1431⟩ | ⟨a1432, a1433, a1434⟩
      · have f1435 := f0.tr f1422 rfl
        show wp _ _ 114 25 [(0, .ref r0), (1, vI a1), (2, vI a2)] [vI z1423] _ H1417 _
        refine wp_of e114 c114_25 (rw_istore_n (pc' := 26) (z := z1423) (L' := [(3, vI z1423), (0, .ref r0), (1, vI a1), (2, vI a2)]) rfl rfl rfl ?_)
        refine wp_of e114 c114_26 (rw_iload_n (pc' := 27) (z := z1423) rfl rfl ?_)
        refine wp_of e114 c114_27 (rw_if_eq (p1 := 36) (p2 := 30) (by decide) rfl ⟨by omega, by omega⟩ (fun c1436 => ?_) (fun c1436 => ?_))
        · have _cbb := a1430
          have _cb := _cbb.1
          have _cb6 := _cbb.2.1
          have _cb8 := _cbb.2.2.1
          have _cb7 := _cbb.2.2.2.1
          have h1437 : CEM T H1417 ce (xwf e d) (xlots d).toNat := _cbb.2.2.2.2
          refine wp_of e114 c114_36 (rw_aload_n (pc' := 37) (v := .ref r0) rfl rfl rfl ?_)
          refine wp_of e114 c114_37 (rw_aload_n (pc' := 38) (v := .ref r0) rfl rfl rfl ?_)
          have k1438 : H1417 r0 3 = H r0 3 := (f1422 r0 3 _ g0 rfl)
          have q1439 : H1417 r0 3 = (ce : Int) := k1438.trans qce
          refine wp_of e114 c114_38 (xg_K (pc' := 41) lf_0_30 w1421 g0 sh_1 (by decide) (by decide) rfl q1439 rfl ?_)
          refine wp_of e114 c114_41 (rw_aload_n (pc' := 42) (v := .ref r0) rfl rfl rfl ?_)
          have k1440 : H1417 r0 6 = H r0 6 := (f1422 r0 6 _ g0 rfl)
          have q1441 : H1417 r0 6 = (cu : Int) := k1440.trans qcu
          refine wp_of e114 c114_42 (xg_K (pc' := 45) lf_0_51 w1421 g0 sh_1 (by decide) (by decide) rfl q1441 rfl ?_)
          refine wp_of e114 c114_45 (rw_iload_n (pc' := 46) (z := a1) rfl rfl ?_)
          refine wp_of e114 c114_46 (rw_iload_n (pc' := 47) (z := a2) rfl rfl ?_)
          have k1442 : H1417 cu 18 = H cu 18 := (f1422 cu 18 _ gcu rfl)
          have h1443 : CU T H1417 cu e d n := (CU_fr hW gcu f1422 rfl hCU_cu)
          refine wp_of e114 c114_47 (xc_V (pc' := 50) (r := ce) (as := [.ref cu, vI a1, vI a2]) (st := [.ref r0]) (lm_0_220) rfl rfl (Nat.le_of_ble_eq_true rfl) w1421 gce sh_12 (by decide) rfl (by decide) (u_115 (e := e) (d := d) (n := n) w1421 gce gcu ⟨by omega, by omega⟩ ⟨by omega, by omega⟩ (by assumption) (by assumption) (by omega) (by omega) (by omega) (by omega) h1443 h1437) (fun R1444 T1445 H1446 p1447 => ?_))
          obtain ⟨e1448, e1450, z1451, e1449, b1452, p1453⟩ := p1447
          subst e1448
          subst e1449
          subst e1450
          show wp _ _ 114 50 [(3, vI z1423), (0, .ref r0), (1, vI a1), (2, vI a2)] [vI z1451, .ref r0] _ H1417 _
          refine wp_of e114 c114_50 (xc_V (pc' := 53) (r := r0) (as := [vI z1451]) (st := []) (lm_0_99) rfl rfl (Nat.le_of_ble_eq_true rfl) w1421 g0 sh_1 (by decide) rfl (by decide) (u_51  w1421 g0 ⟨by omega, by omega⟩) (fun R1455 T1456 H1457 p1458 => ?_))
          obtain ⟨e1459, w1461, f1462, z1463, e1460, b1464, p1465⟩ := p1458
          subst e1459
          subst e1460
          obtain ⟨a1466, a1467⟩ := p1465
          have f1468 := f1435.tr f1462 rfl
          show wp _ _ 114 53 [(3, vI z1423), (0, .ref r0), (1, vI a1), (2, vI a2)] [vI z1463] _ H1457 _
          have h1469 : CEN T H1457 ce e d := (CEN_fr w1421 gce f1462 rfl a1429)
          exact wp_ireturn e114 c114_53 rfl ⟨rfl, w1461, f1468, z1463, rfl, ⟨by omega, by omega⟩, (Or.inr ⟨by omega, by omega, h1469⟩)⟩
        · exfalso
          omega
      · have f1470 := f0.tr f1422 rfl
        show wp _ _ 114 25 [(0, .ref r0), (1, vI a1), (2, vI a2)] [vI z1423] _ H1417 _
        refine wp_of e114 c114_25 (rw_istore_n (pc' := 26) (z := z1423) (L' := [(3, vI z1423), (0, .ref r0), (1, vI a1), (2, vI a2)]) rfl rfl rfl ?_)
        refine wp_of e114 c114_26 (rw_iload_n (pc' := 27) (z := z1423) rfl rfl ?_)
        refine wp_of e114 c114_27 (rw_if_eq (p1 := 36) (p2 := 30) (by decide) rfl ⟨by omega, by omega⟩ (fun c1471 => ?_) (fun c1471 => ?_))
        · exfalso
          omega
        · refine wp_of e114 c114_30 (rw_aload_n (pc' := 31) (v := .ref r0) rfl rfl rfl ?_)
          refine wp_of e114 c114_31 (rw_iload_n (pc' := 32) (z := z1423) rfl rfl ?_)
          refine wp_of e114 c114_32 (xc_V (pc' := 35) (r := r0) (as := [vI z1423]) (st := []) (lm_0_70) rfl rfl (Nat.le_of_ble_eq_true rfl) w1421 g0 sh_1 (by decide) rfl (by decide) (u_12  w1421 g0 ⟨by omega, by omega⟩) (fun R1472 T1473 H1474 p1475 => ?_))
          obtain ⟨e1476, w1478, f1479, z1480, e1477, b1481, p1482⟩ := p1475
          subst e1476
          subst e1477
          obtain ⟨a1483, a1484⟩ := p1482
          have f1485 := f1470.tr f1479 rfl
          show wp _ _ 114 35 [(3, vI z1423), (0, .ref r0), (1, vI a1), (2, vI a2)] [vI z1480] _ H1474 _
          have h1486 : CEN T H1474 ce e d := (CEN_fr w1421 gce f1479 rfl a1434)
          exact wp_ireturn e114 c114_35 rfl ⟨rfl, w1478, f1485, z1480, rfl, ⟨by omega, by omega⟩, (Or.inl ⟨by omega, by omega, h1486⟩)⟩
    · exfalso
      omega
