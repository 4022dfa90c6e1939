/-! StrikeAwakeModel.readLine()V k -/
abbrev uq_177_k (r0 : Nat) (rp : Nat) (rb : Nat) (B : Nat → Int) (n : Int) (q : Int) (d : xD) (T : wq_T) (H : wq_H) : Option Value → wq_T → wq_H → Prop := fun r T' H' => T = T' ∧ WT T H' ∧ wfr [(54, 0), (54, 1), (54, 2), (54, 3), (54, 4), (54, 5), (54, 6), (54, 7), (54, 8), (42, 8), (42, 9), (42, 10), (42, 11), (42, 12), (42, 13), (42, 14), (42, 15), (42, 16), (42, 17), (42, 18), (64, 999), (65, 999), (56, 999), (57, 999), (66, 999), (60, 999), (63, 999), (58, 999), (59, 999), (55, 999), (61, 999), (62, 999), (72, 999), (71, 999), (67, 999), (68, 999), (69, 999)] T H H' ∧ none = r ∧ ((((xline B n q d).1 = 0) ∧ (q ≤ (xline B n q d).2.2) ∧ (∀ a, a ≠ rp → T.2.2.2 a = some 54 → H' a 3 = H a 3) ∧ RC T H' r0 B n (xline B n q d).2.2 ∧ DM T H' rp r0 (xdline B n q d)) ∨ (((xline B n q d).1 ≠ 0) ∧ (∀ a, a ≠ rp → T.2.2.2 a = some 54 → H' a 3 = H a 3) ∧ RO T H' r0 ((xline B n q d).1) ((xline B n q d).2.1)))
set_option maxHeartbeats 4000000 in
theorem u_177_k {kt : Nat → Option mc_E} {T : wq_T} {H : wq_H} {r0 : Nat} {rp : Nat} {rb : Nat} {B : Nat → Int} {n : Int} {q : Int} {d : xD} (hW : WT T H) (g0 : T.2.2.2 r0 = some 42) (qrp : H r0 4 = (rp : Int)) (grp : T.2.2.2 rp = some 54) (qrb : H r0 5 = (rb : Int)) (grb : T.2.2.2 rb = some 43) (hRC_r0 : RC T H r0 B n q) (hDM_rp : DM T H rp r0 d) : wpc kt 8 177 [.ref r0] T H (uq_177_k r0 rp rb B n q d T H) := by
  refine wp_enter e177 (Nat.le_of_ble_eq_true rfl) rfl ?_
  have f0 : wfr [(54, 0), (54, 1), (54, 2), (54, 3), (54, 4), (54, 5), (54, 6), (54, 7), (54, 8), (42, 8), (42, 9), (42, 10), (42, 11), (42, 12), (42, 13), (42, 14), (42, 15), (42, 16), (42, 17), (42, 18), (64, 999), (65, 999), (56, 999), (57, 999), (66, 999), (60, 999), (63, 999), (58, 999), (59, 999), (55, 999), (61, 999), (62, 999), (72, 999), (71, 999), (67, 999), (68, 999), (69, 999)] T H H := wfr.rf
  show wp _ _ 177 0 [(0, .ref r0)] [] _ H _
  have u1293 := RC_k hRC_r0
  have u1294 := DM_k hDM_rp
  have _r := @xre_r B n q
  refine wp_of e177 c177_0 (rw_aload_n (pc' := 1) (v := .ref r0) rfl rfl rfl ?_)
  refine wp_of e177 c177_1 (rw_ldcS (pc' := 3) (k := 72) rfl rfl rfl rfl ?_)
  refine wp_of e177 c177_3 (xc_V (pc' := 6) (r := r0) (as := [.ref 72]) (st := []) (lm_9_114) rfl rfl (Nat.le_of_ble_eq_true rfl) hW g0 sh_42 (by decide) rfl (by decide) (u_178_k (B := B) (n := n) (q := q) (kk := 12343) hW g0 rfl (by decide +kernel) hRC_r0) (fun R1295 T1296 H1297 p1298 => ?_))
  obtain ⟨e1299, e1301, z1302, e1300, b1303, p1304⟩ := p1298
  subst e1299
  subst e1300
  subst e1301
  rcases p1304 with ⟨a1305, a1306, a1307⟩ | ⟨a1308, a1309⟩
  · show wp _ _ 177 6 [(0, .ref r0)] [vI z1302] _ H _
    have y1310 := xre_y (B := B) (n := n) (q := q) 0 12343 rfl (by decide) (by omega)
    refine wp_of e177 c177_6 (rw_if_eq (p1 := 16) (p2 := 9) (by decide) rfl ⟨by omega, by omega⟩ (fun c1311 => ?_) (fun c1311 => ?_))
    · exfalso
      omega
    · refine wp_of e177 c177_9 (rw_aload_n (pc' := 10) (v := .ref r0) rfl rfl rfl ?_)
      refine wp_of e177 c177_10 (xc_V (pc' := 13) (r := r0) (as := []) (st := []) (lm_9_191) rfl rfl (Nat.le_of_ble_eq_true rfl) hW g0 sh_42 (by decide) rfl (by decide) (u_180_k (B := B) (n := n) (q := q) (d := d) hW g0 qrp grp qrb grb (by omega) hRC_r0 hDM_rp) (fun R1312 T1313 H1314 p1315 => ?_))
      obtain ⟨e1316, w1318, f1319, e1317, p1320⟩ := p1315
      subst e1316
      subst e1317
      rcases p1320 with ⟨a1321, a1322, a1323, a1324, a1325⟩ | ⟨a1326, a1327⟩
      · have f1328 := f0.tr f1319 rfl
        show wp _ _ 177 13 [(0, .ref r0)] [] _ H1314 _
        have u1329 := RC_k a1324
        have u1330 := DM_k a1325
        refine wp_of e177 c177_13 (rw_goto (p1 := 133) (by decide) ?_)
        have o1331 : (xline B n q d) = ((xl0 B n q d).1, (xl0 B n q d).2.1, (xl0 B n q d).2.2) := by
          unfold xline
          repeat first | rw [xs_0 (by omega)] | rw [xs_1 (by omega)] | rw [if_pos (by omega)] | rw [if_neg (by omega)]
          first | done | rfl | assumption | (exfalso; omega) | (refine Prod.ext ?_ (Prod.ext ?_ ?_) <;> (try dsimp only) <;> omega)
        have o1331a : ((xline B n q d)).1 = (xl0 B n q d).1 := by rw [o1331]
        have o1331b : ((xline B n q d)).2.1 = (xl0 B n q d).2.1 := by rw [o1331]
        have o1331c : ((xline B n q d)).2.2 = (xl0 B n q d).2.2 := by rw [o1331]
        have o1332 : xdline B n q d = ((xdlaw B n (xN B n q) d)) := by
          unfold xdline
          repeat first | rw [xs_0 (by omega)] | rw [xs_1 (by omega)] | rw [if_pos (by omega)] | rw [if_neg (by omega)]
          first | done | rfl
        exact wp_return e177 c177_133 rfl ⟨rfl, w1318, f1328, rfl, (Or.inl ⟨by omega, by omega, (fun a ha ga => (f1319 a 3 _ ga rfl)), by rw [show (xline B n q d).2.2 = ((xN B n (xN B n (xN B n (xN B n (xN B n (xN B n (xN B n q)))))))) by omega]; exact a1324, by rw [o1332]; exact a1325⟩)⟩
      · have f1333 := f0.tr f1319 rfl
        show wp _ _ 177 13 [(0, .ref r0)] [] _ H1314 _
        have u1334 := RO_k a1327
        refine wp_of e177 c177_13 (rw_goto (p1 := 133) (by decide) ?_)
        have o1335 : (xline B n q d) = ((xl0 B n q d).1, (xl0 B n q d).2.1, (xl0 B n q d).2.2) := by
          unfold xline
          repeat first | rw [xs_0 (by omega)] | rw [xs_1 (by omega)] | rw [if_pos (by omega)] | rw [if_neg (by omega)]
          first | done | rfl | assumption | (exfalso; omega) | (refine Prod.ext ?_ (Prod.ext ?_ ?_) <;> (try dsimp only) <;> omega)
        have o1335a : ((xline B n q d)).1 = (xl0 B n q d).1 := by rw [o1335]
        have o1335b : ((xline B n q d)).2.1 = (xl0 B n q d).2.1 := by rw [o1335]
        have o1335c : ((xline B n q d)).2.2 = (xl0 B n q d).2.2 := by rw [o1335]
        exact wp_return e177 c177_133 rfl ⟨rfl, w1318, f1333, rfl, (Or.inr ⟨by omega, (fun a ha ga => (f1319 a 3 _ ga rfl)), RO_eq a1327 (by omega) (by omega)⟩)⟩
  · show wp _ _ 177 6 [(0, .ref r0)] [vI z1302] _ H _
    have y1336 := xre_n (B := B) (n := n) (q := q) 0 12343 rfl (by decide) (by omega)
    refine wp_of e177 c177_6 (rw_if_eq (p1 := 16) (p2 := 9) (by decide) rfl ⟨by omega, by omega⟩ (fun c1337 => ?_) (fun c1337 => ?_))
    · refine wp_of e177 c177_16 (rw_aload_n (pc' := 17) (v := .ref r0) rfl rfl rfl ?_)
      refine wp_of e177 c177_17 (rw_ldcS (pc' := 19) (k := 76) rfl rfl rfl rfl ?_)
      refine wp_of e177 c177_19 (xc_V (pc' := 22) (r := r0) (as := [.ref 76]) (st := []) (lm_9_114) rfl rfl (Nat.le_of_ble_eq_true rfl) hW g0 sh_42 (by decide) rfl (by decide) (u_178_k (B := B) (n := n) (q := q) (kk := 542723566) hW g0 rfl (by decide +kernel) hRC_r0) (fun R1338 T1339 H1340 p1341 => ?_))
      obtain ⟨e1342, e1344, z1345, e1343, b1346, p1347⟩ := p1341
      subst e1342
      subst e1343
      subst e1344
      rcases p1347 with ⟨a1348, a1349, a1350⟩ | ⟨a1351, a1352⟩
      · show wp _ _ 177 22 [(0, .ref r0)] [vI z1345] _ H _
        have y1353 := xre_y (B := B) (n := n) (q := q) 1 542723566 rfl (by decide) (by omega)
        refine wp_of e177 c177_22 (rw_if_eq (p1 := 32) (p2 := 25) (by decide) rfl ⟨by omega, by omega⟩ (fun c1354 => ?_) (fun c1354 => ?_))
        · exfalso
          omega
        · refine wp_of e177 c177_25 (rw_aload_n (pc' := 26) (v := .ref r0) rfl rfl rfl ?_)
          refine wp_of e177 c177_26 (xc_V (pc' := 29) (r := r0) (as := []) (st := []) (lm_9_194) rfl rfl (Nat.le_of_ble_eq_true rfl) hW g0 sh_42 (by decide) rfl (by decide) (u_187_k (B := B) (n := n) (q := q) (d := d) hW g0 qrp grp qrb grb (by omega) hRC_r0 hDM_rp) (fun R1355 T1356 H1357 p1358 => ?_))
          obtain ⟨e1359, w1361, f1362, e1360, p1363⟩ := p1358
          subst e1359
          subst e1360
          rcases p1363 with ⟨a1364, a1365, a1366, a1367, a1368⟩ | ⟨a1369, a1370, a1371⟩
          · have f1372 := f0.tr f1362 rfl
            show wp _ _ 177 29 [(0, .ref r0)] [] _ H1357 _
            have u1373 := RC_k a1367
            have u1374 := DM_k a1368
            refine wp_of e177 c177_29 (rw_goto (p1 := 133) (by decide) ?_)
            have o1375 : (xline B n q d) = ((xl1 B n q d).1, (xl1 B n q d).2.1, (xl1 B n q d).2.2) := by
              unfold xline
              repeat first | rw [xs_0 (by omega)] | rw [xs_1 (by omega)] | rw [if_pos (by omega)] | rw [if_neg (by omega)]
              first | done | rfl | assumption | (exfalso; omega) | (refine Prod.ext ?_ (Prod.ext ?_ ?_) <;> (try dsimp only) <;> omega)
            have o1375a : ((xline B n q d)).1 = (xl1 B n q d).1 := by rw [o1375]
            have o1375b : ((xline B n q d)).2.1 = (xl1 B n q d).2.1 := by rw [o1375]
            have o1375c : ((xline B n q d)).2.2 = (xl1 B n q d).2.2 := by rw [o1375]
            have o1376 : xdline B n q d = (xdper B n (xN B n q) d) := by
              unfold xdline
              repeat first | rw [xs_0 (by omega)] | rw [xs_1 (by omega)] | rw [if_pos (by omega)] | rw [if_neg (by omega)]
              first | done | rfl
            exact wp_return e177 c177_133 rfl ⟨rfl, w1361, f1372, rfl, (Or.inl ⟨by omega, by omega, (fun a ha ga => (a1366 a ha ga)), by rw [show (xline B n q d).2.2 = ((xl1 B n q d).2.2) by omega]; exact a1367, by rw [o1376]; exact a1368⟩)⟩
          · have f1377 := f0.tr f1362 rfl
            show wp _ _ 177 29 [(0, .ref r0)] [] _ H1357 _
            have u1378 := RO_k a1371
            refine wp_of e177 c177_29 (rw_goto (p1 := 133) (by decide) ?_)
            have o1379 : (xline B n q d) = ((xl1 B n q d).1, (xl1 B n q d).2.1, (xl1 B n q d).2.2) := by
              unfold xline
              repeat first | rw [xs_0 (by omega)] | rw [xs_1 (by omega)] | rw [if_pos (by omega)] | rw [if_neg (by omega)]
              first | done | rfl | assumption | (exfalso; omega) | (refine Prod.ext ?_ (Prod.ext ?_ ?_) <;> (try dsimp only) <;> omega)
            have o1379a : ((xline B n q d)).1 = (xl1 B n q d).1 := by rw [o1379]
            have o1379b : ((xline B n q d)).2.1 = (xl1 B n q d).2.1 := by rw [o1379]
            have o1379c : ((xline B n q d)).2.2 = (xl1 B n q d).2.2 := by rw [o1379]
            exact wp_return e177 c177_133 rfl ⟨rfl, w1361, f1377, rfl, (Or.inr ⟨by omega, (fun a ha ga => (a1370 a ha ga)), RO_eq a1371 (by omega) (by omega)⟩)⟩
      · show wp _ _ 177 22 [(0, .ref r0)] [vI z1345] _ H _
        have y1380 := xre_n (B := B) (n := n) (q := q) 1 542723566 rfl (by decide) (by omega)
        refine wp_of e177 c177_22 (rw_if_eq (p1 := 32) (p2 := 25) (by decide) rfl ⟨by omega, by omega⟩ (fun c1381 => ?_) (fun c1381 => ?_))
        · refine wp_of e177 c177_32 (rw_aload_n (pc' := 33) (v := .ref r0) rfl rfl rfl ?_)
          refine wp_of e177 c177_33 (rw_ldcS (pc' := 35) (k := 77) rfl rfl rfl rfl ?_)
          refine wp_of e177 c177_35 (xc_V (pc' := 38) (r := r0) (as := [.ref 77]) (st := []) (lm_9_114) rfl rfl (Nat.le_of_ble_eq_true rfl) hW g0 sh_42 (by decide) rfl (by decide) (u_178_k (B := B) (n := n) (q := q) (kk := 643584494) hW g0 rfl (by decide +kernel) hRC_r0) (fun R1382 T1383 H1384 p1385 => ?_))
          obtain ⟨e1386, e1388, z1389, e1387, b1390, p1391⟩ := p1385
          subst e1386
          subst e1387
          subst e1388
          rcases p1391 with ⟨a1392, a1393, a1394⟩ | ⟨a1395, a1396⟩
          · show wp _ _ 177 38 [(0, .ref r0)] [vI z1389] _ H _
            have y1397 := xre_y (B := B) (n := n) (q := q) 2 643584494 rfl (by decide) (by omega)
            refine wp_of e177 c177_38 (rw_if_eq (p1 := 48) (p2 := 41) (by decide) rfl ⟨by omega, by omega⟩ (fun c1398 => ?_) (fun c1398 => ?_))
            · exfalso
              omega
            · refine wp_of e177 c177_41 (rw_aload_n (pc' := 42) (v := .ref r0) rfl rfl rfl ?_)
              refine wp_of e177 c177_42 (xc_V (pc' := 45) (r := r0) (as := []) (st := []) (lm_9_197) rfl rfl (Nat.le_of_ble_eq_true rfl) hW g0 sh_42 (by decide) rfl (by decide) (u_193_k (B := B) (n := n) (q := q) (d := d) hW g0 qrp grp qrb grb (by omega) hRC_r0 hDM_rp) (fun R1399 T1400 H1401 p1402 => ?_))
              obtain ⟨e1403, w1405, f1406, e1404, p1407⟩ := p1402
              subst e1403
              subst e1404
              rcases p1407 with ⟨a1408, a1409, a1410, a1411, a1412⟩ | ⟨a1413, a1414⟩
              · have f1415 := f0.tr f1406 rfl
                show wp _ _ 177 45 [(0, .ref r0)] [] _ H1401 _
                have u1416 := RC_k a1411
                have u1417 := DM_k a1412
                refine wp_of e177 c177_45 (rw_goto (p1 := 133) (by decide) ?_)
                have o1418 : (xline B n q d) = ((xl2 B n q d).1, (xl2 B n q d).2.1, (xl2 B n q d).2.2) := by
                  unfold xline
                  repeat first | rw [xs_0 (by omega)] | rw [xs_1 (by omega)] | rw [if_pos (by omega)] | rw [if_neg (by omega)]
                  first | done | rfl | assumption | (exfalso; omega) | (refine Prod.ext ?_ (Prod.ext ?_ ?_) <;> (try dsimp only) <;> omega)
                have o1418a : ((xline B n q d)).1 = (xl2 B n q d).1 := by rw [o1418]
                have o1418b : ((xline B n q d)).2.1 = (xl2 B n q d).2.1 := by rw [o1418]
                have o1418c : ((xline B n q d)).2.2 = (xl2 B n q d).2.2 := by rw [o1418]
                have o1419 : xdline B n q d = ((xdsex B n (xN B n q) d)) := by
                  unfold xdline
                  repeat first | rw [xs_0 (by omega)] | rw [xs_1 (by omega)] | rw [if_pos (by omega)] | rw [if_neg (by omega)]
                  first | done | rfl
                exact wp_return e177 c177_133 rfl ⟨rfl, w1405, f1415, rfl, (Or.inl ⟨by omega, by omega, (fun a ha ga => (f1406 a 3 _ ga rfl)), by rw [show (xline B n q d).2.2 = ((xN B n (xN B n q))) by omega]; exact a1411, by rw [o1419]; exact a1412⟩)⟩
              · have f1420 := f0.tr f1406 rfl
                show wp _ _ 177 45 [(0, .ref r0)] [] _ H1401 _
                have u1421 := RO_k a1414
                refine wp_of e177 c177_45 (rw_goto (p1 := 133) (by decide) ?_)
                have o1422 : (xline B n q d) = ((xl2 B n q d).1, (xl2 B n q d).2.1, (xl2 B n q d).2.2) := by
                  unfold xline
                  repeat first | rw [xs_0 (by omega)] | rw [xs_1 (by omega)] | rw [if_pos (by omega)] | rw [if_neg (by omega)]
                  first | done | rfl | assumption | (exfalso; omega) | (refine Prod.ext ?_ (Prod.ext ?_ ?_) <;> (try dsimp only) <;> omega)
                have o1422a : ((xline B n q d)).1 = (xl2 B n q d).1 := by rw [o1422]
                have o1422b : ((xline B n q d)).2.1 = (xl2 B n q d).2.1 := by rw [o1422]
                have o1422c : ((xline B n q d)).2.2 = (xl2 B n q d).2.2 := by rw [o1422]
                exact wp_return e177 c177_133 rfl ⟨rfl, w1405, f1420, rfl, (Or.inr ⟨by omega, (fun a ha ga => (f1406 a 3 _ ga rfl)), RO_eq a1414 (by omega) (by omega)⟩)⟩
          · show wp _ _ 177 38 [(0, .ref r0)] [vI z1389] _ H _
            have y1423 := xre_n (B := B) (n := n) (q := q) 2 643584494 rfl (by decide) (by omega)
            refine wp_of e177 c177_38 (rw_if_eq (p1 := 48) (p2 := 41) (by decide) rfl ⟨by omega, by omega⟩ (fun c1424 => ?_) (fun c1424 => ?_))
            · refine wp_of e177 c177_48 (rw_aload_n (pc' := 49) (v := .ref r0) rfl rfl rfl ?_)
              refine wp_of e177 c177_49 (rw_ldcS (pc' := 51) (k := 78) rfl rfl rfl rfl ?_)
              refine wp_of e177 c177_51 (xc_V (pc' := 54) (r := r0) (as := [.ref 78]) (st := []) (lm_9_114) rfl rfl (Nat.le_of_ble_eq_true rfl) hW g0 sh_42 (by decide) rfl (by decide) (u_178_k (B := B) (n := n) (q := q) (kk := 1574484) hW g0 rfl (by decide +kernel) hRC_r0) (fun R1425 T1426 H1427 p1428 => ?_))
              obtain ⟨e1429, e1431, z1432, e1430, b1433, p1434⟩ := p1428
              subst e1429
              subst e1430
              subst e1431
              rcases p1434 with ⟨a1435, a1436, a1437⟩ | ⟨a1438, a1439⟩
              · show wp _ _ 177 54 [(0, .ref r0)] [vI z1432] _ H _
                have y1440 := xre_y (B := B) (n := n) (q := q) 3 1574484 rfl (by decide) (by omega)
                refine wp_of e177 c177_54 (rw_if_eq (p1 := 64) (p2 := 57) (by decide) rfl ⟨by omega, by omega⟩ (fun c1441 => ?_) (fun c1441 => ?_))
                · exfalso
                  omega
                · refine wp_of e177 c177_57 (rw_aload_n (pc' := 58) (v := .ref r0) rfl rfl rfl ?_)
                  refine wp_of e177 c177_58 (xc_V (pc' := 61) (r := r0) (as := []) (st := []) (lm_9_200) rfl rfl (Nat.le_of_ble_eq_true rfl) hW g0 sh_42 (by decide) rfl (by decide) (u_196_k (B := B) (n := n) (q := q) (d := d) hW g0 qrp grp qrb grb (by omega) hRC_r0 hDM_rp) (fun R1442 T1443 H1444 p1445 => ?_))
                  obtain ⟨e1446, w1448, f1449, e1447, p1450⟩ := p1445
                  subst e1446
                  subst e1447
                  rcases p1450 with ⟨a1451, a1452, a1453, a1454, a1455⟩ | ⟨a1456, a1457⟩
                  · have f1458 := f0.tr f1449 rfl
                    show wp _ _ 177 61 [(0, .ref r0)] [] _ H1444 _
                    have u1459 := RC_k a1454
                    have u1460 := DM_k a1455
                    refine wp_of e177 c177_61 (rw_goto (p1 := 133) (by decide) ?_)
                    have o1461 : (xline B n q d) = ((xl3 B n q d).1, (xl3 B n q d).2.1, (xl3 B n q d).2.2) := by
                      unfold xline
                      repeat first | rw [xs_0 (by omega)] | rw [xs_1 (by omega)] | rw [if_pos (by omega)] | rw [if_neg (by omega)]
                      first | done | rfl | assumption | (exfalso; omega) | (refine Prod.ext ?_ (Prod.ext ?_ ?_) <;> (try dsimp only) <;> omega)
                    have o1461a : ((xline B n q d)).1 = (xl3 B n q d).1 := by rw [o1461]
                    have o1461b : ((xline B n q d)).2.1 = (xl3 B n q d).2.1 := by rw [o1461]
                    have o1461c : ((xline B n q d)).2.2 = (xl3 B n q d).2.2 := by rw [o1461]
                    have o1462 : xdline B n q d = ((xdap B n (xN B n q) d)) := by
                      unfold xdline
                      repeat first | rw [xs_0 (by omega)] | rw [xs_1 (by omega)] | rw [if_pos (by omega)] | rw [if_neg (by omega)]
                      first | done | rfl
                    exact wp_return e177 c177_133 rfl ⟨rfl, w1448, f1458, rfl, (Or.inl ⟨by omega, by omega, (fun a ha ga => (f1449 a 3 _ ga rfl)), by rw [show (xline B n q d).2.2 = ((xN B n (xN B n (xN B n (xN B n q))))) by omega]; exact a1454, by rw [o1462]; exact a1455⟩)⟩
                  · have f1463 := f0.tr f1449 rfl
                    show wp _ _ 177 61 [(0, .ref r0)] [] _ H1444 _
                    have u1464 := RO_k a1457
                    refine wp_of e177 c177_61 (rw_goto (p1 := 133) (by decide) ?_)
                    have o1465 : (xline B n q d) = ((xl3 B n q d).1, (xl3 B n q d).2.1, (xl3 B n q d).2.2) := by
                      unfold xline
                      repeat first | rw [xs_0 (by omega)] | rw [xs_1 (by omega)] | rw [if_pos (by omega)] | rw [if_neg (by omega)]
                      first | done | rfl | assumption | (exfalso; omega) | (refine Prod.ext ?_ (Prod.ext ?_ ?_) <;> (try dsimp only) <;> omega)
                    have o1465a : ((xline B n q d)).1 = (xl3 B n q d).1 := by rw [o1465]
                    have o1465b : ((xline B n q d)).2.1 = (xl3 B n q d).2.1 := by rw [o1465]
                    have o1465c : ((xline B n q d)).2.2 = (xl3 B n q d).2.2 := by rw [o1465]
                    exact wp_return e177 c177_133 rfl ⟨rfl, w1448, f1463, rfl, (Or.inr ⟨by omega, (fun a ha ga => (f1449 a 3 _ ga rfl)), RO_eq a1457 (by omega) (by omega)⟩)⟩
              · show wp _ _ 177 54 [(0, .ref r0)] [vI z1432] _ H _
                have y1466 := xre_n (B := B) (n := n) (q := q) 3 1574484 rfl (by decide) (by omega)
                refine wp_of e177 c177_54 (rw_if_eq (p1 := 64) (p2 := 57) (by decide) rfl ⟨by omega, by omega⟩ (fun c1467 => ?_) (fun c1467 => ?_))
                · refine wp_of e177 c177_64 (rw_aload_n (pc' := 65) (v := .ref r0) rfl rfl rfl ?_)
                  refine wp_of e177 c177_65 (rw_ldcS (pc' := 67) (k := 79) rfl rfl rfl rfl ?_)
                  refine wp_of e177 c177_67 (xc_V (pc' := 70) (r := r0) (as := [.ref 79]) (st := []) (lm_9_114) rfl rfl (Nat.le_of_ble_eq_true rfl) hW g0 sh_42 (by decide) rfl (by decide) (u_178_k (B := B) (n := n) (q := q) (kk := 81486) hW g0 rfl (by decide +kernel) hRC_r0) (fun R1468 T1469 H1470 p1471 => ?_))
                  obtain ⟨e1472, e1474, z1475, e1473, b1476, p1477⟩ := p1471
                  subst e1472
                  subst e1473
                  subst e1474
                  rcases p1477 with ⟨a1478, a1479, a1480⟩ | ⟨a1481, a1482⟩
                  · show wp _ _ 177 70 [(0, .ref r0)] [vI z1475] _ H _
                    have y1483 := xre_y (B := B) (n := n) (q := q) 4 81486 rfl (by decide) (by omega)
                    refine wp_of e177 c177_70 (rw_if_eq (p1 := 80) (p2 := 73) (by decide) rfl ⟨by omega, by omega⟩ (fun c1484 => ?_) (fun c1484 => ?_))
                    · exfalso
                      omega
                    · refine wp_of e177 c177_73 (rw_aload_n (pc' := 74) (v := .ref r0) rfl rfl rfl ?_)
                      refine wp_of e177 c177_74 (xc_V (pc' := 77) (r := r0) (as := []) (st := []) (lm_9_203) rfl rfl (Nat.le_of_ble_eq_true rfl) hW g0 sh_42 (by decide) rfl (by decide) (u_198_k (B := B) (n := n) (q := q) (d := d) hW g0 qrp grp qrb grb (by omega) hRC_r0 hDM_rp) (fun R1485 T1486 H1487 p1488 => ?_))
                      obtain ⟨e1489, w1491, f1492, e1490, p1493⟩ := p1488
                      subst e1489
                      subst e1490
                      rcases p1493 with ⟨a1494, a1495, a1496, a1497, a1498⟩ | ⟨a1499, a1500⟩
                      · have f1501 := f0.tr f1492 rfl
                        show wp _ _ 177 77 [(0, .ref r0)] [] _ H1487 _
                        have u1502 := RC_k a1497
                        have u1503 := DM_k a1498
                        refine wp_of e177 c177_77 (rw_goto (p1 := 133) (by decide) ?_)
                        have o1504 : (xline B n q d) = ((xl4 B n q d).1, (xl4 B n q d).2.1, (xl4 B n q d).2.2) := by
                          unfold xline
                          repeat first | rw [xs_0 (by omega)] | rw [xs_1 (by omega)] | rw [if_pos (by omega)] | rw [if_neg (by omega)]
                          first | done | rfl | assumption | (exfalso; omega) | (refine Prod.ext ?_ (Prod.ext ?_ ?_) <;> (try dsimp only) <;> omega)
                        have o1504a : ((xline B n q d)).1 = (xl4 B n q d).1 := by rw [o1504]
                        have o1504b : ((xline B n q d)).2.1 = (xl4 B n q d).2.1 := by rw [o1504]
                        have o1504c : ((xline B n q d)).2.2 = (xl4 B n q d).2.2 := by rw [o1504]
                        have o1505 : xdline B n q d = ((xdbo B n (xN B n q) d)) := by
                          unfold xdline
                          repeat first | rw [xs_0 (by omega)] | rw [xs_1 (by omega)] | rw [if_pos (by omega)] | rw [if_neg (by omega)]
                          first | done | rfl
                        exact wp_return e177 c177_133 rfl ⟨rfl, w1491, f1501, rfl, (Or.inl ⟨by omega, by omega, (fun a ha ga => (f1492 a 3 _ ga rfl)), by rw [show (xline B n q d).2.2 = ((xN B n (xN B n q))) by omega]; exact a1497, by rw [o1505]; exact a1498⟩)⟩
                      · have f1506 := f0.tr f1492 rfl
                        show wp _ _ 177 77 [(0, .ref r0)] [] _ H1487 _
                        have u1507 := RO_k a1500
                        refine wp_of e177 c177_77 (rw_goto (p1 := 133) (by decide) ?_)
                        have o1508 : (xline B n q d) = ((xl4 B n q d).1, (xl4 B n q d).2.1, (xl4 B n q d).2.2) := by
                          unfold xline
                          repeat first | rw [xs_0 (by omega)] | rw [xs_1 (by omega)] | rw [if_pos (by omega)] | rw [if_neg (by omega)]
                          first | done | rfl | assumption | (exfalso; omega) | (refine Prod.ext ?_ (Prod.ext ?_ ?_) <;> (try dsimp only) <;> omega)
                        have o1508a : ((xline B n q d)).1 = (xl4 B n q d).1 := by rw [o1508]
                        have o1508b : ((xline B n q d)).2.1 = (xl4 B n q d).2.1 := by rw [o1508]
                        have o1508c : ((xline B n q d)).2.2 = (xl4 B n q d).2.2 := by rw [o1508]
                        exact wp_return e177 c177_133 rfl ⟨rfl, w1491, f1506, rfl, (Or.inr ⟨by omega, (fun a ha ga => (f1492 a 3 _ ga rfl)), RO_eq a1500 (by omega) (by omega)⟩)⟩
                  · show wp _ _ 177 70 [(0, .ref r0)] [vI z1475] _ H _
                    have y1509 := xre_n (B := B) (n := n) (q := q) 4 81486 rfl (by decide) (by omega)
                    refine wp_of e177 c177_70 (rw_if_eq (p1 := 80) (p2 := 73) (by decide) rfl ⟨by omega, by omega⟩ (fun c1510 => ?_) (fun c1510 => ?_))
                    · refine wp_of e177 c177_80 (rw_aload_n (pc' := 81) (v := .ref r0) rfl rfl rfl ?_)
                      refine wp_of e177 c177_81 (rw_ldcS (pc' := 83) (k := 80) rfl rfl rfl rfl ?_)
                      refine wp_of e177 c177_83 (xc_V (pc' := 86) (r := r0) (as := [.ref 80]) (st := []) (lm_9_114) rfl rfl (Nat.le_of_ble_eq_true rfl) hW g0 sh_42 (by decide) rfl (by decide) (u_178_k (B := B) (n := n) (q := q) (kk := 659117163) hW g0 rfl (by decide +kernel) hRC_r0) (fun R1511 T1512 H1513 p1514 => ?_))
                      obtain ⟨e1515, e1517, z1518, e1516, b1519, p1520⟩ := p1514
                      subst e1515
                      subst e1516
                      subst e1517
                      rcases p1520 with ⟨a1521, a1522, a1523⟩ | ⟨a1524, a1525⟩
                      · show wp _ _ 177 86 [(0, .ref r0)] [vI z1518] _ H _
                        have y1526 := xre_y (B := B) (n := n) (q := q) 5 659117163 rfl (by decide) (by omega)
                        refine wp_of e177 c177_86 (rw_if_eq (p1 := 96) (p2 := 89) (by decide) rfl ⟨by omega, by omega⟩ (fun c1527 => ?_) (fun c1527 => ?_))
                        · exfalso
                          omega
                        · refine wp_of e177 c177_89 (rw_aload_n (pc' := 90) (v := .ref r0) rfl rfl rfl ?_)
                          refine wp_of e177 c177_90 (xc_V (pc' := 93) (r := r0) (as := []) (st := []) (lm_9_206) rfl rfl (Nat.le_of_ble_eq_true rfl) hW g0 sh_42 (by decide) rfl (by decide) (u_199_k (B := B) (n := n) (q := q) (d := d) hW g0 qrp grp qrb grb (by omega) hRC_r0 hDM_rp) (fun R1528 T1529 H1530 p1531 => ?_))
                          obtain ⟨e1532, w1534, f1535, e1533, p1536⟩ := p1531
                          subst e1532
                          subst e1533
                          rcases p1536 with ⟨a1537, a1538, a1539, a1540, a1541⟩ | ⟨a1542, a1543⟩
                          · have f1544 := f0.tr f1535 rfl
                            show wp _ _ 177 93 [(0, .ref r0)] [] _ H1530 _
                            have u1545 := RC_k a1540
                            have u1546 := DM_k a1541
                            refine wp_of e177 c177_93 (rw_goto (p1 := 133) (by decide) ?_)
                            have o1547 : (xline B n q d) = ((xl5 B n q d).1, (xl5 B n q d).2.1, (xl5 B n q d).2.2) := by
                              unfold xline
                              repeat first | rw [xs_0 (by omega)] | rw [xs_1 (by omega)] | rw [if_pos (by omega)] | rw [if_neg (by omega)]
                              first | done | rfl | assumption | (exfalso; omega) | (refine Prod.ext ?_ (Prod.ext ?_ ?_) <;> (try dsimp only) <;> omega)
                            have o1547a : ((xline B n q d)).1 = (xl5 B n q d).1 := by rw [o1547]
                            have o1547b : ((xline B n q d)).2.1 = (xl5 B n q d).2.1 := by rw [o1547]
                            have o1547c : ((xline B n q d)).2.2 = (xl5 B n q d).2.2 := by rw [o1547]
                            have o1548 : xdline B n q d = ((xdst B n (xN B n q) d)) := by
                              unfold xdline
                              repeat first | rw [xs_0 (by omega)] | rw [xs_1 (by omega)] | rw [if_pos (by omega)] | rw [if_neg (by omega)]
                              first | done | rfl
                            exact wp_return e177 c177_133 rfl ⟨rfl, w1534, f1544, rfl, (Or.inl ⟨by omega, by omega, (fun a ha ga => (f1535 a 3 _ ga rfl)), by rw [show (xline B n q d).2.2 = ((xN B n (xN B n (xN B n (xN B n q))))) by omega]; exact a1540, by rw [o1548]; exact a1541⟩)⟩
                          · have f1549 := f0.tr f1535 rfl
                            show wp _ _ 177 93 [(0, .ref r0)] [] _ H1530 _
                            have u1550 := RO_k a1543
                            refine wp_of e177 c177_93 (rw_goto (p1 := 133) (by decide) ?_)
                            have o1551 : (xline B n q d) = ((xl5 B n q d).1, (xl5 B n q d).2.1, (xl5 B n q d).2.2) := by
                              unfold xline
                              repeat first | rw [xs_0 (by omega)] | rw [xs_1 (by omega)] | rw [if_pos (by omega)] | rw [if_neg (by omega)]
                              first | done | rfl | assumption | (exfalso; omega) | (refine Prod.ext ?_ (Prod.ext ?_ ?_) <;> (try dsimp only) <;> omega)
                            have o1551a : ((xline B n q d)).1 = (xl5 B n q d).1 := by rw [o1551]
                            have o1551b : ((xline B n q d)).2.1 = (xl5 B n q d).2.1 := by rw [o1551]
                            have o1551c : ((xline B n q d)).2.2 = (xl5 B n q d).2.2 := by rw [o1551]
                            exact wp_return e177 c177_133 rfl ⟨rfl, w1534, f1549, rfl, (Or.inr ⟨by omega, (fun a ha ga => (f1535 a 3 _ ga rfl)), RO_eq a1543 (by omega) (by omega)⟩)⟩
                      · show wp _ _ 177 86 [(0, .ref r0)] [vI z1518] _ H _
                        have y1552 := xre_n (B := B) (n := n) (q := q) 5 659117163 rfl (by decide) (by omega)
                        refine wp_of e177 c177_86 (rw_if_eq (p1 := 96) (p2 := 89) (by decide) rfl ⟨by omega, by omega⟩ (fun c1553 => ?_) (fun c1553 => ?_))
                        · refine wp_of e177 c177_96 (rw_aload_n (pc' := 97) (v := .ref r0) rfl rfl rfl ?_)
                          refine wp_of e177 c177_97 (rw_ldcS (pc' := 99) (k := 81) rfl rfl rfl rfl ?_)
                          refine wp_of e177 c177_99 (xc_V (pc' := 102) (r := r0) (as := [.ref 81]) (st := []) (lm_9_114) rfl rfl (Nat.le_of_ble_eq_true rfl) hW g0 sh_42 (by decide) rfl (by decide) (u_178_k (B := B) (n := n) (q := q) (kk := 671108) hW g0 rfl (by decide +kernel) hRC_r0) (fun R1554 T1555 H1556 p1557 => ?_))
                          obtain ⟨e1558, e1560, z1561, e1559, b1562, p1563⟩ := p1557
                          subst e1558
                          subst e1559
                          subst e1560
                          rcases p1563 with ⟨a1564, a1565, a1566⟩ | ⟨a1567, a1568⟩
                          · show wp _ _ 177 102 [(0, .ref r0)] [vI z1561] _ H _
                            have y1569 := xre_y (B := B) (n := n) (q := q) 6 671108 rfl (by decide) (by omega)
                            refine wp_of e177 c177_102 (rw_if_eq (p1 := 112) (p2 := 105) (by decide) rfl ⟨by omega, by omega⟩ (fun c1570 => ?_) (fun c1570 => ?_))
                            · exfalso
                              omega
                            · refine wp_of e177 c177_105 (rw_aload_n (pc' := 106) (v := .ref r0) rfl rfl rfl ?_)
                              refine wp_of e177 c177_106 (xc_V (pc' := 109) (r := r0) (as := []) (st := []) (lm_9_209) rfl rfl (Nat.le_of_ble_eq_true rfl) hW g0 sh_42 (by decide) rfl (by decide) (u_200_k (B := B) (n := n) (q := q) (d := d) hW g0 qrp grp qrb grb (by omega) hRC_r0 hDM_rp) (fun R1571 T1572 H1573 p1574 => ?_))
                              obtain ⟨e1575, w1577, f1578, e1576, p1579⟩ := p1574
                              subst e1575
                              subst e1576
                              rcases p1579 with ⟨a1580, a1581, a1582, a1583, a1584⟩ | ⟨a1585, a1586⟩
                              · have f1587 := f0.tr f1578 rfl
                                show wp _ _ 177 109 [(0, .ref r0)] [] _ H1573 _
                                have u1588 := RC_k a1583
                                have u1589 := DM_k a1584
                                refine wp_of e177 c177_109 (rw_goto (p1 := 133) (by decide) ?_)
                                have o1590 : (xline B n q d) = ((xl6 B n q d).1, (xl6 B n q d).2.1, (xl6 B n q d).2.2) := by
                                  unfold xline
                                  repeat first | rw [xs_0 (by omega)] | rw [xs_1 (by omega)] | rw [if_pos (by omega)] | rw [if_neg (by omega)]
                                  first | done | rfl | assumption | (exfalso; omega) | (refine Prod.ext ?_ (Prod.ext ?_ ?_) <;> (try dsimp only) <;> omega)
                                have o1590a : ((xline B n q d)).1 = (xl6 B n q d).1 := by rw [o1590]
                                have o1590b : ((xline B n q d)).2.1 = (xl6 B n q d).2.1 := by rw [o1590]
                                have o1590c : ((xline B n q d)).2.2 = (xl6 B n q d).2.2 := by rw [o1590]
                                have o1591 : xdline B n q d = ((xdtl B n (xN B n q) d)) := by
                                  unfold xdline
                                  repeat first | rw [xs_0 (by omega)] | rw [xs_1 (by omega)] | rw [if_pos (by omega)] | rw [if_neg (by omega)]
                                  first | done | rfl
                                exact wp_return e177 c177_133 rfl ⟨rfl, w1577, f1587, rfl, (Or.inl ⟨by omega, by omega, (fun a ha ga => (f1578 a 3 _ ga rfl)), by rw [show (xline B n q d).2.2 = ((xN B n (xN B n (xN B n (xN B n (xN B n q)))))) by omega]; exact a1583, by rw [o1591]; exact a1584⟩)⟩
                              · have f1592 := f0.tr f1578 rfl
                                show wp _ _ 177 109 [(0, .ref r0)] [] _ H1573 _
                                have u1593 := RO_k a1586
                                refine wp_of e177 c177_109 (rw_goto (p1 := 133) (by decide) ?_)
                                have o1594 : (xline B n q d) = ((xl6 B n q d).1, (xl6 B n q d).2.1, (xl6 B n q d).2.2) := by
                                  unfold xline
                                  repeat first | rw [xs_0 (by omega)] | rw [xs_1 (by omega)] | rw [if_pos (by omega)] | rw [if_neg (by omega)]
                                  first | done | rfl | assumption | (exfalso; omega) | (refine Prod.ext ?_ (Prod.ext ?_ ?_) <;> (try dsimp only) <;> omega)
                                have o1594a : ((xline B n q d)).1 = (xl6 B n q d).1 := by rw [o1594]
                                have o1594b : ((xline B n q d)).2.1 = (xl6 B n q d).2.1 := by rw [o1594]
                                have o1594c : ((xline B n q d)).2.2 = (xl6 B n q d).2.2 := by rw [o1594]
                                exact wp_return e177 c177_133 rfl ⟨rfl, w1577, f1592, rfl, (Or.inr ⟨by omega, (fun a ha ga => (f1578 a 3 _ ga rfl)), RO_eq a1586 (by omega) (by omega)⟩)⟩
                          · show wp _ _ 177 102 [(0, .ref r0)] [vI z1561] _ H _
                            have y1595 := xre_n (B := B) (n := n) (q := q) 6 671108 rfl (by decide) (by omega)
                            refine wp_of e177 c177_102 (rw_if_eq (p1 := 112) (p2 := 105) (by decide) rfl ⟨by omega, by omega⟩ (fun c1596 => ?_) (fun c1596 => ?_))
                            · refine wp_of e177 c177_112 (rw_aload_n (pc' := 113) (v := .ref r0) rfl rfl rfl ?_)
                              refine wp_of e177 c177_113 (rw_ldcS (pc' := 115) (k := 82) rfl rfl rfl rfl ?_)
                              refine wp_of e177 c177_115 (xc_V (pc' := 118) (r := r0) (as := [.ref 82]) (st := []) (lm_9_114) rfl rfl (Nat.le_of_ble_eq_true rfl) hW g0 sh_42 (by decide) rfl (by decide) (u_178_k (B := B) (n := n) (q := q) (kk := 15931570) hW g0 rfl (by decide +kernel) hRC_r0) (fun R1597 T1598 H1599 p1600 => ?_))
                              obtain ⟨e1601, e1603, z1604, e1602, b1605, p1606⟩ := p1600
                              subst e1601
                              subst e1602
                              subst e1603
                              rcases p1606 with ⟨a1607, a1608, a1609⟩ | ⟨a1610, a1611⟩
                              · show wp _ _ 177 118 [(0, .ref r0)] [vI z1604] _ H _
                                have y1612 := xre_y (B := B) (n := n) (q := q) 7 15931570 rfl (by decide) (by omega)
                                refine wp_of e177 c177_118 (rw_if_eq (p1 := 128) (p2 := 121) (by decide) rfl ⟨by omega, by omega⟩ (fun c1613 => ?_) (fun c1613 => ?_))
                                · exfalso
                                  omega
                                · refine wp_of e177 c177_121 (rw_aload_n (pc' := 122) (v := .ref r0) rfl rfl rfl ?_)
                                  refine wp_of e177 c177_122 (xc_V (pc' := 125) (r := r0) (as := []) (st := []) (lm_9_212) rfl rfl (Nat.le_of_ble_eq_true rfl) hW g0 sh_42 (by decide) rfl (by decide) (u_203_k (B := B) (n := n) (q := q) (d := d) hW g0 qrp grp qrb grb (by omega) hRC_r0 hDM_rp) (fun R1614 T1615 H1616 p1617 => ?_))
                                  obtain ⟨e1618, w1620, f1621, e1619, p1622⟩ := p1617
                                  subst e1618
                                  subst e1619
                                  rcases p1622 with ⟨a1623, a1624, a1625, a1626, a1627⟩ | ⟨a1628, a1629⟩
                                  · have f1630 := f0.tr f1621 rfl
                                    show wp _ _ 177 125 [(0, .ref r0)] [] _ H1616 _
                                    have u1631 := RC_k a1626
                                    have u1632 := DM_k a1627
                                    refine wp_of e177 c177_125 (rw_goto (p1 := 133) (by decide) ?_)
                                    have o1633 : (xline B n q d) = ((xl7 B n q d).1, (xl7 B n q d).2.1, (xl7 B n q d).2.2) := by
                                      unfold xline
                                      repeat first | rw [xs_0 (by omega)] | rw [xs_1 (by omega)] | rw [if_pos (by omega)] | rw [if_neg (by omega)]
                                      first | done | rfl | assumption | (exfalso; omega) | (refine Prod.ext ?_ (Prod.ext ?_ ?_) <;> (try dsimp only) <;> omega)
                                    have o1633a : ((xline B n q d)).1 = (xl7 B n q d).1 := by rw [o1633]
                                    have o1633b : ((xline B n q d)).2.1 = (xl7 B n q d).2.1 := by rw [o1633]
                                    have o1633c : ((xline B n q d)).2.2 = (xl7 B n q d).2.2 := by rw [o1633]
                                    have o1634 : xdline B n q d = ((xdof B n (xN B n q) d)) := by
                                      unfold xdline
                                      repeat first | rw [xs_0 (by omega)] | rw [xs_1 (by omega)] | rw [if_pos (by omega)] | rw [if_neg (by omega)]
                                      first | done | rfl
                                    exact wp_return e177 c177_133 rfl ⟨rfl, w1620, f1630, rfl, (Or.inl ⟨by omega, by omega, (fun a ha ga => (f1621 a 3 _ ga rfl)), by rw [show (xline B n q d).2.2 = ((xN B n (xN B n (xN B n (xN B n (xN B n q)))))) by omega]; exact a1626, by rw [o1634]; exact a1627⟩)⟩
                                  · have f1635 := f0.tr f1621 rfl
                                    show wp _ _ 177 125 [(0, .ref r0)] [] _ H1616 _
                                    have u1636 := RO_k a1629
                                    refine wp_of e177 c177_125 (rw_goto (p1 := 133) (by decide) ?_)
                                    have o1637 : (xline B n q d) = ((xl7 B n q d).1, (xl7 B n q d).2.1, (xl7 B n q d).2.2) := by
                                      unfold xline
                                      repeat first | rw [xs_0 (by omega)] | rw [xs_1 (by omega)] | rw [if_pos (by omega)] | rw [if_neg (by omega)]
                                      first | done | rfl | assumption | (exfalso; omega) | (refine Prod.ext ?_ (Prod.ext ?_ ?_) <;> (try dsimp only) <;> omega)
                                    have o1637a : ((xline B n q d)).1 = (xl7 B n q d).1 := by rw [o1637]
                                    have o1637b : ((xline B n q d)).2.1 = (xl7 B n q d).2.1 := by rw [o1637]
                                    have o1637c : ((xline B n q d)).2.2 = (xl7 B n q d).2.2 := by rw [o1637]
                                    exact wp_return e177 c177_133 rfl ⟨rfl, w1620, f1635, rfl, (Or.inr ⟨by omega, (fun a ha ga => (f1621 a 3 _ ga rfl)), RO_eq a1629 (by omega) (by omega)⟩)⟩
                              · show wp _ _ 177 118 [(0, .ref r0)] [vI z1604] _ H _
                                have y1638 := xre_n (B := B) (n := n) (q := q) 7 15931570 rfl (by decide) (by omega)
                                refine wp_of e177 c177_118 (rw_if_eq (p1 := 128) (p2 := 121) (by decide) rfl ⟨by omega, by omega⟩ (fun c1639 => ?_) (fun c1639 => ?_))
                                · refine wp_of e177 c177_128 (rw_aload_n (pc' := 129) (v := .ref r0) rfl rfl rfl ?_)
                                  refine wp_of e177 c177_129 (rw_iconst (pc' := 130) rfl ?_)
                                  refine wp_of e177 c177_130 (xc_V (pc' := 133) (r := r0) (as := [vI 1]) (st := []) (lm_9_121) rfl rfl (Nat.le_of_ble_eq_true rfl) hW g0 sh_42 (by decide) rfl (by decide) (u_181_k (B := B) (n := n) (q := q) hW g0 ⟨by omega, by omega⟩ (by omega) hRC_r0) (fun R1640 T1641 H1642 p1643 => ?_))
                                  obtain ⟨e1644, w1646, f1647, e1645, p1648⟩ := p1643
                                  subst e1644
                                  subst e1645
                                  have f1650 := f0.tr f1647 rfl
                                  show wp _ _ 177 133 [(0, .ref r0)] [] _ H1642 _
                                  have u1651 := RO_k p1648
                                  have o1652 : (xline B n q d) = (1, q, q) := by
                                    unfold xline
                                    repeat first | rw [xs_0 (by omega)] | rw [xs_1 (by omega)] | rw [if_pos (by omega)] | rw [if_neg (by omega)]
                                    first | done | rfl | assumption | (exfalso; omega) | (refine Prod.ext ?_ (Prod.ext ?_ ?_) <;> (try dsimp only) <;> omega)
                                  have o1652a : ((xline B n q d)).1 = 1 := by rw [o1652]
                                  have o1652b : ((xline B n q d)).2.1 = q := by rw [o1652]
                                  have o1652c : ((xline B n q d)).2.2 = q := by rw [o1652]
                                  exact wp_return e177 c177_133 rfl ⟨rfl, w1646, f1650, rfl, (Or.inr ⟨by omega, (fun a ha ga => (f1647 a 3 _ ga rfl)), RO_eq p1648 (by omega) (by omega)⟩)⟩
                                · exfalso
                                  omega
                            · exfalso
                              omega
                        · exfalso
                          omega
                    · exfalso
                      omega
                · exfalso
                  omega
            · exfalso
              omega
        · exfalso
          omega
    · exfalso
      omega
/-! StrikeAwakeModel.readParish()V k -/
abbrev uq_176_k (r0 : Nat) (rp : Nat) (rb : Nat) (B : Nat → Int) (n : Int) (q : Int) (d : xD) (f : Nat) (T : wq_T) (H : wq_H) : Option Value → wq_T → wq_H → Prop := fun r T' H' => T = T' ∧ WT T H' ∧ wfr [(54, 0), (54, 1), (54, 2), (54, 3), (54, 4), (54, 5), (54, 6), (54, 7), (54, 8), (42, 8), (42, 9), (42, 10), (42, 11), (42, 12), (42, 13), (42, 14), (42, 15), (42, 16), (42, 17), (42, 18), (64, 999), (65, 999), (56, 999), (57, 999), (66, 999), (60, 999), (63, 999), (58, 999), (59, 999), (55, 999), (61, 999), (62, 999), (72, 999), (71, 999), (67, 999), (68, 999), (69, 999)] T H H' ∧ none = r ∧ (((((xpf B n f q d).1).1 = 0) ∧ (H' r0 13 = 0) ∧ (∀ a, a ≠ rp → T.2.2.2 a = some 54 → H' a 3 = H a 3) ∧ DM T H' rp r0 ((xpf B n f q d).2)) ∨ ((((xpf B n f q d).1).1 ≠ 0) ∧ (∀ a, a ≠ rp → T.2.2.2 a = some 54 → H' a 3 = H a 3) ∧ RO T H' r0 (((xpf B n f q d).1).1) (((xpf B n f q d).1).2.1)))
set_option maxHeartbeats 4000000 in
theorem u_176_k {kt : Nat → Option mc_E} {T : wq_T} {H : wq_H} {r0 : Nat} {rp : Nat} {rb : Nat} {B : Nat → Int} {n : Int} {q : Int} {d : xD} {f : Nat} (hW : WT T H) (g0 : T.2.2.2 r0 = some 42) (qrp : H r0 4 = (rp : Int)) (grp : T.2.2.2 rp = some 54) (qrb : H r0 5 = (rb : Int)) (grb : T.2.2.2 rb = some 43) (p0 : n - q < f) (hRC_r0 : RC T H r0 B n q) (hDM_rp : DM T H rp r0 d) : wpc kt 9 176 [.ref r0] T H (uq_176_k r0 rp rb B n q d f T H) := by
  refine wp_enter e176 (Nat.le_of_ble_eq_true rfl) rfl ?_
  have f0 : wfr [(54, 0), (54, 1), (54, 2), (54, 3), (54, 4), (54, 5), (54, 6), (54, 7), (54, 8), (42, 8), (42, 9), (42, 10), (42, 11), (42, 12), (42, 13), (42, 14), (42, 15), (42, 16), (42, 17), (42, 18), (64, 999), (65, 999), (56, 999), (57, 999), (66, 999), (60, 999), (63, 999), (58, 999), (59, 999), (55, 999), (61, 999), (62, 999), (72, 999), (71, 999), (67, 999), (68, 999), (69, 999)] T H H := wfr.rf
  show wp _ _ 176 0 [(0, .ref r0)] [] _ H _
  have u1527 := RC_k hRC_r0
  have u1528 := DM_k hDM_rp
  refine wp_of e176 c176_0 (rw_iconst (pc' := 1) rfl ?_)
  refine wp_of e176 c176_1 (rw_istore_n (pc' := 2) (z := 1) (L' := [(1, vI 1), (0, .ref r0)]) rfl rfl rfl ?_)
  have lp1879 : ∀ (n1880 : Nat) (v1882 : Int) (H1883 : wq_H) (q1884 : Int) (d1885 : xD) (f1886 : Nat), WT T H1883 → wfr [(54, 0), (54, 1), (54, 2), (54, 3), (54, 4), (54, 5), (54, 6), (54, 7), (54, 8), (42, 8), (42, 9), (42, 10), (42, 11), (42, 12), (42, 13), (42, 14), (42, 15), (42, 16), (42, 17), (42, 18), (64, 999), (65, 999), (56, 999), (57, 999), (66, 999), (60, 999), (63, 999), (58, 999), (59, 999), (55, 999), (61, 999), (62, 999), (72, 999), (71, 999), (67, 999), (68, 999), (69, 999)] T H H1883 → (1 ≤ v1882 ∧ v1882 ≤ 1) → (∀ a, a ≠ rp → T.2.2.2 a = some 54 → H1883 a 3 = H a 3) → RC T H1883 r0 B n q1884 → DM T H1883 rp r0 d1885 → (n - q1884 < f1886) → (xpf B n f1886 q1884 d1885 = xpf B n f q d) → (901 - q1884).toNat = n1880 → wp kt 8 176 2 [(1, vI v1882), (0, .ref r0)] [] T H1883 (uq_176_k r0 rp rb B n q d f T H) := by
    intro n1880
    induction n1880 using Nat.strongRecOn with
    | _ n1880 ih1881 =>
      intro v1882 H1883 q1884 d1885 f1886 w1887 f1888 b1889 x1890 h1892 h1893 x1894 x1895 m1891
      have f1896 := f0.tr f1888 rfl
      have u1897 := RC_k h1892
      have u1898 := DM_k h1893
      obtain ⟨gf, hg⟩ : ∃ g : Nat, f1886 = g + 1 := ⟨f1886 - 1, by omega⟩
      have hx : xpf B n (gf + 1) q1884 d1885 = xpf B n f q d := by
        rw [← hg]
        exact ‹xpf B n f1886 q1884 d1885 = xpf B n f q d›
      refine wp_of e176 c176_2 (rw_iload_n (pc' := 3) (z := v1882) rfl rfl ?_)
      refine wp_of e176 c176_3 (rw_if_eq (p1 := 20) (p2 := 6) (by decide) rfl ⟨by omega, by omega⟩ (fun c1899 => ?_) (fun c1899 => ?_))
      · exfalso
        omega
      · refine wp_of e176 c176_6 (rw_aload_n (pc' := 7) (v := .ref r0) rfl rfl rfl ?_)
        have k1900 : H1883 r0 4 = H r0 4 := (f1888 r0 4 _ g0 rfl)
        have q1901 : H1883 r0 4 = (rp : Int) := k1900.trans qrp
        have k1902 : H1883 r0 5 = H r0 5 := (f1888 r0 5 _ g0 rfl)
        have q1903 : H1883 r0 5 = (rb : Int) := k1902.trans qrb
        refine wp_of e176 c176_7 (xc_V (pc' := 10) (r := r0) (as := []) (st := []) (lm_9_179) rfl rfl (Nat.le_of_ble_eq_true rfl) w1887 g0 sh_42 (by decide) rfl (by decide) (u_177_k (B := B) (n := n) (q := q1884) (d := d1885) w1887 g0 q1901 grp q1903 grb h1892 h1893) (fun R1904 T1905 H1906 p1907 => ?_))
        obtain ⟨e1908, w1910, f1911, e1909, p1912⟩ := p1907
        subst e1908
        subst e1909
        rcases p1912 with ⟨a1913, a1914, a1915, a1916, a1917⟩ | ⟨a1918, a1919, a1920⟩
        · have f1921 := f1896.tr f1911 rfl
          have f1922 := f1888.tr f1911 rfl
          show wp _ _ 176 10 [(1, vI v1882), (0, .ref r0)] [] _ H1906 _
          have u1923 := RC_k a1916
          have u1924 := DM_k a1917
          have _e := RC_e a1916
          refine wp_of e176 c176_10 (rw_aload_n (pc' := 11) (v := .ref r0) rfl rfl rfl ?_)
          refine wp_of e176 c176_11 (rw_bipush (pc' := 13) (z := 59) rfl (by decide) ?_)
          have k1925 : H1906 r0 5 = H1883 r0 5 := (f1911 r0 5 _ g0 rfl)
          have q1926 : H1906 r0 5 = (rb : Int) := k1925.trans q1903
          refine wp_of e176 c176_13 (xc_V (pc' := 16) (r := r0) (as := [vI 59]) (st := []) (lm_9_182) rfl rfl (Nat.le_of_ble_eq_true rfl) w1910 g0 sh_42 (by decide) rfl (by decide) (u_204_k (B := B) (n := n) (q := ((xline B n q1884 d1885).2.2)) (kd := 3) w1910 g0 ⟨by omega, by omega⟩ q1926 grb (by omega) a1916) (fun R1927 T1928 H1929 p1930 => ?_))
          obtain ⟨e1931, w1933, f1934, z1935, e1932, b1936, p1937⟩ := p1930
          subst e1931
          subst e1932
          rcases p1937 with ⟨a1938, a1939, a1940, a1941⟩ | ⟨a1942, a1943, a1944, a1945⟩
          · have f1946 := f1921.tr f1934 rfl
            have f1947 := f1922.tr f1934 rfl
            show wp _ _ 176 16 [(1, vI v1882), (0, .ref r0)] [vI z1935] _ H1929 _
            have u1948 := RC_k a1941
            refine wp_of e176 c176_16 (rw_istore_n (pc' := 17) (z := z1935) (L' := [(1, vI z1935), (0, .ref r0)]) rfl rfl rfl ?_)
            refine wp_of e176 c176_17 (rw_goto (p1 := 2) (by decide) ?_)
            have h1949 : DM T H1929 rp r0 (xdline B n q1884 d1885) := (DM_fr w1910 grp f1934 rfl a1917)
            exact wp_lc (ks := [1, 0]) (wl_c rfl (wl_c rfl wl_n)) rfl (by decide) (ih1881 _ (by omega) z1935 H1929 ((xN B n ((xline B n q1884 d1885).2.2))) (xdline B n q1884 d1885) gf w1933 f1947 ⟨by omega, by omega⟩ (fun a ha ga => ((f1934 a 3 _ ga rfl).trans ((a1915 a ha ga).trans (x1890 a ha ga)))) a1941 h1949 (by omega) (by rw [← hx, xpf_u, if_pos (by omega), if_neg (by omega), if_pos (by omega)]) rfl)
          · have f1950 := f1921.tr f1934 rfl
            have f1951 := f1922.tr f1934 rfl
            show wp _ _ 176 16 [(1, vI v1882), (0, .ref r0)] [vI z1935] _ H1929 _
            have u1952 := RC_k a1945
            refine wp_of e176 c176_16 (rw_istore_n (pc' := 17) (z := z1935) (L' := [(1, vI z1935), (0, .ref r0)]) rfl rfl rfl ?_)
            refine wp_of e176 c176_17 (rw_goto (p1 := 2) (by decide) ?_)
            refine wp_of e176 c176_2 (rw_iload_n (pc' := 3) (z := z1935) rfl rfl ?_)
            refine wp_of e176 c176_3 (rw_if_eq (p1 := 20) (p2 := 6) (by decide) rfl ⟨by omega, by omega⟩ (fun c1953 => ?_) (fun c1953 => ?_))
            · have _s := RC_s a1945
              refine wp_of e176 c176_20 (rw_aload_n (pc' := 21) (v := .ref r0) rfl rfl rfl ?_)
              refine wp_of e176 c176_21 (xg_I (pc' := 24) lf_9_75 w1933 g0 sh_42 (by decide) (by decide) ty_42_9 rfl rfl (fun b1954 b1955 => ?_))
              refine wp_of e176 c176_24 (rw_iconst (pc' := 25) rfl ?_)
              refine wp_of e176 c176_25 (rw_icmp_eq (p1 := 33) (p2 := 28) (by decide) rfl ⟨by omega, by omega⟩ ⟨by omega, by omega⟩ (fun c1956 => ?_) (fun c1956 => ?_))
              · refine wp_of e176 c176_33 (rw_aload_n (pc' := 34) (v := .ref r0) rfl rfl rfl ?_)
                have k1957 : H1929 r0 4 = H1883 r0 4 := ((f1934 r0 4 _ g0 rfl).trans (f1911 r0 4 _ g0 rfl))
                have q1958 : H1929 r0 4 = (rp : Int) := k1957.trans q1901
                refine wp_of e176 c176_34 (xg_K (pc' := 37) lf_9_166 w1933 g0 sh_42 (by decide) (by decide) rfl q1958 rfl ?_)
                have k1959 : H1929 rp 0 = H1906 rp 0 := (f1934 rp 0 _ grp rfl)
                refine wp_of e176 c176_37 (xg_I (pc' := 40) lf_9_185 w1933 grp sh_54 (by decide) (by decide) ty_54_0 rfl rfl (fun b1960 b1961 => ?_))
                refine wp_of e176 c176_40 (rw_if_eq (p1 := 53) (p2 := 43) (by decide) rfl ⟨by omega, by omega⟩ (fun c1962 => ?_) (fun c1962 => ?_))
                · refine wp_of e176 c176_53 (rw_aload_n (pc' := 54) (v := .ref r0) rfl rfl rfl ?_)
                  refine wp_of e176 c176_54 (rw_bipush (pc' := 56) (z := 6) rfl (by decide) ?_)
                  refine wp_of e176 c176_56 (xc_V (pc' := 59) (r := r0) (as := [vI 6]) (st := []) (lm_9_121) rfl rfl (Nat.le_of_ble_eq_true rfl) w1933 g0 sh_42 (by decide) rfl (by decide) (u_181_k (B := B) (n := n) (q := ((xline B n q1884 d1885).2.2)) w1933 g0 ⟨by omega, by omega⟩ (by omega) a1945) (fun R1963 T1964 H1965 p1966 => ?_))
                  obtain ⟨e1967, w1969, f1970, e1968, p1971⟩ := p1966
                  subst e1967
                  subst e1968
                  have f1973 := f1950.tr f1970 rfl
                  show wp _ _ 176 59 [(1, vI z1935), (0, .ref r0)] [] _ H1965 _
                  have u1974 := RO_k p1971
                  have o1975 : ((xpf B n f q d).1) = (6, ((xline B n q1884 d1885).2.2), q1884) := by
                    rw [← hx, xpf_u]
                    repeat first | rw [xs_0 (by omega)] | rw [xs_1 (by omega)] | rw [if_pos (by omega)] | rw [if_neg (by omega)]
                    first | done | rfl | assumption | (exfalso; omega) | (refine Prod.ext ?_ (Prod.ext ?_ ?_) <;> (try dsimp only) <;> omega)
                  have o1975a : (((xpf B n f q d).1)).1 = 6 := by rw [o1975]
                  have o1975b : (((xpf B n f q d).1)).2.1 = ((xline B n q1884 d1885).2.2) := by rw [o1975]
                  have o1975c : (((xpf B n f q d).1)).2.2 = q1884 := by rw [o1975]
                  exact wp_return e176 c176_59 rfl ⟨rfl, w1969, f1973, rfl, (Or.inr ⟨by omega, (fun a ha ga => ((f1970 a 3 _ ga rfl).trans ((f1934 a 3 _ ga rfl).trans ((a1915 a ha ga).trans (x1890 a ha ga))))), RO_eq p1971 (by omega) (by omega)⟩)⟩
                · refine wp_of e176 c176_43 (rw_aload_n (pc' := 44) (v := .ref r0) rfl rfl rfl ?_)
                  refine wp_of e176 c176_44 (xg_K (pc' := 47) lf_9_166 w1933 g0 sh_42 (by decide) (by decide) rfl q1958 rfl ?_)
                  have k1976 : H1929 rp 3 = H1906 rp 3 := (f1934 rp 3 _ grp rfl)
                  refine wp_of e176 c176_47 (xg_I (pc' := 50) lf_9_188 w1933 grp sh_54 (by decide) (by decide) ty_54_3 rfl rfl (fun b1977 b1978 => ?_))
                  refine wp_of e176 c176_50 (rw_if_ne (p1 := 59) (p2 := 53) (by decide) rfl ⟨by omega, by omega⟩ (fun c1979 => ?_) (fun c1979 => ?_))
                  · have o1980 : ((xpf B n f q d).1) = (0, q1884, q1884) := by
                      rw [← hx, xpf_u]
                      repeat first | rw [xs_0 (by omega)] | rw [xs_1 (by omega)] | rw [if_pos (by omega)] | rw [if_neg (by omega)]
                      first | done | rfl | assumption | (exfalso; omega) | (refine Prod.ext ?_ (Prod.ext ?_ ?_) <;> (try dsimp only) <;> omega)
                    have o1980a : (((xpf B n f q d).1)).1 = 0 := by rw [o1980]
                    have o1980b : (((xpf B n f q d).1)).2.1 = q1884 := by rw [o1980]
                    have o1980c : (((xpf B n f q d).1)).2.2 = q1884 := by rw [o1980]
                    have h1981 : DM T H1929 rp r0 (xdline B n q1884 d1885) := (DM_fr w1910 grp f1934 rfl a1917)
                    exact wp_return e176 c176_59 rfl ⟨rfl, w1933, f1950, rfl, (Or.inl ⟨by omega, by omega, (fun a ha ga => ((f1934 a 3 _ ga rfl).trans ((a1915 a ha ga).trans (x1890 a ha ga)))), by rw [← hx, xpf_u, if_pos (by omega), if_pos (by omega), if_pos (by omega)]; exact h1981⟩)⟩
                  · refine wp_of e176 c176_53 (rw_aload_n (pc' := 54) (v := .ref r0) rfl rfl rfl ?_)
                    refine wp_of e176 c176_54 (rw_bipush (pc' := 56) (z := 6) rfl (by decide) ?_)
                    refine wp_of e176 c176_56 (xc_V (pc' := 59) (r := r0) (as := [vI 6]) (st := []) (lm_9_121) rfl rfl (Nat.le_of_ble_eq_true rfl) w1933 g0 sh_42 (by decide) rfl (by decide) (u_181_k (B := B) (n := n) (q := ((xline B n q1884 d1885).2.2)) w1933 g0 ⟨by omega, by omega⟩ (by omega) a1945) (fun R1982 T1983 H1984 p1985 => ?_))
                    obtain ⟨e1986, w1988, f1989, e1987, p1990⟩ := p1985
                    subst e1986
                    subst e1987
                    have f1992 := f1950.tr f1989 rfl
                    show wp _ _ 176 59 [(1, vI z1935), (0, .ref r0)] [] _ H1984 _
                    have u1993 := RO_k p1990
                    have o1994 : ((xpf B n f q d).1) = (6, ((xline B n q1884 d1885).2.2), q1884) := by
                      rw [← hx, xpf_u]
                      repeat first | rw [xs_0 (by omega)] | rw [xs_1 (by omega)] | rw [if_pos (by omega)] | rw [if_neg (by omega)]
                      first | done | rfl | assumption | (exfalso; omega) | (refine Prod.ext ?_ (Prod.ext ?_ ?_) <;> (try dsimp only) <;> omega)
                    have o1994a : (((xpf B n f q d).1)).1 = 6 := by rw [o1994]
                    have o1994b : (((xpf B n f q d).1)).2.1 = ((xline B n q1884 d1885).2.2) := by rw [o1994]
                    have o1994c : (((xpf B n f q d).1)).2.2 = q1884 := by rw [o1994]
                    exact wp_return e176 c176_59 rfl ⟨rfl, w1988, f1992, rfl, (Or.inr ⟨by omega, (fun a ha ga => ((f1989 a 3 _ ga rfl).trans ((f1934 a 3 _ ga rfl).trans ((a1915 a ha ga).trans (x1890 a ha ga))))), RO_eq p1990 (by omega) (by omega)⟩)⟩
              · refine wp_of e176 c176_28 (rw_aload_n (pc' := 29) (v := .ref r0) rfl rfl rfl ?_)
                refine wp_of e176 c176_29 (rw_iconst (pc' := 30) rfl ?_)
                refine wp_of e176 c176_30 (xc_V (pc' := 33) (r := r0) (as := [vI 1]) (st := []) (lm_9_121) rfl rfl (Nat.le_of_ble_eq_true rfl) w1933 g0 sh_42 (by decide) rfl (by decide) (u_181_k (B := B) (n := n) (q := ((xline B n q1884 d1885).2.2)) w1933 g0 ⟨by omega, by omega⟩ (by omega) a1945) (fun R1995 T1996 H1997 p1998 => ?_))
                obtain ⟨e1999, w2001, f2002, e2000, p2003⟩ := p1998
                subst e1999
                subst e2000
                have f2005 := f1950.tr f2002 rfl
                show wp _ _ 176 33 [(1, vI z1935), (0, .ref r0)] [] _ H1997 _
                have u2006 := RO_k p2003
                refine wp_of e176 c176_33 (rw_aload_n (pc' := 34) (v := .ref r0) rfl rfl rfl ?_)
                have k2007 : H1997 r0 4 = H1883 r0 4 := ((f2002 r0 4 _ g0 rfl).trans ((f1934 r0 4 _ g0 rfl).trans (f1911 r0 4 _ g0 rfl)))
                have q2008 : H1997 r0 4 = (rp : Int) := k2007.trans q1901
                refine wp_of e176 c176_34 (xg_K (pc' := 37) lf_9_166 w2001 g0 sh_42 (by decide) (by decide) rfl q2008 rfl ?_)
                have k2009 : H1997 rp 0 = H1906 rp 0 := ((f2002 rp 0 _ grp rfl).trans (f1934 rp 0 _ grp rfl))
                refine wp_of e176 c176_37 (xg_I (pc' := 40) lf_9_185 w2001 grp sh_54 (by decide) (by decide) ty_54_0 rfl rfl (fun b2010 b2011 => ?_))
                refine wp_of e176 c176_40 (rw_if_eq (p1 := 53) (p2 := 43) (by decide) rfl ⟨by omega, by omega⟩ (fun c2012 => ?_) (fun c2012 => ?_))
                · refine wp_of e176 c176_53 (rw_aload_n (pc' := 54) (v := .ref r0) rfl rfl rfl ?_)
                  refine wp_of e176 c176_54 (rw_bipush (pc' := 56) (z := 6) rfl (by decide) ?_)
                  refine wp_of e176 c176_56 (xc_V (pc' := 59) (r := r0) (as := [vI 6]) (st := []) (lm_9_121) rfl rfl (Nat.le_of_ble_eq_true rfl) w2001 g0 sh_42 (by decide) rfl (by decide) (u_181_o (fo := 1) (po := (((xline B n q1884 d1885).2.2))) w2001 g0 ⟨by omega, by omega⟩ p2003) (fun R2013 T2014 H2015 p2016 => ?_))
                  obtain ⟨e2017, e2019, e2018, p2020⟩ := p2016
                  subst e2017
                  subst e2018
                  subst e2019
                  show wp _ _ 176 59 [(1, vI z1935), (0, .ref r0)] [] _ H1997 _
                  have u2022 := RO_k p2020
                  have o2023 : ((xpf B n f q d).1) = (1, ((xline B n q1884 d1885).2.2), q1884) := by
                    rw [← hx, xpf_u]
                    repeat first | rw [xs_0 (by omega)] | rw [xs_1 (by omega)] | rw [if_pos (by omega)] | rw [if_neg (by omega)]
                    first | done | rfl | assumption | (exfalso; omega) | (refine Prod.ext ?_ (Prod.ext ?_ ?_) <;> (try dsimp only) <;> omega)
                  have o2023a : (((xpf B n f q d).1)).1 = 1 := by rw [o2023]
                  have o2023b : (((xpf B n f q d).1)).2.1 = ((xline B n q1884 d1885).2.2) := by rw [o2023]
                  have o2023c : (((xpf B n f q d).1)).2.2 = q1884 := by rw [o2023]
                  exact wp_return e176 c176_59 rfl ⟨rfl, w2001, f2005, rfl, (Or.inr ⟨by omega, (fun a ha ga => ((f2002 a 3 _ ga rfl).trans ((f1934 a 3 _ ga rfl).trans ((a1915 a ha ga).trans (x1890 a ha ga))))), RO_eq p2020 (by omega) (by omega)⟩)⟩
                · refine wp_of e176 c176_43 (rw_aload_n (pc' := 44) (v := .ref r0) rfl rfl rfl ?_)
                  refine wp_of e176 c176_44 (xg_K (pc' := 47) lf_9_166 w2001 g0 sh_42 (by decide) (by decide) rfl q2008 rfl ?_)
                  have k2024 : H1997 rp 3 = H1906 rp 3 := ((f2002 rp 3 _ grp rfl).trans (f1934 rp 3 _ grp rfl))
                  refine wp_of e176 c176_47 (xg_I (pc' := 50) lf_9_188 w2001 grp sh_54 (by decide) (by decide) ty_54_3 rfl rfl (fun b2025 b2026 => ?_))
                  refine wp_of e176 c176_50 (rw_if_ne (p1 := 59) (p2 := 53) (by decide) rfl ⟨by omega, by omega⟩ (fun c2027 => ?_) (fun c2027 => ?_))
                  · have o2028 : ((xpf B n f q d).1) = (1, ((xline B n q1884 d1885).2.2), q1884) := by
                      rw [← hx, xpf_u]
                      repeat first | rw [xs_0 (by omega)] | rw [xs_1 (by omega)] | rw [if_pos (by omega)] | rw [if_neg (by omega)]
                      first | done | rfl | assumption | (exfalso; omega) | (refine Prod.ext ?_ (Prod.ext ?_ ?_) <;> (try dsimp only) <;> omega)
                    have o2028a : (((xpf B n f q d).1)).1 = 1 := by rw [o2028]
                    have o2028b : (((xpf B n f q d).1)).2.1 = ((xline B n q1884 d1885).2.2) := by rw [o2028]
                    have o2028c : (((xpf B n f q d).1)).2.2 = q1884 := by rw [o2028]
                    exact wp_return e176 c176_59 rfl ⟨rfl, w2001, f2005, rfl, (Or.inr ⟨by omega, (fun a ha ga => ((f2002 a 3 _ ga rfl).trans ((f1934 a 3 _ ga rfl).trans ((a1915 a ha ga).trans (x1890 a ha ga))))), RO_eq p2003 (by omega) (by omega)⟩)⟩
                  · refine wp_of e176 c176_53 (rw_aload_n (pc' := 54) (v := .ref r0) rfl rfl rfl ?_)
                    refine wp_of e176 c176_54 (rw_bipush (pc' := 56) (z := 6) rfl (by decide) ?_)
                    refine wp_of e176 c176_56 (xc_V (pc' := 59) (r := r0) (as := [vI 6]) (st := []) (lm_9_121) rfl rfl (Nat.le_of_ble_eq_true rfl) w2001 g0 sh_42 (by decide) rfl (by decide) (u_181_o (fo := 1) (po := (((xline B n q1884 d1885).2.2))) w2001 g0 ⟨by omega, by omega⟩ p2003) (fun R2029 T2030 H2031 p2032 => ?_))
                    obtain ⟨e2033, e2035, e2034, p2036⟩ := p2032
                    subst e2033
                    subst e2034
                    subst e2035
                    show wp _ _ 176 59 [(1, vI z1935), (0, .ref r0)] [] _ H1997 _
                    have u2038 := RO_k p2036
                    have o2039 : ((xpf B n f q d).1) = (1, ((xline B n q1884 d1885).2.2), q1884) := by
                      rw [← hx, xpf_u]
                      repeat first | rw [xs_0 (by omega)] | rw [xs_1 (by omega)] | rw [if_pos (by omega)] | rw [if_neg (by omega)]
                      first | done | rfl | assumption | (exfalso; omega) | (refine Prod.ext ?_ (Prod.ext ?_ ?_) <;> (try dsimp only) <;> omega)
                    have o2039a : (((xpf B n f q d).1)).1 = 1 := by rw [o2039]
                    have o2039b : (((xpf B n f q d).1)).2.1 = ((xline B n q1884 d1885).2.2) := by rw [o2039]
                    have o2039c : (((xpf B n f q d).1)).2.2 = q1884 := by rw [o2039]
                    exact wp_return e176 c176_59 rfl ⟨rfl, w2001, f2005, rfl, (Or.inr ⟨by omega, (fun a ha ga => ((f2002 a 3 _ ga rfl).trans ((f1934 a 3 _ ga rfl).trans ((a1915 a ha ga).trans (x1890 a ha ga))))), RO_eq p2036 (by omega) (by omega)⟩)⟩
            · exfalso
              omega
        · have f2040 := f1896.tr f1911 rfl
          have f2041 := f1888.tr f1911 rfl
          show wp _ _ 176 10 [(1, vI v1882), (0, .ref r0)] [] _ H1906 _
          have u2042 := RO_k a1920
          refine wp_of e176 c176_10 (rw_aload_n (pc' := 11) (v := .ref r0) rfl rfl rfl ?_)
          refine wp_of e176 c176_11 (rw_bipush (pc' := 13) (z := 59) rfl (by decide) ?_)
          have k2043 : H1906 r0 5 = H1883 r0 5 := (f1911 r0 5 _ g0 rfl)
          have q2044 : H1906 r0 5 = (rb : Int) := k2043.trans q1903
          refine wp_of e176 c176_13 (xc_V (pc' := 16) (r := r0) (as := [vI 59]) (st := []) (lm_9_182) rfl rfl (Nat.le_of_ble_eq_true rfl) w1910 g0 sh_42 (by decide) rfl (by decide) (u_204_o (fo := ((xline B n q1884 d1885).1)) (po := ((xline B n q1884 d1885).2.1)) w1910 g0 ⟨by omega, by omega⟩ q2044 grb a1920) (fun R2045 T2046 H2047 p2048 => ?_))
          obtain ⟨e2049, e2051, z2052, e2050, b2053, p2054⟩ := p2048
          subst e2049
          subst e2050
          subst e2051
          obtain ⟨a2055, a2056⟩ := p2054
          show wp _ _ 176 16 [(1, vI v1882), (0, .ref r0)] [vI z2052] _ H1906 _
          have u2057 := RO_k a2056
          refine wp_of e176 c176_16 (rw_istore_n (pc' := 17) (z := z2052) (L' := [(1, vI z2052), (0, .ref r0)]) rfl rfl rfl ?_)
          refine wp_of e176 c176_17 (rw_goto (p1 := 2) (by decide) ?_)
          refine wp_of e176 c176_2 (rw_iload_n (pc' := 3) (z := z2052) rfl rfl ?_)
          refine wp_of e176 c176_3 (rw_if_eq (p1 := 20) (p2 := 6) (by decide) rfl ⟨by omega, by omega⟩ (fun c2058 => ?_) (fun c2058 => ?_))
          · refine wp_of e176 c176_20 (rw_aload_n (pc' := 21) (v := .ref r0) rfl rfl rfl ?_)
            refine wp_of e176 c176_21 (xg_I (pc' := 24) lf_9_75 w1910 g0 sh_42 (by decide) (by decide) ty_42_9 rfl rfl (fun b2059 b2060 => ?_))
            refine wp_of e176 c176_24 (rw_iconst (pc' := 25) rfl ?_)
            refine wp_of e176 c176_25 (rw_icmp_eq (p1 := 33) (p2 := 28) (by decide) rfl ⟨by omega, by omega⟩ ⟨by omega, by omega⟩ (fun c2061 => ?_) (fun c2061 => ?_))
            · exfalso
              omega
            · refine wp_of e176 c176_28 (rw_aload_n (pc' := 29) (v := .ref r0) rfl rfl rfl ?_)
              refine wp_of e176 c176_29 (rw_iconst (pc' := 30) rfl ?_)
              refine wp_of e176 c176_30 (xc_V (pc' := 33) (r := r0) (as := [vI 1]) (st := []) (lm_9_121) rfl rfl (Nat.le_of_ble_eq_true rfl) w1910 g0 sh_42 (by decide) rfl (by decide) (u_181_o (fo := ((xline B n q1884 d1885).1)) (po := ((xline B n q1884 d1885).2.1)) w1910 g0 ⟨by omega, by omega⟩ a2056) (fun R2062 T2063 H2064 p2065 => ?_))
              obtain ⟨e2066, e2068, e2067, p2069⟩ := p2065
              subst e2066
              subst e2067
              subst e2068
              show wp _ _ 176 33 [(1, vI z2052), (0, .ref r0)] [] _ H1906 _
              have u2071 := RO_k p2069
              refine wp_of e176 c176_33 (rw_aload_n (pc' := 34) (v := .ref r0) rfl rfl rfl ?_)
              have k2072 : H1906 r0 4 = H1883 r0 4 := (f1911 r0 4 _ g0 rfl)
              have q2073 : H1906 r0 4 = (rp : Int) := k2072.trans q1901
              refine wp_of e176 c176_34 (xg_K (pc' := 37) lf_9_166 w1910 g0 sh_42 (by decide) (by decide) rfl q2073 rfl ?_)
              refine wp_of e176 c176_37 (xg_I (pc' := 40) lf_9_185 w1910 grp sh_54 (by decide) (by decide) ty_54_0 rfl rfl (fun b2074 b2075 => ?_))
              refine wp_of e176 c176_40 (rw_if_eq (p1 := 53) (p2 := 43) (by decide) rfl ⟨by omega, by omega⟩ (fun c2076 => ?_) (fun c2076 => ?_))
              · refine wp_of e176 c176_53 (rw_aload_n (pc' := 54) (v := .ref r0) rfl rfl rfl ?_)
                refine wp_of e176 c176_54 (rw_bipush (pc' := 56) (z := 6) rfl (by decide) ?_)
                refine wp_of e176 c176_56 (xc_V (pc' := 59) (r := r0) (as := [vI 6]) (st := []) (lm_9_121) rfl rfl (Nat.le_of_ble_eq_true rfl) w1910 g0 sh_42 (by decide) rfl (by decide) (u_181_o (fo := ((xline B n q1884 d1885).1)) (po := ((xline B n q1884 d1885).2.1)) w1910 g0 ⟨by omega, by omega⟩ p2069) (fun R2077 T2078 H2079 p2080 => ?_))
                obtain ⟨e2081, e2083, e2082, p2084⟩ := p2080
                subst e2081
                subst e2082
                subst e2083
                show wp _ _ 176 59 [(1, vI z2052), (0, .ref r0)] [] _ H1906 _
                have u2086 := RO_k p2084
                have o2087 : ((xpf B n f q d).1) = ((xline B n q1884 d1885).1, (xline B n q1884 d1885).2.1, (xline B n q1884 d1885).2.2) := by
                  rw [← hx, xpf_u]
                  repeat first | rw [xs_0 (by omega)] | rw [xs_1 (by omega)] | rw [if_pos (by omega)] | rw [if_neg (by omega)]
                  first | done | rfl | assumption | (exfalso; omega) | (refine Prod.ext ?_ (Prod.ext ?_ ?_) <;> (try dsimp only) <;> omega)
                have o2087a : (((xpf B n f q d).1)).1 = (xline B n q1884 d1885).1 := by rw [o2087]
                have o2087b : (((xpf B n f q d).1)).2.1 = (xline B n q1884 d1885).2.1 := by rw [o2087]
                have o2087c : (((xpf B n f q d).1)).2.2 = (xline B n q1884 d1885).2.2 := by rw [o2087]
                exact wp_return e176 c176_59 rfl ⟨rfl, w1910, f2040, rfl, (Or.inr ⟨by omega, (fun a ha ga => ((a1919 a ha ga).trans (x1890 a ha ga))), RO_eq p2084 (by omega) (by omega)⟩)⟩
              · refine wp_of e176 c176_43 (rw_aload_n (pc' := 44) (v := .ref r0) rfl rfl rfl ?_)
                refine wp_of e176 c176_44 (xg_K (pc' := 47) lf_9_166 w1910 g0 sh_42 (by decide) (by decide) rfl q2073 rfl ?_)
                refine wp_of e176 c176_47 (xg_I (pc' := 50) lf_9_188 w1910 grp sh_54 (by decide) (by decide) ty_54_3 rfl rfl (fun b2088 b2089 => ?_))
                refine wp_of e176 c176_50 (rw_if_ne (p1 := 59) (p2 := 53) (by decide) rfl ⟨by omega, by omega⟩ (fun c2090 => ?_) (fun c2090 => ?_))
                · have o2091 : ((xpf B n f q d).1) = ((xline B n q1884 d1885).1, (xline B n q1884 d1885).2.1, (xline B n q1884 d1885).2.2) := by
                    rw [← hx, xpf_u]
                    repeat first | rw [xs_0 (by omega)] | rw [xs_1 (by omega)] | rw [if_pos (by omega)] | rw [if_neg (by omega)]
                    first | done | rfl | assumption | (exfalso; omega) | (refine Prod.ext ?_ (Prod.ext ?_ ?_) <;> (try dsimp only) <;> omega)
                  have o2091a : (((xpf B n f q d).1)).1 = (xline B n q1884 d1885).1 := by rw [o2091]
                  have o2091b : (((xpf B n f q d).1)).2.1 = (xline B n q1884 d1885).2.1 := by rw [o2091]
                  have o2091c : (((xpf B n f q d).1)).2.2 = (xline B n q1884 d1885).2.2 := by rw [o2091]
                  exact wp_return e176 c176_59 rfl ⟨rfl, w1910, f2040, rfl, (Or.inr ⟨by omega, (fun a ha ga => ((a1919 a ha ga).trans (x1890 a ha ga))), RO_eq p2069 (by omega) (by omega)⟩)⟩
                · refine wp_of e176 c176_53 (rw_aload_n (pc' := 54) (v := .ref r0) rfl rfl rfl ?_)
                  refine wp_of e176 c176_54 (rw_bipush (pc' := 56) (z := 6) rfl (by decide) ?_)
                  refine wp_of e176 c176_56 (xc_V (pc' := 59) (r := r0) (as := [vI 6]) (st := []) (lm_9_121) rfl rfl (Nat.le_of_ble_eq_true rfl) w1910 g0 sh_42 (by decide) rfl (by decide) (u_181_o (fo := ((xline B n q1884 d1885).1)) (po := ((xline B n q1884 d1885).2.1)) w1910 g0 ⟨by omega, by omega⟩ p2069) (fun R2092 T2093 H2094 p2095 => ?_))
                  obtain ⟨e2096, e2098, e2097, p2099⟩ := p2095
                  subst e2096
                  subst e2097
                  subst e2098
                  show wp _ _ 176 59 [(1, vI z2052), (0, .ref r0)] [] _ H1906 _
                  have u2101 := RO_k p2099
                  have o2102 : ((xpf B n f q d).1) = ((xline B n q1884 d1885).1, (xline B n q1884 d1885).2.1, (xline B n q1884 d1885).2.2) := by
                    rw [← hx, xpf_u]
                    repeat first | rw [xs_0 (by omega)] | rw [xs_1 (by omega)] | rw [if_pos (by omega)] | rw [if_neg (by omega)]
                    first | done | rfl | assumption | (exfalso; omega) | (refine Prod.ext ?_ (Prod.ext ?_ ?_) <;> (try dsimp only) <;> omega)
                  have o2102a : (((xpf B n f q d).1)).1 = (xline B n q1884 d1885).1 := by rw [o2102]
                  have o2102b : (((xpf B n f q d).1)).2.1 = (xline B n q1884 d1885).2.1 := by rw [o2102]
                  have o2102c : (((xpf B n f q d).1)).2.2 = (xline B n q1884 d1885).2.2 := by rw [o2102]
                  exact wp_return e176 c176_59 rfl ⟨rfl, w1910, f2040, rfl, (Or.inr ⟨by omega, (fun a ha ga => ((a1919 a ha ga).trans (x1890 a ha ga))), RO_eq p2099 (by omega) (by omega)⟩)⟩
          · exfalso
            omega
  exact wp_lc (ks := [1, 0]) (wl_c rfl (wl_c rfl wl_n)) rfl (by decide) (lp1879 _ 1 H q d f hW wfr.rf ⟨by omega, by omega⟩ (fun _ _ _ => rfl) hRC_r0 hDM_rp (by omega) (rfl) rfl)
/-! StrikeAwakeModel.feed(IIIII)I  -/
abbrev uq_168 (r0 : Nat) (a1 : Int) (a2 : Int) (a3 : Int) (a4 : Int) (a5 : Int) (rb : Nat) (B : Nat → Int) (t : Int) (b1 : Int) (b2 : Int) (b3 : Int) (b4 : Int) (b5 : Int) (T : wq_T) (H : wq_H) : Option Value → wq_T → wq_H → Prop := fun r T' H' => T = T' ∧ WT T H' ∧ wfr [(42, 0), (42, 6), (43, 999)] T H H' ∧ ∃ z : Int, some (vI z) = r ∧ ((-2147483648) ≤ z ∧ z ≤ 2147483647) ∧ (((z = -1) ∧ (880 < t) ∧ (H' r0 6 = t) ∧ TM T H' rb B) ∨ ((0 ≤ z ∧ z ≤ 900) ∧ (t ≤ 880) ∧ (z = t + 20) ∧ (H' r0 6 = t + 20) ∧ TM T H' rb (xfk B t b1 b2 b3 b4 b5 20)))
set_option maxHeartbeats 4000000 in
theorem u_168 {kt : Nat → Option mc_E} {T : wq_T} {H : wq_H} {r0 : Nat} {a1 : Int} {a2 : Int} {a3 : Int} {a4 : Int} {a5 : Int} {rb : Nat} {B : Nat → Int} {t : Int} {b1 : Int} {b2 : Int} {b3 : Int} {b4 : Int} {b5 : Int} (hW : WT T H) (g0 : T.2.2.2 r0 = some 42) (i1 : (-2147483648) ≤ a1 ∧ a1 ≤ 2147483647) (i2 : (-2147483648) ≤ a2 ∧ a2 ≤ 2147483647) (i3 : (-2147483648) ≤ a3 ∧ a3 ≤ 2147483647) (i4 : (-2147483648) ≤ a4 ∧ a4 ≤ 2147483647) (i5 : (-2147483648) ≤ a5 ∧ a5 ≤ 2147483647) (qrb : H r0 5 = (rb : Int)) (grb : T.2.2.2 rb = some 43) (p0 : H r0 6 = t) (p1 : a1 = b1) (p2 : a2 = b2) (p3 : a3 = b3) (p4 : a4 = b4) (p5 : a5 = b5) (hTM_rb : TM T H rb B) : wpc kt 1 168 [.ref r0, vI a1, vI a2, vI a3, vI a4, vI a5] T H (uq_168 r0 a1 a2 a3 a4 a5 rb B t b1 b2 b3 b4 b5 T H) := by
  refine wp_enter e168 (Nat.le_of_ble_eq_true rfl) rfl ?_
  have f0 : wfr [(42, 0), (42, 6), (43, 999)] T H H := wfr.rf
  show wp _ _ 168 0 [(0, .ref r0), (1, vI a1), (2, vI a2), (3, vI a3), (4, vI a4), (5, vI a5)] [] _ H _
  have b1481 : 0 ≤ H r0 6 ∧ H r0 6 ≤ 900 := hW.box g0 (n := 33) rfl (by decide) rfl
  refine wp_of e168 c168_0 (rw_aload_n (pc' := 1) (v := .ref r0) rfl rfl rfl ?_)
  refine wp_of e168 c168_1 (rw_iconst (pc' := 2) rfl ?_)
  refine wp_of e168 c168_2 (xp_I (pc' := 5) lf_9_48 hW g0 sh_42 (by decide) (by decide) ty_42_0 rfl rfl (by omega) (by omega) ⟨by omega, by omega⟩ rfl (fun H1482 e1483 w1484 => ?_))
  have f1485 := f0.put' e1483 g0 rfl
  have k1486 : H1482 r0 0 = 0 := wq_u_s e1483
  refine wp_of e168 c168_5 (rw_aload_n (pc' := 6) (v := .ref r0) rfl rfl rfl ?_)
  have k1487 : H1482 r0 6 = H r0 6 := (wq_u_j e1483 rfl)
  refine wp_of e168 c168_6 (xg_I (pc' := 9) lf_9_330 w1484 g0 sh_42 (by decide) (by decide) ty_42_6 rfl rfl (fun b1488 b1489 => ?_))
  refine wp_of e168 c168_9 (rw_bipush (pc' := 11) (z := 20) rfl (by decide) ?_)
  refine wp_of e168 c168_11 (rw_iadd (pc' := 12) rfl ?_)
  refine wp_of e168 c168_12 (rw_sipush (pc' := 15) (z := 900) rfl (by decide) ?_)
  refine wp_of e168 c168_15 (rw_icmp_le (p1 := 20) (p2 := 18) (by decide) rfl ⟨by omega, by omega⟩ ⟨by omega, by omega⟩ (fun c1490 => ?_) (fun c1490 => ?_))
  · refine wp_of e168 c168_20 (rw_iconst (pc' := 21) rfl ?_)
    refine wp_of e168 c168_21 (rw_istore (pc' := 23) (z := 0) (L' := [(6, vI 0), (0, .ref r0), (1, vI a1), (2, vI a2), (3, vI a3), (4, vI a4), (5, vI a5)]) rfl rfl rfl ?_)
    have lp1844 : ∀ (n1845 : Nat) (v1847 : Int) (H1848 : wq_H) (ii1849 : Nat), WT T H1848 → wfr [(42, 6), (43, 999)] T H1482 H1848 → (0 ≤ v1847 ∧ v1847 ≤ 20) → TM T H1848 rb (xfk B t a1 a2 a3 a4 a5 ii1849) → (v1847 = (ii1849 : Int)) → (ii1849 ≤ 20) → (H1848 r0 6 = t + (ii1849 : Int)) → (20 - v1847).toNat = n1845 → wp kt 0 168 23 [(6, vI v1847), (0, .ref r0), (1, vI a1), (2, vI a2), (3, vI a3), (4, vI a4), (5, vI a5)] [] T H1848 (uq_168 r0 a1 a2 a3 a4 a5 rb B t b1 b2 b3 b4 b5 T H) := by
      intro n1845
      induction n1845 using Nat.strongRecOn with
      | _ n1845 ih1846 =>
        intro v1847 H1848 ii1849 w1850 f1851 b1852 h1854 x1855 x1856 x1857 m1853
        have f1858 := f1485.tr f1851 rfl
        refine wp_of e168 c168_23 (rw_iload (pc' := 25) (z := v1847) rfl rfl ?_)
        refine wp_of e168 c168_25 (rw_bipush (pc' := 27) (z := 20) rfl (by decide) ?_)
        refine wp_of e168 c168_27 (rw_icmp_ge (p1 := 117) (p2 := 30) (by decide) rfl ⟨by omega, by omega⟩ ⟨by omega, by omega⟩ (fun c1859 => ?_) (fun c1859 => ?_))
        · refine wp_of e168 c168_117 (rw_aload_n (pc' := 118) (v := .ref r0) rfl rfl rfl ?_)
          refine wp_of e168 c168_118 (xg_I (pc' := 121) lf_9_330 w1850 g0 sh_42 (by decide) (by decide) ty_42_6 rfl rfl (fun b1860 b1861 => ?_))
          exact wp_ireturn e168 c168_121 rfl ⟨rfl, w1850, f1858, H1848 r0 6, rfl, ⟨by omega, by omega⟩, (Or.inr ⟨by omega, by omega, by omega, by omega, by
            rw [← p1, ← p2, ← p3, ← p4, ← p5]
            have e4 : ii1849 = 20 := by omega
            rw [← e4]
            exact h1854⟩)⟩
        · refine wp_of e168 c168_30 (rw_iload (pc' := 32) (z := v1847) rfl rfl ?_)
          refine wp_of e168 c168_32 (rw_iconst (pc' := 33) rfl ?_)
          refine wp_of e168 c168_33 (rw_icmp_ge (p1 := 40) (p2 := 36) (by decide) rfl ⟨by omega, by omega⟩ ⟨by omega, by omega⟩ (fun c1862 => ?_) (fun c1862 => ?_))
          · refine wp_of e168 c168_40 (rw_iload (pc' := 42) (z := v1847) rfl rfl ?_)
            refine wp_of e168 c168_42 (rw_bipush (pc' := 44) (z := 8) rfl (by decide) ?_)
            refine wp_of e168 c168_44 (rw_icmp_ge (p1 := 51) (p2 := 47) (by decide) rfl ⟨by omega, by omega⟩ ⟨by omega, by omega⟩ (fun c1863 => ?_) (fun c1863 => ?_))
            · refine wp_of e168 c168_51 (rw_iload (pc' := 53) (z := v1847) rfl rfl ?_)
              refine wp_of e168 c168_53 (rw_bipush (pc' := 55) (z := 12) rfl (by decide) ?_)
              refine wp_of e168 c168_55 (rw_icmp_ge (p1 := 62) (p2 := 58) (by decide) rfl ⟨by omega, by omega⟩ ⟨by omega, by omega⟩ (fun c1864 => ?_) (fun c1864 => ?_))
              · refine wp_of e168 c168_62 (rw_iload (pc' := 64) (z := v1847) rfl rfl ?_)
                refine wp_of e168 c168_64 (rw_bipush (pc' := 66) (z := 16) rfl (by decide) ?_)
                refine wp_of e168 c168_66 (rw_icmp_ge (p1 := 74) (p2 := 69) (by decide) rfl ⟨by omega, by omega⟩ ⟨by omega, by omega⟩ (fun c1865 => ?_) (fun c1865 => ?_))
                · refine wp_of e168 c168_74 (rw_iload (pc' := 76) (z := a5) rfl rfl ?_)
                  refine wp_of e168 c168_76 (rw_istore (pc' := 78) (z := a5) (L' := [(7, vI a5), (6, vI v1847), (0, .ref r0), (1, vI a1), (2, vI a2), (3, vI a3), (4, vI a4), (5, vI a5)]) rfl rfl rfl ?_)
                  have _w := @xw5_e ii1849 a1 a2 a3 a4 a5
                  refine wp_of e168 c168_78 (rw_aload_n (pc' := 79) (v := .ref r0) rfl rfl rfl ?_)
                  have k1866 : H1848 r0 5 = H r0 5 := ((f1851 r0 5 _ g0 rfl).trans (wq_u_j e1483 rfl))
                  have q1867 : H1848 r0 5 = (rb : Int) := k1866.trans qrb
                  refine wp_of e168 c168_79 (xg_K (pc' := 82) lf_9_13 w1850 g0 sh_42 (by decide) (by decide) rfl q1867 rfl ?_)
                  refine wp_of e168 c168_82 (rw_aload_n (pc' := 83) (v := .ref r0) rfl rfl rfl ?_)
                  refine wp_of e168 c168_83 (xg_I (pc' := 86) lf_9_330 w1850 g0 sh_42 (by decide) (by decide) ty_42_6 rfl rfl (fun b1868 b1869 => ?_))
                  refine wp_of e168 c168_86 (rw_iload (pc' := 88) (z := a5) rfl rfl ?_)
                  refine wp_of e168 c168_88 (rw_bipush (pc' := 90) (z := 24) rfl (by decide) ?_)
                  refine wp_of e168 c168_90 (rw_bipush (pc' := 92) (z := 8) rfl (by decide) ?_)
                  refine wp_of e168 c168_92 (rw_iload (pc' := 94) (z := v1847) rfl rfl ?_)
                  refine wp_of e168 c168_94 (rw_iconst (pc' := 95) rfl ?_)
                  refine wp_of e168 c168_95 (rw_irem (pc' := 96) rfl ⟨by omega, by omega⟩ (by omega) ?_)
                  obtain ⟨v1870, e1871⟩ : ∃ x : Int, x = wq_rem v1847 4 := ⟨_, rfl⟩
                  rw [← e1871]
                  have b1872 : v1870 = v1847 % 4 := by
                    rw [e1871]
                    exact wq_rem_e ⟨by omega, by omega⟩ ⟨by omega, by omega⟩
                  refine wp_of e168 c168_96 (rw_imul (pc' := 97) rfl ?_)
                  refine wp_of e168 c168_97 (rw_isub (pc' := 98) rfl ?_)
                  refine wp_of e168 c168_98 (rw_ishr (pc' := 99) rfl ?_)
                  obtain ⟨v1873, e1874⟩ : ∃ x : Int, x = wq_shr a5 (24 - (8 * v1870)) := ⟨_, rfl⟩
                  rw [← e1874]
                  have b1875 : -2147483648 ≤ v1873 ∧ v1873 ≤ 2147483647 := by
                    rw [e1874]
                    exact wI_shr _ _
                  refine wp_of e168 c168_99 (rw_i2b (pc' := 100) rfl ?_)
                  obtain ⟨v1876, e1877⟩ : ∃ x : Int, x = wq_i2b v1873 := ⟨_, rfl⟩
                  rw [← e1877]
                  have b1878 : -128 ≤ v1876 ∧ v1876 ≤ 127 := by
                    rw [e1877]
                    exact wq_i2b_b _
                  have o1879 : v1876 = wq_i2b (wq_shr a5 (24 - (8 * v1870))) := by
                    subst_vars
                    rfl
                  refine wp_of e168 c168_100 (xs_B (pc' := 101) w1850 grb (by decide) sh_43 (by decide) (ty_43 _) (by omega) (by omega) ⟨by omega, by omega⟩ (by omega) (by omega) rfl (fun H1880 e1881 w1882 => ?_))
                  have f1883 := f1858.put' e1881 grb rfl
                  have f1884 := f1851.put' e1881 grb rfl
                  have h1885 : TM T H1880 rb (xfk B t a1 a2 a3 a4 a5 (ii1849 + 1)) := TM_fk h1854 e1881 (by omega) o1879 (by omega) (by omega)
                  refine wp_of e168 c168_101 (rw_aload_n (pc' := 102) (v := .ref r0) rfl rfl rfl ?_)
                  refine wp_of e168 c168_102 (rw_dup (pc' := 103) rfl rfl ?_)
                  have k1886 : H1880 r0 6 = H1848 r0 6 := (wq_u_t e1881 grb g0 rfl 6)
                  refine wp_of e168 c168_103 (xg_I (pc' := 106) lf_9_330 w1882 g0 sh_42 (by decide) (by decide) ty_42_6 rfl rfl (fun b1887 b1888 => ?_))
                  refine wp_of e168 c168_106 (rw_iconst (pc' := 107) rfl ?_)
                  refine wp_of e168 c168_107 (rw_iadd (pc' := 108) rfl ?_)
                  refine wp_of e168 c168_108 (xp_I (pc' := 111) lf_9_330 w1882 g0 sh_42 (by decide) (by decide) ty_42_6 rfl rfl (by omega) (by omega) ⟨by omega, by omega⟩ rfl (fun H1889 e1890 w1891 => ?_))
                  have f1892 := f1883.put' e1890 g0 rfl
                  have f1893 := f1884.put' e1890 g0 rfl
                  have k1894 : H1889 r0 6 = (H1880 r0 6) + 1 := wq_u_s e1890
                  refine wp_of e168 c168_111 (rw_iinc (pc' := 114) (z := v1847) (L' := [(6, vI (v1847 + 1)), (7, vI a5), (0, .ref r0), (1, vI a1), (2, vI a2), (3, vI a3), (4, vI a4), (5, vI a5)]) rfl rfl rfl rfl ?_)
                  refine wp_of e168 c168_114 (rw_goto (p1 := 23) (by decide) ?_)
                  have h1895 : TM T H1889 rb (xfk B t a1 a2 a3 a4 a5 (ii1849 + 1)) := (TM_fr w1882 grb ((wfr.rf (l := [(42, 6)])).put' e1890 g0 rfl) rfl h1885)
                  exact wp_lc (ks := [6, 7, 0, 1, 2, 3, 4, 5]) (wl_c rfl (wl_c rfl (wl_c rfl (wl_c rfl (wl_c rfl (wl_c rfl (wl_c rfl wl_n))))))) rfl (by decide) (ih1846 _ (by omega) (v1847 + 1) H1889 ((ii1849 + 1)) w1891 f1893 ⟨by omega, by omega⟩ h1895 (by omega) (by omega) (by omega) rfl)
                · refine wp_of e168 c168_69 (rw_iload (pc' := 71) (z := a4) rfl rfl ?_)
                  refine wp_of e168 c168_71 (rw_goto (p1 := 76) (by decide) ?_)
                  refine wp_of e168 c168_76 (rw_istore (pc' := 78) (z := a4) (L' := [(7, vI a4), (6, vI v1847), (0, .ref r0), (1, vI a1), (2, vI a2), (3, vI a3), (4, vI a4), (5, vI a5)]) rfl rfl rfl ?_)
                  have _w := @xw5_e ii1849 a1 a2 a3 a4 a5
                  refine wp_of e168 c168_78 (rw_aload_n (pc' := 79) (v := .ref r0) rfl rfl rfl ?_)
                  have k1896 : H1848 r0 5 = H r0 5 := ((f1851 r0 5 _ g0 rfl).trans (wq_u_j e1483 rfl))
                  have q1897 : H1848 r0 5 = (rb : Int) := k1896.trans qrb
                  refine wp_of e168 c168_79 (xg_K (pc' := 82) lf_9_13 w1850 g0 sh_42 (by decide) (by decide) rfl q1897 rfl ?_)
                  refine wp_of e168 c168_82 (rw_aload_n (pc' := 83) (v := .ref r0) rfl rfl rfl ?_)
                  refine wp_of e168 c168_83 (xg_I (pc' := 86) lf_9_330 w1850 g0 sh_42 (by decide) (by decide) ty_42_6 rfl rfl (fun b1898 b1899 => ?_))
                  refine wp_of e168 c168_86 (rw_iload (pc' := 88) (z := a4) rfl rfl ?_)
                  refine wp_of e168 c168_88 (rw_bipush (pc' := 90) (z := 24) rfl (by decide) ?_)
                  refine wp_of e168 c168_90 (rw_bipush (pc' := 92) (z := 8) rfl (by decide) ?_)
                  refine wp_of e168 c168_92 (rw_iload (pc' := 94) (z := v1847) rfl rfl ?_)
                  refine wp_of e168 c168_94 (rw_iconst (pc' := 95) rfl ?_)
                  refine wp_of e168 c168_95 (rw_irem (pc' := 96) rfl ⟨by omega, by omega⟩ (by omega) ?_)
                  obtain ⟨v1900, e1901⟩ : ∃ x : Int, x = wq_rem v1847 4 := ⟨_, rfl⟩
                  rw [← e1901]
                  have b1902 : v1900 = v1847 % 4 := by
                    rw [e1901]
                    exact wq_rem_e ⟨by omega, by omega⟩ ⟨by omega, by omega⟩
                  refine wp_of e168 c168_96 (rw_imul (pc' := 97) rfl ?_)
                  refine wp_of e168 c168_97 (rw_isub (pc' := 98) rfl ?_)
                  refine wp_of e168 c168_98 (rw_ishr (pc' := 99) rfl ?_)
                  obtain ⟨v1903, e1904⟩ : ∃ x : Int, x = wq_shr a4 (24 - (8 * v1900)) := ⟨_, rfl⟩
                  rw [← e1904]
                  have b1905 : -2147483648 ≤ v1903 ∧ v1903 ≤ 2147483647 := by
                    rw [e1904]
                    exact wI_shr _ _
                  refine wp_of e168 c168_99 (rw_i2b (pc' := 100) rfl ?_)
                  obtain ⟨v1906, e1907⟩ : ∃ x : Int, x = wq_i2b v1903 := ⟨_, rfl⟩
                  rw [← e1907]
                  have b1908 : -128 ≤ v1906 ∧ v1906 ≤ 127 := by
                    rw [e1907]
                    exact wq_i2b_b _
                  have o1909 : v1906 = wq_i2b (wq_shr a4 (24 - (8 * v1900))) := by
                    subst_vars
                    rfl
                  refine wp_of e168 c168_100 (xs_B (pc' := 101) w1850 grb (by decide) sh_43 (by decide) (ty_43 _) (by omega) (by omega) ⟨by omega, by omega⟩ (by omega) (by omega) rfl (fun H1910 e1911 w1912 => ?_))
                  have f1913 := f1858.put' e1911 grb rfl
                  have f1914 := f1851.put' e1911 grb rfl
                  have h1915 : TM T H1910 rb (xfk B t a1 a2 a3 a4 a5 (ii1849 + 1)) := TM_fk h1854 e1911 (by omega) o1909 (by omega) (by omega)
                  refine wp_of e168 c168_101 (rw_aload_n (pc' := 102) (v := .ref r0) rfl rfl rfl ?_)
                  refine wp_of e168 c168_102 (rw_dup (pc' := 103) rfl rfl ?_)
                  have k1916 : H1910 r0 6 = H1848 r0 6 := (wq_u_t e1911 grb g0 rfl 6)
                  refine wp_of e168 c168_103 (xg_I (pc' := 106) lf_9_330 w1912 g0 sh_42 (by decide) (by decide) ty_42_6 rfl rfl (fun b1917 b1918 => ?_))
                  refine wp_of e168 c168_106 (rw_iconst (pc' := 107) rfl ?_)
                  refine wp_of e168 c168_107 (rw_iadd (pc' := 108) rfl ?_)
                  refine wp_of e168 c168_108 (xp_I (pc' := 111) lf_9_330 w1912 g0 sh_42 (by decide) (by decide) ty_42_6 rfl rfl (by omega) (by omega) ⟨by omega, by omega⟩ rfl (fun H1919 e1920 w1921 => ?_))
                  have f1922 := f1913.put' e1920 g0 rfl
                  have f1923 := f1914.put' e1920 g0 rfl
                  have k1924 : H1919 r0 6 = (H1910 r0 6) + 1 := wq_u_s e1920
                  refine wp_of e168 c168_111 (rw_iinc (pc' := 114) (z := v1847) (L' := [(6, vI (v1847 + 1)), (7, vI a4), (0, .ref r0), (1, vI a1), (2, vI a2), (3, vI a3), (4, vI a4), (5, vI a5)]) rfl rfl rfl rfl ?_)
                  refine wp_of e168 c168_114 (rw_goto (p1 := 23) (by decide) ?_)
                  have h1925 : TM T H1919 rb (xfk B t a1 a2 a3 a4 a5 (ii1849 + 1)) := (TM_fr w1912 grb ((wfr.rf (l := [(42, 6)])).put' e1920 g0 rfl) rfl h1915)
                  exact wp_lc (ks := [6, 7, 0, 1, 2, 3, 4, 5]) (wl_c rfl (wl_c rfl (wl_c rfl (wl_c rfl (wl_c rfl (wl_c rfl (wl_c rfl wl_n))))))) rfl (by decide) (ih1846 _ (by omega) (v1847 + 1) H1919 ((ii1849 + 1)) w1921 f1923 ⟨by omega, by omega⟩ h1925 (by omega) (by omega) (by omega) rfl)
              · refine wp_of e168 c168_58 (rw_iload_n (pc' := 59) (z := a3) rfl rfl ?_)
                refine wp_of e168 c168_59 (rw_goto (p1 := 76) (by decide) ?_)
                refine wp_of e168 c168_76 (rw_istore (pc' := 78) (z := a3) (L' := [(7, vI a3), (6, vI v1847), (0, .ref r0), (1, vI a1), (2, vI a2), (3, vI a3), (4, vI a4), (5, vI a5)]) rfl rfl rfl ?_)
                have _w := @xw5_e ii1849 a1 a2 a3 a4 a5
                refine wp_of e168 c168_78 (rw_aload_n (pc' := 79) (v := .ref r0) rfl rfl rfl ?_)
                have k1926 : H1848 r0 5 = H r0 5 := ((f1851 r0 5 _ g0 rfl).trans (wq_u_j e1483 rfl))
                have q1927 : H1848 r0 5 = (rb : Int) := k1926.trans qrb
                refine wp_of e168 c168_79 (xg_K (pc' := 82) lf_9_13 w1850 g0 sh_42 (by decide) (by decide) rfl q1927 rfl ?_)
                refine wp_of e168 c168_82 (rw_aload_n (pc' := 83) (v := .ref r0) rfl rfl rfl ?_)
                refine wp_of e168 c168_83 (xg_I (pc' := 86) lf_9_330 w1850 g0 sh_42 (by decide) (by decide) ty_42_6 rfl rfl (fun b1928 b1929 => ?_))
                refine wp_of e168 c168_86 (rw_iload (pc' := 88) (z := a3) rfl rfl ?_)
                refine wp_of e168 c168_88 (rw_bipush (pc' := 90) (z := 24) rfl (by decide) ?_)
                refine wp_of e168 c168_90 (rw_bipush (pc' := 92) (z := 8) rfl (by decide) ?_)
                refine wp_of e168 c168_92 (rw_iload (pc' := 94) (z := v1847) rfl rfl ?_)
                refine wp_of e168 c168_94 (rw_iconst (pc' := 95) rfl ?_)
                refine wp_of e168 c168_95 (rw_irem (pc' := 96) rfl ⟨by omega, by omega⟩ (by omega) ?_)
                obtain ⟨v1930, e1931⟩ : ∃ x : Int, x = wq_rem v1847 4 := ⟨_, rfl⟩
                rw [← e1931]
                have b1932 : v1930 = v1847 % 4 := by
                  rw [e1931]
                  exact wq_rem_e ⟨by omega, by omega⟩ ⟨by omega, by omega⟩
                refine wp_of e168 c168_96 (rw_imul (pc' := 97) rfl ?_)
                refine wp_of e168 c168_97 (rw_isub (pc' := 98) rfl ?_)
                refine wp_of e168 c168_98 (rw_ishr (pc' := 99) rfl ?_)
                obtain ⟨v1933, e1934⟩ : ∃ x : Int, x = wq_shr a3 (24 - (8 * v1930)) := ⟨_, rfl⟩
                rw [← e1934]
                have b1935 : -2147483648 ≤ v1933 ∧ v1933 ≤ 2147483647 := by
                  rw [e1934]
                  exact wI_shr _ _
                refine wp_of e168 c168_99 (rw_i2b (pc' := 100) rfl ?_)
                obtain ⟨v1936, e1937⟩ : ∃ x : Int, x = wq_i2b v1933 := ⟨_, rfl⟩
                rw [← e1937]
                have b1938 : -128 ≤ v1936 ∧ v1936 ≤ 127 := by
                  rw [e1937]
                  exact wq_i2b_b _
                have o1939 : v1936 = wq_i2b (wq_shr a3 (24 - (8 * v1930))) := by
                  subst_vars
                  rfl
                refine wp_of e168 c168_100 (xs_B (pc' := 101) w1850 grb (by decide) sh_43 (by decide) (ty_43 _) (by omega) (by omega) ⟨by omega, by omega⟩ (by omega) (by omega) rfl (fun H1940 e1941 w1942 => ?_))
                have f1943 := f1858.put' e1941 grb rfl
                have f1944 := f1851.put' e1941 grb rfl
                have h1945 : TM T H1940 rb (xfk B t a1 a2 a3 a4 a5 (ii1849 + 1)) := TM_fk h1854 e1941 (by omega) o1939 (by omega) (by omega)
                refine wp_of e168 c168_101 (rw_aload_n (pc' := 102) (v := .ref r0) rfl rfl rfl ?_)
                refine wp_of e168 c168_102 (rw_dup (pc' := 103) rfl rfl ?_)
                have k1946 : H1940 r0 6 = H1848 r0 6 := (wq_u_t e1941 grb g0 rfl 6)
                refine wp_of e168 c168_103 (xg_I (pc' := 106) lf_9_330 w1942 g0 sh_42 (by decide) (by decide) ty_42_6 rfl rfl (fun b1947 b1948 => ?_))
                refine wp_of e168 c168_106 (rw_iconst (pc' := 107) rfl ?_)
                refine wp_of e168 c168_107 (rw_iadd (pc' := 108) rfl ?_)
                refine wp_of e168 c168_108 (xp_I (pc' := 111) lf_9_330 w1942 g0 sh_42 (by decide) (by decide) ty_42_6 rfl rfl (by omega) (by omega) ⟨by omega, by omega⟩ rfl (fun H1949 e1950 w1951 => ?_))
                have f1952 := f1943.put' e1950 g0 rfl
                have f1953 := f1944.put' e1950 g0 rfl
                have k1954 : H1949 r0 6 = (H1940 r0 6) + 1 := wq_u_s e1950
                refine wp_of e168 c168_111 (rw_iinc (pc' := 114) (z := v1847) (L' := [(6, vI (v1847 + 1)), (7, vI a3), (0, .ref r0), (1, vI a1), (2, vI a2), (3, vI a3), (4, vI a4), (5, vI a5)]) rfl rfl rfl rfl ?_)
                refine wp_of e168 c168_114 (rw_goto (p1 := 23) (by decide) ?_)
                have h1955 : TM T H1949 rb (xfk B t a1 a2 a3 a4 a5 (ii1849 + 1)) := (TM_fr w1942 grb ((wfr.rf (l := [(42, 6)])).put' e1950 g0 rfl) rfl h1945)
                exact wp_lc (ks := [6, 7, 0, 1, 2, 3, 4, 5]) (wl_c rfl (wl_c rfl (wl_c rfl (wl_c rfl (wl_c rfl (wl_c rfl (wl_c rfl wl_n))))))) rfl (by decide) (ih1846 _ (by omega) (v1847 + 1) H1949 ((ii1849 + 1)) w1951 f1953 ⟨by omega, by omega⟩ h1955 (by omega) (by omega) (by omega) rfl)
            · refine wp_of e168 c168_47 (rw_iload_n (pc' := 48) (z := a2) rfl rfl ?_)
              refine wp_of e168 c168_48 (rw_goto (p1 := 76) (by decide) ?_)
              refine wp_of e168 c168_76 (rw_istore (pc' := 78) (z := a2) (L' := [(7, vI a2), (6, vI v1847), (0, .ref r0), (1, vI a1), (2, vI a2), (3, vI a3), (4, vI a4), (5, vI a5)]) rfl rfl rfl ?_)
              have _w := @xw5_e ii1849 a1 a2 a3 a4 a5
              refine wp_of e168 c168_78 (rw_aload_n (pc' := 79) (v := .ref r0) rfl rfl rfl ?_)
              have k1956 : H1848 r0 5 = H r0 5 := ((f1851 r0 5 _ g0 rfl).trans (wq_u_j e1483 rfl))
              have q1957 : H1848 r0 5 = (rb : Int) := k1956.trans qrb
              refine wp_of e168 c168_79 (xg_K (pc' := 82) lf_9_13 w1850 g0 sh_42 (by decide) (by decide) rfl q1957 rfl ?_)
              refine wp_of e168 c168_82 (rw_aload_n (pc' := 83) (v := .ref r0) rfl rfl rfl ?_)
              refine wp_of e168 c168_83 (xg_I (pc' := 86) lf_9_330 w1850 g0 sh_42 (by decide) (by decide) ty_42_6 rfl rfl (fun b1958 b1959 => ?_))
              refine wp_of e168 c168_86 (rw_iload (pc' := 88) (z := a2) rfl rfl ?_)
              refine wp_of e168 c168_88 (rw_bipush (pc' := 90) (z := 24) rfl (by decide) ?_)
              refine wp_of e168 c168_90 (rw_bipush (pc' := 92) (z := 8) rfl (by decide) ?_)
              refine wp_of e168 c168_92 (rw_iload (pc' := 94) (z := v1847) rfl rfl ?_)
              refine wp_of e168 c168_94 (rw_iconst (pc' := 95) rfl ?_)
              refine wp_of e168 c168_95 (rw_irem (pc' := 96) rfl ⟨by omega, by omega⟩ (by omega) ?_)
              obtain ⟨v1960, e1961⟩ : ∃ x : Int, x = wq_rem v1847 4 := ⟨_, rfl⟩
              rw [← e1961]
              have b1962 : v1960 = v1847 % 4 := by
                rw [e1961]
                exact wq_rem_e ⟨by omega, by omega⟩ ⟨by omega, by omega⟩
              refine wp_of e168 c168_96 (rw_imul (pc' := 97) rfl ?_)
              refine wp_of e168 c168_97 (rw_isub (pc' := 98) rfl ?_)
              refine wp_of e168 c168_98 (rw_ishr (pc' := 99) rfl ?_)
              obtain ⟨v1963, e1964⟩ : ∃ x : Int, x = wq_shr a2 (24 - (8 * v1960)) := ⟨_, rfl⟩
              rw [← e1964]
              have b1965 : -2147483648 ≤ v1963 ∧ v1963 ≤ 2147483647 := by
                rw [e1964]
                exact wI_shr _ _
              refine wp_of e168 c168_99 (rw_i2b (pc' := 100) rfl ?_)
              obtain ⟨v1966, e1967⟩ : ∃ x : Int, x = wq_i2b v1963 := ⟨_, rfl⟩
              rw [← e1967]
              have b1968 : -128 ≤ v1966 ∧ v1966 ≤ 127 := by
                rw [e1967]
                exact wq_i2b_b _
              have o1969 : v1966 = wq_i2b (wq_shr a2 (24 - (8 * v1960))) := by
                subst_vars
                rfl
              refine wp_of e168 c168_100 (xs_B (pc' := 101) w1850 grb (by decide) sh_43 (by decide) (ty_43 _) (by omega) (by omega) ⟨by omega, by omega⟩ (by omega) (by omega) rfl (fun H1970 e1971 w1972 => ?_))
              have f1973 := f1858.put' e1971 grb rfl
              have f1974 := f1851.put' e1971 grb rfl
              have h1975 : TM T H1970 rb (xfk B t a1 a2 a3 a4 a5 (ii1849 + 1)) := TM_fk h1854 e1971 (by omega) o1969 (by omega) (by omega)
              refine wp_of e168 c168_101 (rw_aload_n (pc' := 102) (v := .ref r0) rfl rfl rfl ?_)
              refine wp_of e168 c168_102 (rw_dup (pc' := 103) rfl rfl ?_)
              have k1976 : H1970 r0 6 = H1848 r0 6 := (wq_u_t e1971 grb g0 rfl 6)
              refine wp_of e168 c168_103 (xg_I (pc' := 106) lf_9_330 w1972 g0 sh_42 (by decide) (by decide) ty_42_6 rfl rfl (fun b1977 b1978 => ?_))
              refine wp_of e168 c168_106 (rw_iconst (pc' := 107) rfl ?_)
              refine wp_of e168 c168_107 (rw_iadd (pc' := 108) rfl ?_)
              refine wp_of e168 c168_108 (xp_I (pc' := 111) lf_9_330 w1972 g0 sh_42 (by decide) (by decide) ty_42_6 rfl rfl (by omega) (by omega) ⟨by omega, by omega⟩ rfl (fun H1979 e1980 w1981 => ?_))
              have f1982 := f1973.put' e1980 g0 rfl
              have f1983 := f1974.put' e1980 g0 rfl
              have k1984 : H1979 r0 6 = (H1970 r0 6) + 1 := wq_u_s e1980
              refine wp_of e168 c168_111 (rw_iinc (pc' := 114) (z := v1847) (L' := [(6, vI (v1847 + 1)), (7, vI a2), (0, .ref r0), (1, vI a1), (2, vI a2), (3, vI a3), (4, vI a4), (5, vI a5)]) rfl rfl rfl rfl ?_)
              refine wp_of e168 c168_114 (rw_goto (p1 := 23) (by decide) ?_)
              have h1985 : TM T H1979 rb (xfk B t a1 a2 a3 a4 a5 (ii1849 + 1)) := (TM_fr w1972 grb ((wfr.rf (l := [(42, 6)])).put' e1980 g0 rfl) rfl h1975)
              exact wp_lc (ks := [6, 7, 0, 1, 2, 3, 4, 5]) (wl_c rfl (wl_c rfl (wl_c rfl (wl_c rfl (wl_c rfl (wl_c rfl (wl_c rfl wl_n))))))) rfl (by decide) (ih1846 _ (by omega) (v1847 + 1) H1979 ((ii1849 + 1)) w1981 f1983 ⟨by omega, by omega⟩ h1985 (by omega) (by omega) (by omega) rfl)
          · refine wp_of e168 c168_36 (rw_iload_n (pc' := 37) (z := a1) rfl rfl ?_)
            refine wp_of e168 c168_37 (rw_goto (p1 := 76) (by decide) ?_)
            refine wp_of e168 c168_76 (rw_istore (pc' := 78) (z := a1) (L' := [(7, vI a1), (6, vI v1847), (0, .ref r0), (1, vI a1), (2, vI a2), (3, vI a3), (4, vI a4), (5, vI a5)]) rfl rfl rfl ?_)
            have _w := @xw5_e ii1849 a1 a2 a3 a4 a5
            refine wp_of e168 c168_78 (rw_aload_n (pc' := 79) (v := .ref r0) rfl rfl rfl ?_)
            have k1986 : H1848 r0 5 = H r0 5 := ((f1851 r0 5 _ g0 rfl).trans (wq_u_j e1483 rfl))
            have q1987 : H1848 r0 5 = (rb : Int) := k1986.trans qrb
            refine wp_of e168 c168_79 (xg_K (pc' := 82) lf_9_13 w1850 g0 sh_42 (by decide) (by decide) rfl q1987 rfl ?_)
            refine wp_of e168 c168_82 (rw_aload_n (pc' := 83) (v := .ref r0) rfl rfl rfl ?_)
            refine wp_of e168 c168_83 (xg_I (pc' := 86) lf_9_330 w1850 g0 sh_42 (by decide) (by decide) ty_42_6 rfl rfl (fun b1988 b1989 => ?_))
            refine wp_of e168 c168_86 (rw_iload (pc' := 88) (z := a1) rfl rfl ?_)
            refine wp_of e168 c168_88 (rw_bipush (pc' := 90) (z := 24) rfl (by decide) ?_)
            refine wp_of e168 c168_90 (rw_bipush (pc' := 92) (z := 8) rfl (by decide) ?_)
            refine wp_of e168 c168_92 (rw_iload (pc' := 94) (z := v1847) rfl rfl ?_)
            refine wp_of e168 c168_94 (rw_iconst (pc' := 95) rfl ?_)
            refine wp_of e168 c168_95 (rw_irem (pc' := 96) rfl ⟨by omega, by omega⟩ (by omega) ?_)
            obtain ⟨v1990, e1991⟩ : ∃ x : Int, x = wq_rem v1847 4 := ⟨_, rfl⟩
            rw [← e1991]
            have b1992 : v1990 = v1847 % 4 := by
              rw [e1991]
              exact wq_rem_e ⟨by omega, by omega⟩ ⟨by omega, by omega⟩
            refine wp_of e168 c168_96 (rw_imul (pc' := 97) rfl ?_)
            refine wp_of e168 c168_97 (rw_isub (pc' := 98) rfl ?_)
            refine wp_of e168 c168_98 (rw_ishr (pc' := 99) rfl ?_)
            obtain ⟨v1993, e1994⟩ : ∃ x : Int, x = wq_shr a1 (24 - (8 * v1990)) := ⟨_, rfl⟩
            rw [← e1994]
            have b1995 : -2147483648 ≤ v1993 ∧ v1993 ≤ 2147483647 := by
              rw [e1994]
              exact wI_shr _ _
            refine wp_of e168 c168_99 (rw_i2b (pc' := 100) rfl ?_)
            obtain ⟨v1996, e1997⟩ : ∃ x : Int, x = wq_i2b v1993 := ⟨_, rfl⟩
            rw [← e1997]
            have b1998 : -128 ≤ v1996 ∧ v1996 ≤ 127 := by
              rw [e1997]
              exact wq_i2b_b _
            have o1999 : v1996 = wq_i2b (wq_shr a1 (24 - (8 * v1990))) := by
              subst_vars
              rfl
            refine wp_of e168 c168_100 (xs_B (pc' := 101) w1850 grb (by decide) sh_43 (by decide) (ty_43 _) (by omega) (by omega) ⟨by omega, by omega⟩ (by omega) (by omega) rfl (fun H2000 e2001 w2002 => ?_))
            have f2003 := f1858.put' e2001 grb rfl
            have f2004 := f1851.put' e2001 grb rfl
            have h2005 : TM T H2000 rb (xfk B t a1 a2 a3 a4 a5 (ii1849 + 1)) := TM_fk h1854 e2001 (by omega) o1999 (by omega) (by omega)
            refine wp_of e168 c168_101 (rw_aload_n (pc' := 102) (v := .ref r0) rfl rfl rfl ?_)
            refine wp_of e168 c168_102 (rw_dup (pc' := 103) rfl rfl ?_)
            have k2006 : H2000 r0 6 = H1848 r0 6 := (wq_u_t e2001 grb g0 rfl 6)
            refine wp_of e168 c168_103 (xg_I (pc' := 106) lf_9_330 w2002 g0 sh_42 (by decide) (by decide) ty_42_6 rfl rfl (fun b2007 b2008 => ?_))
            refine wp_of e168 c168_106 (rw_iconst (pc' := 107) rfl ?_)
            refine wp_of e168 c168_107 (rw_iadd (pc' := 108) rfl ?_)
            refine wp_of e168 c168_108 (xp_I (pc' := 111) lf_9_330 w2002 g0 sh_42 (by decide) (by decide) ty_42_6 rfl rfl (by omega) (by omega) ⟨by omega, by omega⟩ rfl (fun H2009 e2010 w2011 => ?_))
            have f2012 := f2003.put' e2010 g0 rfl
            have f2013 := f2004.put' e2010 g0 rfl
            have k2014 : H2009 r0 6 = (H2000 r0 6) + 1 := wq_u_s e2010
            refine wp_of e168 c168_111 (rw_iinc (pc' := 114) (z := v1847) (L' := [(6, vI (v1847 + 1)), (7, vI a1), (0, .ref r0), (1, vI a1), (2, vI a2), (3, vI a3), (4, vI a4), (5, vI a5)]) rfl rfl rfl rfl ?_)
            refine wp_of e168 c168_114 (rw_goto (p1 := 23) (by decide) ?_)
            have h2015 : TM T H2009 rb (xfk B t a1 a2 a3 a4 a5 (ii1849 + 1)) := (TM_fr w2002 grb ((wfr.rf (l := [(42, 6)])).put' e2010 g0 rfl) rfl h2005)
            exact wp_lc (ks := [6, 7, 0, 1, 2, 3, 4, 5]) (wl_c rfl (wl_c rfl (wl_c rfl (wl_c rfl (wl_c rfl (wl_c rfl (wl_c rfl wl_n))))))) rfl (by decide) (ih1846 _ (by omega) (v1847 + 1) H2009 ((ii1849 + 1)) w2011 f2013 ⟨by omega, by omega⟩ h2015 (by omega) (by omega) (by omega) rfl)
    have h2016 : TM T H1482 rb B := (TM_fr hW grb ((wfr.rf (l := [(42, 0)])).put' e1483 g0 rfl) rfl hTM_rb)
    have h2017 : TM T H1482 rb (xfk B t a1 a2 a3 a4 a5 0) := h2016
    exact wp_lc (ks := [6, 0, 1, 2, 3, 4, 5]) (wl_c rfl (wl_c rfl (wl_c rfl (wl_c rfl (wl_c rfl (wl_c rfl (wl_c rfl wl_n))))))) rfl (by decide) (lp1844 _ 0 H1482 0 w1484 wfr.rf ⟨by omega, by omega⟩ h2017 (by omega) (by omega) (by omega) rfl)
  · refine wp_of e168 c168_18 (rw_iconst (pc' := 19) rfl ?_)
    have h2018 : TM T H1482 rb B := (TM_fr hW grb ((wfr.rf (l := [(42, 0)])).put' e1483 g0 rfl) rfl hTM_rb)
    exact wp_ireturn e168 c168_19 rfl ⟨rfl, w1484, f1485, -1, rfl, ⟨by omega, by omega⟩, (Or.inl ⟨by omega, by omega, by omega, h2018⟩)⟩
/-! StrikeAwakeModel.refused(I)I  -/
abbrev uq_170 (r0 : Nat) (a1 : Int) (T : wq_T) (H : wq_H) : Option Value → wq_T → wq_H → Prop := fun r T' H' => T = T' ∧ WT T H' ∧ wfr [(42, 1), (42, 2)] T H H' ∧ ∃ z : Int, some (vI z) = r ∧ ((-2147483648) ≤ z ∧ z ≤ 2147483647) ∧ (((z = -1) ∧ (H' r0 1 = a1) ∧ (H' r0 2 = -1)))
set_option maxHeartbeats 4000000 in
theorem u_170 {kt : Nat → Option mc_E} {T : wq_T} {H : wq_H} {r0 : Nat} {a1 : Int} (hW : WT T H) (g0 : T.2.2.2 r0 = some 42) (i1 : (-2147483648) ≤ a1 ∧ a1 ≤ 2147483647) : wpc kt 1 170 [.ref r0, vI a1] T H (uq_170 r0 a1 T H) := by
  refine wp_enter e170 (Nat.le_of_ble_eq_true rfl) rfl ?_
  have f0 : wfr [(42, 1), (42, 2)] T H H := wfr.rf
  show wp _ _ 170 0 [(0, .ref r0), (1, vI a1)] [] _ H _
  refine wp_of e170 c170_0 (rw_aload_n (pc' := 1) (v := .ref r0) rfl rfl rfl ?_)
  refine wp_of e170 c170_1 (rw_iload_n (pc' := 2) (z := a1) rfl rfl ?_)
  refine wp_of e170 c170_2 (xp_I (pc' := 5) lf_9_51 hW g0 sh_42 (by decide) (by decide) ty_42_1 rfl rfl (by omega) (by omega) ⟨by omega, by omega⟩ rfl (fun H1011 e1012 w1013 => ?_))
  have f1014 := f0.put' e1012 g0 rfl
  have k1015 : H1011 r0 1 = a1 := wq_u_s e1012
  refine wp_of e170 c170_5 (rw_aload_n (pc' := 6) (v := .ref r0) rfl rfl rfl ?_)
  refine wp_of e170 c170_6 (rw_iconst (pc' := 7) rfl ?_)
  refine wp_of e170 c170_7 (xp_I (pc' := 10) lf_9_9 w1013 g0 sh_42 (by decide) (by decide) ty_42_2 rfl rfl (by omega) (by omega) ⟨by omega, by omega⟩ rfl (fun H1016 e1017 w1018 => ?_))
  have f1019 := f1014.put' e1017 g0 rfl
  have k1020 : H1016 r0 2 = -1 := wq_u_s e1017
  refine wp_of e170 c170_10 (rw_iconst (pc' := 11) rfl ?_)
  have k1021 : H1016 r0 1 = H1011 r0 1 := (wq_u_j e1017 rfl)
  exact wp_ireturn e170 c170_11 rfl ⟨rfl, w1018, f1019, -1, rfl, ⟨by omega, by omega⟩, ⟨by omega, by omega, by omega⟩⟩
