/-! what methods do (own work, written by wip/gen3/sx3.py) -/
/-! StrikeAwakeModel.readLine()V k -/
abbrev uq_177_k (r0 : Nat) (rp : Nat) (rb : Nat) (B : Nat → Int) (n : Int) (q : Int) (d : xD) (N0 : Nat) (H0 : wq_H) (T : wq_T) (H : wq_H) : Option Value → wq_T → wq_H → Prop := fun r T' H' => T = T' ∧ WT T H' ∧ wfr [(54, 0), (54, 1), (54, 2), (54, 3), (54, 4), (54, 5), (54, 6), (54, 7), (54, 8), (42, 8), (42, 9), (42, 10), (42, 11), (42, 12), (42, 13), (42, 14), (42, 15), (42, 16), (42, 17), (42, 18), (64, 999), (65, 999), (56, 999), (57, 999), (66, 999), (60, 999), (63, 999), (58, 999), (59, 999), (55, 999), (61, 999), (62, 999), (72, 999), (71, 999), (67, 999), (68, 999), (69, 999)] T H H' ∧ none = r ∧ ((((xline B n q d).1 = 0) ∧ (q ≤ (xline B n q d).2.2) ∧ (∀ a, a ≠ rp → T.2.2.2 a = some 54 → H' a 3 = H a 3) ∧ RC T H' r0 B n (xline B n q d).2.2 ∧ DM T H' rp r0 (xdline B n q d) ∧ FZ T H' rp N0 H0) ∨ (((xline B n q d).1 ≠ 0) ∧ (∀ a, a ≠ rp → T.2.2.2 a = some 54 → H' a 3 = H a 3) ∧ RO T H' r0 ((xline B n q d).1) ((xline B n q d).2.1) ∧ FZ T H' rp N0 H0))
set_option maxHeartbeats 4000000 in
theorem u_177_k {kt : Nat → Option mc_E} {T : wq_T} {H : wq_H} {r0 : Nat} {rp : Nat} {rb : Nat} {B : Nat → Int} {n : Int} {q : Int} {d : xD} {N0 : Nat} {H0 : wq_H} (hW : WT T H) (g0 : T.2.2.2 r0 = some 42) (qrp : H r0 4 = (rp : Int)) (grp : T.2.2.2 rp = some 54) (qrb : H r0 5 = (rb : Int)) (grb : T.2.2.2 rb = some 43) (hRC_r0 : RC T H r0 B n q) (hDM_rp : DM T H rp r0 d) (hFZ_rp : FZ T H rp N0 H0) : wpc kt 8 177 [.ref r0] T H (uq_177_k r0 rp rb B n q d N0 H0 T H) := by
  refine wp_enter e177 (Nat.le_of_ble_eq_true rfl) rfl ?_
  have f0 : wfr [(54, 0), (54, 1), (54, 2), (54, 3), (54, 4), (54, 5), (54, 6), (54, 7), (54, 8), (42, 8), (42, 9), (42, 10), (42, 11), (42, 12), (42, 13), (42, 14), (42, 15), (42, 16), (42, 17), (42, 18), (64, 999), (65, 999), (56, 999), (57, 999), (66, 999), (60, 999), (63, 999), (58, 999), (59, 999), (55, 999), (61, 999), (62, 999), (72, 999), (71, 999), (67, 999), (68, 999), (69, 999)] T H H := wfr.rf
  show wp _ _ 177 0 [(0, .ref r0)] [] _ H _
  have u1309 := RC_k hRC_r0
  have u1310 := DM_k hDM_rp
  have _r := @xre_r B n q
  refine wp_of e177 c177_0 (rw_aload_n (pc' := 1) (v := .ref r0) rfl rfl rfl ?_)
  refine wp_of e177 c177_1 (rw_ldcS (pc' := 3) (k := 72) rfl rfl rfl rfl ?_)
  refine wp_of e177 c177_3 (xc_V (pc' := 6) (r := r0) (as := [.ref 72]) (st := []) (lm_9_114) rfl rfl (Nat.le_of_ble_eq_true rfl) hW g0 sh_42 (by decide) rfl (by decide) (u_178_k (B := B) (n := n) (q := q) (kk := 12343) hW g0 rfl (by decide +kernel) hRC_r0) (fun R1311 T1312 H1313 p1314 => ?_))
  obtain ⟨e1315, e1317, z1318, e1316, b1319, p1320⟩ := p1314
  subst e1315
  subst e1316
  subst e1317
  rcases p1320 with ⟨a1321, a1322, a1323⟩ | ⟨a1324, a1325⟩
  · show wp _ _ 177 6 [(0, .ref r0)] [vI z1318] _ H _
    have y1326 := xre_y (B := B) (n := n) (q := q) 0 12343 rfl (by decide) (by omega)
    refine wp_of e177 c177_6 (rw_if_eq (p1 := 16) (p2 := 9) (by decide) rfl ⟨Int.le_trans (by decide) b1319.1, Int.le_trans b1319.2 (by decide)⟩ (fun c1327 => ?_) (fun c1327 => ?_))
    · exfalso
      omega
    · refine wp_of e177 c177_9 (rw_aload_n (pc' := 10) (v := .ref r0) rfl rfl rfl ?_)
      refine wp_of e177 c177_10 (xc_V (pc' := 13) (r := r0) (as := []) (st := []) (lm_9_191) rfl rfl (Nat.le_of_ble_eq_true rfl) hW g0 sh_42 (by decide) rfl (by decide) (u_180_k (B := B) (n := n) (q := q) (d := d) (N0 := N0) (H0 := H0) hW g0 qrp grp qrb grb (by omega) hRC_r0 hDM_rp hFZ_rp) (fun R1328 T1329 H1330 p1331 => ?_))
      obtain ⟨e1332, w1334, f1335, e1333, p1336⟩ := p1331
      subst e1332
      subst e1333
      rcases p1336 with ⟨a1337, a1338, a1339, a1340, a1341, a1342⟩ | ⟨a1343, a1344, a1345⟩
      · have f1346 := f0.tr f1335 rfl
        show wp _ _ 177 13 [(0, .ref r0)] [] _ H1330 _
        have u1347 := RC_k a1340
        have u1348 := DM_k a1341
        refine wp_of e177 c177_13 (rw_goto (p1 := 133) (by decide) ?_)
        have o1349 : (xline B n q d) = ((xl0 B n q d).1, (xl0 B n q d).2.1, (xl0 B n q d).2.2) := by
          unfold xline
          repeat first | rw [xs_0 (Int.le_antisymm (by omega -splitDisjunctions) (by omega -splitDisjunctions))] | rw [xs_1 (by omega -splitDisjunctions)] | rw [if_pos (Int.le_antisymm (by omega -splitDisjunctions) (by omega -splitDisjunctions))] | rw [if_pos (by omega -splitDisjunctions)] | rw [if_pos (And.intro (by omega -splitDisjunctions) (by omega -splitDisjunctions))] | rw [if_neg (by omega -splitDisjunctions)] | rw [xs_1 (by omega)] | rw [if_neg (by omega)] | rw [xs_0 (by omega)] | rw [if_pos (by omega)]
          first | done | rfl | assumption | (exfalso; omega -splitDisjunctions) | (refine Prod.ext ?_ (Prod.ext ?_ ?_) <;> (try dsimp only) <;> omega) | (exfalso; omega)
        have o1349a : ((xline B n q d)).1 = (xl0 B n q d).1 := by rw [o1349]
        have o1349b : ((xline B n q d)).2.1 = (xl0 B n q d).2.1 := by rw [o1349]
        have o1349c : ((xline B n q d)).2.2 = (xl0 B n q d).2.2 := by rw [o1349]
        have o1350 : xdline B n q d = ((xdlaw B n (xN B n q) d)) := by
          unfold xdline
          repeat first | rw [xs_0 (Int.le_antisymm (by omega -splitDisjunctions) (by omega -splitDisjunctions))] | rw [xs_1 (by omega -splitDisjunctions)] | rw [if_pos (Int.le_antisymm (by omega -splitDisjunctions) (by omega -splitDisjunctions))] | rw [if_pos (by omega -splitDisjunctions)] | rw [if_pos (And.intro (by omega -splitDisjunctions) (by omega -splitDisjunctions))] | rw [if_neg (by omega -splitDisjunctions)] | rw [xs_1 (by omega)] | rw [if_neg (by omega)] | rw [xs_0 (by omega)] | rw [if_pos (by omega)]
          first | done | rfl
        exact wp_return e177 c177_133 rfl ⟨rfl, w1334, f1346, rfl, (Or.inl ⟨by omega, by omega, (fun a ha ga => (f1335 a 3 _ ga rfl)), by rw [show (xline B n q d).2.2 = ((xN B n (xN B n (xN B n (xN B n (xN B n (xN B n (xN B n q)))))))) by omega]; exact a1340, by rw [o1350]; exact a1341, a1342⟩)⟩
      · have f1351 := f0.tr f1335 rfl
        show wp _ _ 177 13 [(0, .ref r0)] [] _ H1330 _
        have u1352 := RO_k a1344
        refine wp_of e177 c177_13 (rw_goto (p1 := 133) (by decide) ?_)
        have o1353 : (xline B n q d) = ((xl0 B n q d).1, (xl0 B n q d).2.1, (xl0 B n q d).2.2) := by
          unfold xline
          repeat first | rw [xs_0 (Int.le_antisymm (by omega -splitDisjunctions) (by omega -splitDisjunctions))] | rw [xs_1 (by omega -splitDisjunctions)] | rw [if_pos (Int.le_antisymm (by omega -splitDisjunctions) (by omega -splitDisjunctions))] | rw [if_pos (by omega -splitDisjunctions)] | rw [if_pos (And.intro (by omega -splitDisjunctions) (by omega -splitDisjunctions))] | rw [if_neg (by omega -splitDisjunctions)] | rw [xs_1 (by omega)] | rw [if_neg (by omega)] | rw [xs_0 (by omega)] | rw [if_pos (by omega)]
          first | done | rfl | assumption | (exfalso; omega -splitDisjunctions) | (refine Prod.ext ?_ (Prod.ext ?_ ?_) <;> (try dsimp only) <;> omega) | (exfalso; omega)
        have o1353a : ((xline B n q d)).1 = (xl0 B n q d).1 := by rw [o1353]
        have o1353b : ((xline B n q d)).2.1 = (xl0 B n q d).2.1 := by rw [o1353]
        have o1353c : ((xline B n q d)).2.2 = (xl0 B n q d).2.2 := by rw [o1353]
        exact wp_return e177 c177_133 rfl ⟨rfl, w1334, f1351, rfl, (Or.inr ⟨by omega, (fun a ha ga => (f1335 a 3 _ ga rfl)), RO_eq a1344 (by omega) (by omega), a1345⟩)⟩
  · show wp _ _ 177 6 [(0, .ref r0)] [vI z1318] _ H _
    have y1354 := xre_n (B := B) (n := n) (q := q) 0 12343 rfl (by decide) (by omega)
    refine wp_of e177 c177_6 (rw_if_eq (p1 := 16) (p2 := 9) (by decide) rfl ⟨Int.le_trans (by decide) b1319.1, Int.le_trans b1319.2 (by decide)⟩ (fun c1355 => ?_) (fun c1355 => ?_))
    · refine wp_of e177 c177_16 (rw_aload_n (pc' := 17) (v := .ref r0) rfl rfl rfl ?_)
      refine wp_of e177 c177_17 (rw_ldcS (pc' := 19) (k := 76) rfl rfl rfl rfl ?_)
      refine wp_of e177 c177_19 (xc_V (pc' := 22) (r := r0) (as := [.ref 76]) (st := []) (lm_9_114) rfl rfl (Nat.le_of_ble_eq_true rfl) hW g0 sh_42 (by decide) rfl (by decide) (u_178_k (B := B) (n := n) (q := q) (kk := 542723566) hW g0 rfl (by decide +kernel) hRC_r0) (fun R1356 T1357 H1358 p1359 => ?_))
      obtain ⟨e1360, e1362, z1363, e1361, b1364, p1365⟩ := p1359
      subst e1360
      subst e1361
      subst e1362
      rcases p1365 with ⟨a1366, a1367, a1368⟩ | ⟨a1369, a1370⟩
      · show wp _ _ 177 22 [(0, .ref r0)] [vI z1363] _ H _
        have y1371 := xre_y (B := B) (n := n) (q := q) 1 542723566 rfl (by decide) (by omega)
        refine wp_of e177 c177_22 (rw_if_eq (p1 := 32) (p2 := 25) (by decide) rfl ⟨Int.le_trans (by decide) b1364.1, Int.le_trans b1364.2 (by decide)⟩ (fun c1372 => ?_) (fun c1372 => ?_))
        · exfalso
          omega
        · refine wp_of e177 c177_25 (rw_aload_n (pc' := 26) (v := .ref r0) rfl rfl rfl ?_)
          refine wp_of e177 c177_26 (xc_V (pc' := 29) (r := r0) (as := []) (st := []) (lm_9_194) rfl rfl (Nat.le_of_ble_eq_true rfl) hW g0 sh_42 (by decide) rfl (by decide) (u_187_k (B := B) (n := n) (q := q) (d := d) (N0 := N0) (H0 := H0) hW g0 qrp grp qrb grb (by omega) hRC_r0 hDM_rp hFZ_rp) (fun R1373 T1374 H1375 p1376 => ?_))
          obtain ⟨e1377, w1379, f1380, e1378, p1381⟩ := p1376
          subst e1377
          subst e1378
          rcases p1381 with ⟨a1382, a1383, a1384, a1385, a1386, a1387⟩ | ⟨a1388, a1389, a1390, a1391⟩
          · have f1392 := f0.tr f1380 rfl
            show wp _ _ 177 29 [(0, .ref r0)] [] _ H1375 _
            have u1393 := RC_k a1385
            have u1394 := DM_k a1386
            refine wp_of e177 c177_29 (rw_goto (p1 := 133) (by decide) ?_)
            have o1395 : (xline B n q d) = ((xl1 B n q d).1, (xl1 B n q d).2.1, (xl1 B n q d).2.2) := by
              unfold xline
              repeat first | rw [xs_0 (Int.le_antisymm (by omega -splitDisjunctions) (by omega -splitDisjunctions))] | rw [xs_1 (by omega -splitDisjunctions)] | rw [if_pos (Int.le_antisymm (by omega -splitDisjunctions) (by omega -splitDisjunctions))] | rw [if_pos (by omega -splitDisjunctions)] | rw [if_pos (And.intro (by omega -splitDisjunctions) (by omega -splitDisjunctions))] | rw [if_neg (by omega -splitDisjunctions)] | rw [xs_1 (by omega)] | rw [if_neg (by omega)] | rw [xs_0 (by omega)] | rw [if_pos (by omega)]
              first | done | rfl | assumption | (exfalso; omega -splitDisjunctions) | (refine Prod.ext ?_ (Prod.ext ?_ ?_) <;> (try dsimp only) <;> omega) | (exfalso; omega)
            have o1395a : ((xline B n q d)).1 = (xl1 B n q d).1 := by rw [o1395]
            have o1395b : ((xline B n q d)).2.1 = (xl1 B n q d).2.1 := by rw [o1395]
            have o1395c : ((xline B n q d)).2.2 = (xl1 B n q d).2.2 := by rw [o1395]
            have o1396 : xdline B n q d = (xdper B n (xN B n q) d) := by
              unfold xdline
              repeat first | rw [xs_0 (Int.le_antisymm (by omega -splitDisjunctions) (by omega -splitDisjunctions))] | rw [xs_1 (by omega -splitDisjunctions)] | rw [if_pos (Int.le_antisymm (by omega -splitDisjunctions) (by omega -splitDisjunctions))] | rw [if_pos (by omega -splitDisjunctions)] | rw [if_pos (And.intro (by omega -splitDisjunctions) (by omega -splitDisjunctions))] | rw [if_neg (by omega -splitDisjunctions)] | rw [xs_1 (by omega)] | rw [if_neg (by omega)] | rw [xs_0 (by omega)] | rw [if_pos (by omega)]
              first | done | rfl
            exact wp_return e177 c177_133 rfl ⟨rfl, w1379, f1392, rfl, (Or.inl ⟨by omega, by omega, (fun a ha ga => (a1384 a ha ga)), by rw [show (xline B n q d).2.2 = ((xl1 B n q d).2.2) by omega]; exact a1385, by rw [o1396]; exact a1386, a1387⟩)⟩
          · have f1397 := f0.tr f1380 rfl
            show wp _ _ 177 29 [(0, .ref r0)] [] _ H1375 _
            have u1398 := RO_k a1390
            refine wp_of e177 c177_29 (rw_goto (p1 := 133) (by decide) ?_)
            have o1399 : (xline B n q d) = ((xl1 B n q d).1, (xl1 B n q d).2.1, (xl1 B n q d).2.2) := by
              unfold xline
              repeat first | rw [xs_0 (Int.le_antisymm (by omega -splitDisjunctions) (by omega -splitDisjunctions))] | rw [xs_1 (by omega -splitDisjunctions)] | rw [if_pos (Int.le_antisymm (by omega -splitDisjunctions) (by omega -splitDisjunctions))] | rw [if_pos (by omega -splitDisjunctions)] | rw [if_pos (And.intro (by omega -splitDisjunctions) (by omega -splitDisjunctions))] | rw [if_neg (by omega -splitDisjunctions)] | rw [xs_1 (by omega)] | rw [if_neg (by omega)] | rw [xs_0 (by omega)] | rw [if_pos (by omega)]
              first | done | rfl | assumption | (exfalso; omega -splitDisjunctions) | (refine Prod.ext ?_ (Prod.ext ?_ ?_) <;> (try dsimp only) <;> omega) | (exfalso; omega)
            have o1399a : ((xline B n q d)).1 = (xl1 B n q d).1 := by rw [o1399]
            have o1399b : ((xline B n q d)).2.1 = (xl1 B n q d).2.1 := by rw [o1399]
            have o1399c : ((xline B n q d)).2.2 = (xl1 B n q d).2.2 := by rw [o1399]
            exact wp_return e177 c177_133 rfl ⟨rfl, w1379, f1397, rfl, (Or.inr ⟨by omega, (fun a ha ga => (a1389 a ha ga)), RO_eq a1390 (by omega) (by omega), a1391⟩)⟩
      · show wp _ _ 177 22 [(0, .ref r0)] [vI z1363] _ H _
        have y1400 := xre_n (B := B) (n := n) (q := q) 1 542723566 rfl (by decide) (by omega)
        refine wp_of e177 c177_22 (rw_if_eq (p1 := 32) (p2 := 25) (by decide) rfl ⟨Int.le_trans (by decide) b1364.1, Int.le_trans b1364.2 (by decide)⟩ (fun c1401 => ?_) (fun c1401 => ?_))
        · refine wp_of e177 c177_32 (rw_aload_n (pc' := 33) (v := .ref r0) rfl rfl rfl ?_)
          refine wp_of e177 c177_33 (rw_ldcS (pc' := 35) (k := 77) rfl rfl rfl rfl ?_)
          refine wp_of e177 c177_35 (xc_V (pc' := 38) (r := r0) (as := [.ref 77]) (st := []) (lm_9_114) rfl rfl (Nat.le_of_ble_eq_true rfl) hW g0 sh_42 (by decide) rfl (by decide) (u_178_k (B := B) (n := n) (q := q) (kk := 643584494) hW g0 rfl (by decide +kernel) hRC_r0) (fun R1402 T1403 H1404 p1405 => ?_))
          obtain ⟨e1406, e1408, z1409, e1407, b1410, p1411⟩ := p1405
          subst e1406
          subst e1407
          subst e1408
          rcases p1411 with ⟨a1412, a1413, a1414⟩ | ⟨a1415, a1416⟩
          · show wp _ _ 177 38 [(0, .ref r0)] [vI z1409] _ H _
            have y1417 := xre_y (B := B) (n := n) (q := q) 2 643584494 rfl (by decide) (by omega)
            refine wp_of e177 c177_38 (rw_if_eq (p1 := 48) (p2 := 41) (by decide) rfl ⟨Int.le_trans (by decide) b1410.1, Int.le_trans b1410.2 (by decide)⟩ (fun c1418 => ?_) (fun c1418 => ?_))
            · exfalso
              omega
            · refine wp_of e177 c177_41 (rw_aload_n (pc' := 42) (v := .ref r0) rfl rfl rfl ?_)
              refine wp_of e177 c177_42 (xc_V (pc' := 45) (r := r0) (as := []) (st := []) (lm_9_197) rfl rfl (Nat.le_of_ble_eq_true rfl) hW g0 sh_42 (by decide) rfl (by decide) (u_193_k (B := B) (n := n) (q := q) (d := d) (N0 := N0) (H0 := H0) hW g0 qrp grp qrb grb (by omega) hRC_r0 hDM_rp hFZ_rp) (fun R1419 T1420 H1421 p1422 => ?_))
              obtain ⟨e1423, w1425, f1426, e1424, p1427⟩ := p1422
              subst e1423
              subst e1424
              rcases p1427 with ⟨a1428, a1429, a1430, a1431, a1432, a1433⟩ | ⟨a1434, a1435, a1436⟩
              · have f1437 := f0.tr f1426 rfl
                show wp _ _ 177 45 [(0, .ref r0)] [] _ H1421 _
                have u1438 := RC_k a1431
                have u1439 := DM_k a1432
                refine wp_of e177 c177_45 (rw_goto (p1 := 133) (by decide) ?_)
                have o1440 : (xline B n q d) = ((xl2 B n q d).1, (xl2 B n q d).2.1, (xl2 B n q d).2.2) := by
                  unfold xline
                  repeat first | rw [xs_0 (Int.le_antisymm (by omega -splitDisjunctions) (by omega -splitDisjunctions))] | rw [xs_1 (by omega -splitDisjunctions)] | rw [if_pos (Int.le_antisymm (by omega -splitDisjunctions) (by omega -splitDisjunctions))] | rw [if_pos (by omega -splitDisjunctions)] | rw [if_pos (And.intro (by omega -splitDisjunctions) (by omega -splitDisjunctions))] | rw [if_neg (by omega -splitDisjunctions)] | rw [xs_1 (by omega)] | rw [if_neg (by omega)] | rw [xs_0 (by omega)] | rw [if_pos (by omega)]
                  first | done | rfl | assumption | (exfalso; omega -splitDisjunctions) | (refine Prod.ext ?_ (Prod.ext ?_ ?_) <;> (try dsimp only) <;> omega) | (exfalso; omega)
                have o1440a : ((xline B n q d)).1 = (xl2 B n q d).1 := by rw [o1440]
                have o1440b : ((xline B n q d)).2.1 = (xl2 B n q d).2.1 := by rw [o1440]
                have o1440c : ((xline B n q d)).2.2 = (xl2 B n q d).2.2 := by rw [o1440]
                have o1441 : xdline B n q d = ((xdsex B n (xN B n q) d)) := by
                  unfold xdline
                  repeat first | rw [xs_0 (Int.le_antisymm (by omega -splitDisjunctions) (by omega -splitDisjunctions))] | rw [xs_1 (by omega -splitDisjunctions)] | rw [if_pos (Int.le_antisymm (by omega -splitDisjunctions) (by omega -splitDisjunctions))] | rw [if_pos (by omega -splitDisjunctions)] | rw [if_pos (And.intro (by omega -splitDisjunctions) (by omega -splitDisjunctions))] | rw [if_neg (by omega -splitDisjunctions)] | rw [xs_1 (by omega)] | rw [if_neg (by omega)] | rw [xs_0 (by omega)] | rw [if_pos (by omega)]
                  first | done | rfl
                exact wp_return e177 c177_133 rfl ⟨rfl, w1425, f1437, rfl, (Or.inl ⟨by omega, by omega, (fun a ha ga => (f1426 a 3 _ ga rfl)), by rw [show (xline B n q d).2.2 = ((xN B n (xN B n q))) by omega]; exact a1431, by rw [o1441]; exact a1432, a1433⟩)⟩
              · have f1442 := f0.tr f1426 rfl
                show wp _ _ 177 45 [(0, .ref r0)] [] _ H1421 _
                have u1443 := RO_k a1435
                refine wp_of e177 c177_45 (rw_goto (p1 := 133) (by decide) ?_)
                have o1444 : (xline B n q d) = ((xl2 B n q d).1, (xl2 B n q d).2.1, (xl2 B n q d).2.2) := by
                  unfold xline
                  repeat first | rw [xs_0 (Int.le_antisymm (by omega -splitDisjunctions) (by omega -splitDisjunctions))] | rw [xs_1 (by omega -splitDisjunctions)] | rw [if_pos (Int.le_antisymm (by omega -splitDisjunctions) (by omega -splitDisjunctions))] | rw [if_pos (by omega -splitDisjunctions)] | rw [if_pos (And.intro (by omega -splitDisjunctions) (by omega -splitDisjunctions))] | rw [if_neg (by omega -splitDisjunctions)] | rw [xs_1 (by omega)] | rw [if_neg (by omega)] | rw [xs_0 (by omega)] | rw [if_pos (by omega)]
                  first | done | rfl | assumption | (exfalso; omega -splitDisjunctions) | (refine Prod.ext ?_ (Prod.ext ?_ ?_) <;> (try dsimp only) <;> omega) | (exfalso; omega)
                have o1444a : ((xline B n q d)).1 = (xl2 B n q d).1 := by rw [o1444]
                have o1444b : ((xline B n q d)).2.1 = (xl2 B n q d).2.1 := by rw [o1444]
                have o1444c : ((xline B n q d)).2.2 = (xl2 B n q d).2.2 := by rw [o1444]
                exact wp_return e177 c177_133 rfl ⟨rfl, w1425, f1442, rfl, (Or.inr ⟨by omega, (fun a ha ga => (f1426 a 3 _ ga rfl)), RO_eq a1435 (by omega) (by omega), a1436⟩)⟩
          · show wp _ _ 177 38 [(0, .ref r0)] [vI z1409] _ H _
            have y1445 := xre_n (B := B) (n := n) (q := q) 2 643584494 rfl (by decide) (by omega)
            refine wp_of e177 c177_38 (rw_if_eq (p1 := 48) (p2 := 41) (by decide) rfl ⟨Int.le_trans (by decide) b1410.1, Int.le_trans b1410.2 (by decide)⟩ (fun c1446 => ?_) (fun c1446 => ?_))
            · refine wp_of e177 c177_48 (rw_aload_n (pc' := 49) (v := .ref r0) rfl rfl rfl ?_)
              refine wp_of e177 c177_49 (rw_ldcS (pc' := 51) (k := 78) rfl rfl rfl rfl ?_)
              refine wp_of e177 c177_51 (xc_V (pc' := 54) (r := r0) (as := [.ref 78]) (st := []) (lm_9_114) rfl rfl (Nat.le_of_ble_eq_true rfl) hW g0 sh_42 (by decide) rfl (by decide) (u_178_k (B := B) (n := n) (q := q) (kk := 1574484) hW g0 rfl (by decide +kernel) hRC_r0) (fun R1447 T1448 H1449 p1450 => ?_))
              obtain ⟨e1451, e1453, z1454, e1452, b1455, p1456⟩ := p1450
              subst e1451
              subst e1452
              subst e1453
              rcases p1456 with ⟨a1457, a1458, a1459⟩ | ⟨a1460, a1461⟩
              · show wp _ _ 177 54 [(0, .ref r0)] [vI z1454] _ H _
                have y1462 := xre_y (B := B) (n := n) (q := q) 3 1574484 rfl (by decide) (by omega)
                refine wp_of e177 c177_54 (rw_if_eq (p1 := 64) (p2 := 57) (by decide) rfl ⟨Int.le_trans (by decide) b1455.1, Int.le_trans b1455.2 (by decide)⟩ (fun c1463 => ?_) (fun c1463 => ?_))
                · exfalso
                  omega
                · refine wp_of e177 c177_57 (rw_aload_n (pc' := 58) (v := .ref r0) rfl rfl rfl ?_)
                  refine wp_of e177 c177_58 (xc_V (pc' := 61) (r := r0) (as := []) (st := []) (lm_9_200) rfl rfl (Nat.le_of_ble_eq_true rfl) hW g0 sh_42 (by decide) rfl (by decide) (u_196_k (B := B) (n := n) (q := q) (d := d) (N0 := N0) (H0 := H0) hW g0 qrp grp qrb grb (by omega) hRC_r0 hDM_rp hFZ_rp) (fun R1464 T1465 H1466 p1467 => ?_))
                  obtain ⟨e1468, w1470, f1471, e1469, p1472⟩ := p1467
                  subst e1468
                  subst e1469
                  rcases p1472 with ⟨a1473, a1474, a1475, a1476, a1477, a1478⟩ | ⟨a1479, a1480, a1481⟩
                  · have f1482 := f0.tr f1471 rfl
                    show wp _ _ 177 61 [(0, .ref r0)] [] _ H1466 _
                    have u1483 := RC_k a1476
                    have u1484 := DM_k a1477
                    refine wp_of e177 c177_61 (rw_goto (p1 := 133) (by decide) ?_)
                    have o1485 : (xline B n q d) = ((xl3 B n q d).1, (xl3 B n q d).2.1, (xl3 B n q d).2.2) := by
                      unfold xline
                      repeat first | rw [xs_0 (Int.le_antisymm (by omega -splitDisjunctions) (by omega -splitDisjunctions))] | rw [xs_1 (by omega -splitDisjunctions)] | rw [if_pos (Int.le_antisymm (by omega -splitDisjunctions) (by omega -splitDisjunctions))] | rw [if_pos (by omega -splitDisjunctions)] | rw [if_pos (And.intro (by omega -splitDisjunctions) (by omega -splitDisjunctions))] | rw [if_neg (by omega -splitDisjunctions)] | rw [xs_1 (by omega)] | rw [if_neg (by omega)] | rw [xs_0 (by omega)] | rw [if_pos (by omega)]
                      first | done | rfl | assumption | (exfalso; omega -splitDisjunctions) | (refine Prod.ext ?_ (Prod.ext ?_ ?_) <;> (try dsimp only) <;> omega) | (exfalso; omega)
                    have o1485a : ((xline B n q d)).1 = (xl3 B n q d).1 := by rw [o1485]
                    have o1485b : ((xline B n q d)).2.1 = (xl3 B n q d).2.1 := by rw [o1485]
                    have o1485c : ((xline B n q d)).2.2 = (xl3 B n q d).2.2 := by rw [o1485]
                    have o1486 : xdline B n q d = ((xdap B n (xN B n q) d)) := by
                      unfold xdline
                      repeat first | rw [xs_0 (Int.le_antisymm (by omega -splitDisjunctions) (by omega -splitDisjunctions))] | rw [xs_1 (by omega -splitDisjunctions)] | rw [if_pos (Int.le_antisymm (by omega -splitDisjunctions) (by omega -splitDisjunctions))] | rw [if_pos (by omega -splitDisjunctions)] | rw [if_pos (And.intro (by omega -splitDisjunctions) (by omega -splitDisjunctions))] | rw [if_neg (by omega -splitDisjunctions)] | rw [xs_1 (by omega)] | rw [if_neg (by omega)] | rw [xs_0 (by omega)] | rw [if_pos (by omega)]
                      first | done | rfl
                    exact wp_return e177 c177_133 rfl ⟨rfl, w1470, f1482, rfl, (Or.inl ⟨by omega, by omega, (fun a ha ga => (f1471 a 3 _ ga rfl)), by rw [show (xline B n q d).2.2 = ((xN B n (xN B n (xN B n (xN B n q))))) by omega]; exact a1476, by rw [o1486]; exact a1477, a1478⟩)⟩
                  · have f1487 := f0.tr f1471 rfl
                    show wp _ _ 177 61 [(0, .ref r0)] [] _ H1466 _
                    have u1488 := RO_k a1480
                    refine wp_of e177 c177_61 (rw_goto (p1 := 133) (by decide) ?_)
                    have o1489 : (xline B n q d) = ((xl3 B n q d).1, (xl3 B n q d).2.1, (xl3 B n q d).2.2) := by
                      unfold xline
                      repeat first | rw [xs_0 (Int.le_antisymm (by omega -splitDisjunctions) (by omega -splitDisjunctions))] | rw [xs_1 (by omega -splitDisjunctions)] | rw [if_pos (Int.le_antisymm (by omega -splitDisjunctions) (by omega -splitDisjunctions))] | rw [if_pos (by omega -splitDisjunctions)] | rw [if_pos (And.intro (by omega -splitDisjunctions) (by omega -splitDisjunctions))] | rw [if_neg (by omega -splitDisjunctions)] | rw [xs_1 (by omega)] | rw [if_neg (by omega)] | rw [xs_0 (by omega)] | rw [if_pos (by omega)]
                      first | done | rfl | assumption | (exfalso; omega -splitDisjunctions) | (refine Prod.ext ?_ (Prod.ext ?_ ?_) <;> (try dsimp only) <;> omega) | (exfalso; omega)
                    have o1489a : ((xline B n q d)).1 = (xl3 B n q d).1 := by rw [o1489]
                    have o1489b : ((xline B n q d)).2.1 = (xl3 B n q d).2.1 := by rw [o1489]
                    have o1489c : ((xline B n q d)).2.2 = (xl3 B n q d).2.2 := by rw [o1489]
                    exact wp_return e177 c177_133 rfl ⟨rfl, w1470, f1487, rfl, (Or.inr ⟨by omega, (fun a ha ga => (f1471 a 3 _ ga rfl)), RO_eq a1480 (by omega) (by omega), a1481⟩)⟩
              · show wp _ _ 177 54 [(0, .ref r0)] [vI z1454] _ H _
                have y1490 := xre_n (B := B) (n := n) (q := q) 3 1574484 rfl (by decide) (by omega)
                refine wp_of e177 c177_54 (rw_if_eq (p1 := 64) (p2 := 57) (by decide) rfl ⟨Int.le_trans (by decide) b1455.1, Int.le_trans b1455.2 (by decide)⟩ (fun c1491 => ?_) (fun c1491 => ?_))
                · refine wp_of e177 c177_64 (rw_aload_n (pc' := 65) (v := .ref r0) rfl rfl rfl ?_)
                  refine wp_of e177 c177_65 (rw_ldcS (pc' := 67) (k := 79) rfl rfl rfl rfl ?_)
                  refine wp_of e177 c177_67 (xc_V (pc' := 70) (r := r0) (as := [.ref 79]) (st := []) (lm_9_114) rfl rfl (Nat.le_of_ble_eq_true rfl) hW g0 sh_42 (by decide) rfl (by decide) (u_178_k (B := B) (n := n) (q := q) (kk := 81486) hW g0 rfl (by decide +kernel) hRC_r0) (fun R1492 T1493 H1494 p1495 => ?_))
                  obtain ⟨e1496, e1498, z1499, e1497, b1500, p1501⟩ := p1495
                  subst e1496
                  subst e1497
                  subst e1498
                  rcases p1501 with ⟨a1502, a1503, a1504⟩ | ⟨a1505, a1506⟩
                  · show wp _ _ 177 70 [(0, .ref r0)] [vI z1499] _ H _
                    have y1507 := xre_y (B := B) (n := n) (q := q) 4 81486 rfl (by decide) (by omega)
                    refine wp_of e177 c177_70 (rw_if_eq (p1 := 80) (p2 := 73) (by decide) rfl ⟨Int.le_trans (by decide) b1500.1, Int.le_trans b1500.2 (by decide)⟩ (fun c1508 => ?_) (fun c1508 => ?_))
                    · exfalso
                      omega
                    · refine wp_of e177 c177_73 (rw_aload_n (pc' := 74) (v := .ref r0) rfl rfl rfl ?_)
                      refine wp_of e177 c177_74 (xc_V (pc' := 77) (r := r0) (as := []) (st := []) (lm_9_203) rfl rfl (Nat.le_of_ble_eq_true rfl) hW g0 sh_42 (by decide) rfl (by decide) (u_198_k (B := B) (n := n) (q := q) (d := d) (N0 := N0) (H0 := H0) hW g0 qrp grp qrb grb (by omega) hRC_r0 hDM_rp hFZ_rp) (fun R1509 T1510 H1511 p1512 => ?_))
                      obtain ⟨e1513, w1515, f1516, e1514, p1517⟩ := p1512
                      subst e1513
                      subst e1514
                      rcases p1517 with ⟨a1518, a1519, a1520, a1521, a1522, a1523⟩ | ⟨a1524, a1525, a1526⟩
                      · have f1527 := f0.tr f1516 rfl
                        show wp _ _ 177 77 [(0, .ref r0)] [] _ H1511 _
                        have u1528 := RC_k a1521
                        have u1529 := DM_k a1522
                        refine wp_of e177 c177_77 (rw_goto (p1 := 133) (by decide) ?_)
                        have o1530 : (xline B n q d) = ((xl4 B n q d).1, (xl4 B n q d).2.1, (xl4 B n q d).2.2) := by
                          unfold xline
                          repeat first | rw [xs_0 (Int.le_antisymm (by omega -splitDisjunctions) (by omega -splitDisjunctions))] | rw [xs_1 (by omega -splitDisjunctions)] | rw [if_pos (Int.le_antisymm (by omega -splitDisjunctions) (by omega -splitDisjunctions))] | rw [if_pos (by omega -splitDisjunctions)] | rw [if_pos (And.intro (by omega -splitDisjunctions) (by omega -splitDisjunctions))] | rw [if_neg (by omega -splitDisjunctions)] | rw [xs_1 (by omega)] | rw [if_neg (by omega)] | rw [xs_0 (by omega)] | rw [if_pos (by omega)]
                          first | done | rfl | assumption | (exfalso; omega -splitDisjunctions) | (refine Prod.ext ?_ (Prod.ext ?_ ?_) <;> (try dsimp only) <;> omega) | (exfalso; omega)
                        have o1530a : ((xline B n q d)).1 = (xl4 B n q d).1 := by rw [o1530]
                        have o1530b : ((xline B n q d)).2.1 = (xl4 B n q d).2.1 := by rw [o1530]
                        have o1530c : ((xline B n q d)).2.2 = (xl4 B n q d).2.2 := by rw [o1530]
                        have o1531 : xdline B n q d = ((xdbo B n (xN B n q) d)) := by
                          unfold xdline
                          repeat first | rw [xs_0 (Int.le_antisymm (by omega -splitDisjunctions) (by omega -splitDisjunctions))] | rw [xs_1 (by omega -splitDisjunctions)] | rw [if_pos (Int.le_antisymm (by omega -splitDisjunctions) (by omega -splitDisjunctions))] | rw [if_pos (by omega -splitDisjunctions)] | rw [if_pos (And.intro (by omega -splitDisjunctions) (by omega -splitDisjunctions))] | rw [if_neg (by omega -splitDisjunctions)] | rw [xs_1 (by omega)] | rw [if_neg (by omega)] | rw [xs_0 (by omega)] | rw [if_pos (by omega)]
                          first | done | rfl
                        exact wp_return e177 c177_133 rfl ⟨rfl, w1515, f1527, rfl, (Or.inl ⟨by omega, by omega, (fun a ha ga => (f1516 a 3 _ ga rfl)), by rw [show (xline B n q d).2.2 = ((xN B n (xN B n q))) by omega]; exact a1521, by rw [o1531]; exact a1522, a1523⟩)⟩
                      · have f1532 := f0.tr f1516 rfl
                        show wp _ _ 177 77 [(0, .ref r0)] [] _ H1511 _
                        have u1533 := RO_k a1525
                        refine wp_of e177 c177_77 (rw_goto (p1 := 133) (by decide) ?_)
                        have o1534 : (xline B n q d) = ((xl4 B n q d).1, (xl4 B n q d).2.1, (xl4 B n q d).2.2) := by
                          unfold xline
                          repeat first | rw [xs_0 (Int.le_antisymm (by omega -splitDisjunctions) (by omega -splitDisjunctions))] | rw [xs_1 (by omega -splitDisjunctions)] | rw [if_pos (Int.le_antisymm (by omega -splitDisjunctions) (by omega -splitDisjunctions))] | rw [if_pos (by omega -splitDisjunctions)] | rw [if_pos (And.intro (by omega -splitDisjunctions) (by omega -splitDisjunctions))] | rw [if_neg (by omega -splitDisjunctions)] | rw [xs_1 (by omega)] | rw [if_neg (by omega)] | rw [xs_0 (by omega)] | rw [if_pos (by omega)]
                          first | done | rfl | assumption | (exfalso; omega -splitDisjunctions) | (refine Prod.ext ?_ (Prod.ext ?_ ?_) <;> (try dsimp only) <;> omega) | (exfalso; omega)
                        have o1534a : ((xline B n q d)).1 = (xl4 B n q d).1 := by rw [o1534]
                        have o1534b : ((xline B n q d)).2.1 = (xl4 B n q d).2.1 := by rw [o1534]
                        have o1534c : ((xline B n q d)).2.2 = (xl4 B n q d).2.2 := by rw [o1534]
                        exact wp_return e177 c177_133 rfl ⟨rfl, w1515, f1532, rfl, (Or.inr ⟨by omega, (fun a ha ga => (f1516 a 3 _ ga rfl)), RO_eq a1525 (by omega) (by omega), a1526⟩)⟩
                  · show wp _ _ 177 70 [(0, .ref r0)] [vI z1499] _ H _
                    have y1535 := xre_n (B := B) (n := n) (q := q) 4 81486 rfl (by decide) (by omega)
                    refine wp_of e177 c177_70 (rw_if_eq (p1 := 80) (p2 := 73) (by decide) rfl ⟨Int.le_trans (by decide) b1500.1, Int.le_trans b1500.2 (by decide)⟩ (fun c1536 => ?_) (fun c1536 => ?_))
                    · refine wp_of e177 c177_80 (rw_aload_n (pc' := 81) (v := .ref r0) rfl rfl rfl ?_)
                      refine wp_of e177 c177_81 (rw_ldcS (pc' := 83) (k := 80) rfl rfl rfl rfl ?_)
                      refine wp_of e177 c177_83 (xc_V (pc' := 86) (r := r0) (as := [.ref 80]) (st := []) (lm_9_114) rfl rfl (Nat.le_of_ble_eq_true rfl) hW g0 sh_42 (by decide) rfl (by decide) (u_178_k (B := B) (n := n) (q := q) (kk := 659117163) hW g0 rfl (by decide +kernel) hRC_r0) (fun R1537 T1538 H1539 p1540 => ?_))
                      obtain ⟨e1541, e1543, z1544, e1542, b1545, p1546⟩ := p1540
                      subst e1541
                      subst e1542
                      subst e1543
                      rcases p1546 with ⟨a1547, a1548, a1549⟩ | ⟨a1550, a1551⟩
                      · show wp _ _ 177 86 [(0, .ref r0)] [vI z1544] _ H _
                        have y1552 := xre_y (B := B) (n := n) (q := q) 5 659117163 rfl (by decide) (by omega)
                        refine wp_of e177 c177_86 (rw_if_eq (p1 := 96) (p2 := 89) (by decide) rfl ⟨Int.le_trans (by decide) b1545.1, Int.le_trans b1545.2 (by decide)⟩ (fun c1553 => ?_) (fun c1553 => ?_))
                        · exfalso
                          omega
                        · refine wp_of e177 c177_89 (rw_aload_n (pc' := 90) (v := .ref r0) rfl rfl rfl ?_)
                          refine wp_of e177 c177_90 (xc_V (pc' := 93) (r := r0) (as := []) (st := []) (lm_9_206) rfl rfl (Nat.le_of_ble_eq_true rfl) hW g0 sh_42 (by decide) rfl (by decide) (u_199_k (B := B) (n := n) (q := q) (d := d) (N0 := N0) (H0 := H0) hW g0 qrp grp qrb grb (by omega) hRC_r0 hDM_rp hFZ_rp) (fun R1554 T1555 H1556 p1557 => ?_))
                          obtain ⟨e1558, w1560, f1561, e1559, p1562⟩ := p1557
                          subst e1558
                          subst e1559
                          rcases p1562 with ⟨a1563, a1564, a1565, a1566, a1567, a1568⟩ | ⟨a1569, a1570, a1571⟩
                          · have f1572 := f0.tr f1561 rfl
                            show wp _ _ 177 93 [(0, .ref r0)] [] _ H1556 _
                            have u1573 := RC_k a1566
                            have u1574 := DM_k a1567
                            refine wp_of e177 c177_93 (rw_goto (p1 := 133) (by decide) ?_)
                            have o1575 : (xline B n q d) = ((xl5 B n q d).1, (xl5 B n q d).2.1, (xl5 B n q d).2.2) := by
                              unfold xline
                              repeat first | rw [xs_0 (Int.le_antisymm (by omega -splitDisjunctions) (by omega -splitDisjunctions))] | rw [xs_1 (by omega -splitDisjunctions)] | rw [if_pos (Int.le_antisymm (by omega -splitDisjunctions) (by omega -splitDisjunctions))] | rw [if_pos (by omega -splitDisjunctions)] | rw [if_pos (And.intro (by omega -splitDisjunctions) (by omega -splitDisjunctions))] | rw [if_neg (by omega -splitDisjunctions)] | rw [xs_1 (by omega)] | rw [if_neg (by omega)] | rw [xs_0 (by omega)] | rw [if_pos (by omega)]
                              first | done | rfl | assumption | (exfalso; omega -splitDisjunctions) | (refine Prod.ext ?_ (Prod.ext ?_ ?_) <;> (try dsimp only) <;> omega) | (exfalso; omega)
                            have o1575a : ((xline B n q d)).1 = (xl5 B n q d).1 := by rw [o1575]
                            have o1575b : ((xline B n q d)).2.1 = (xl5 B n q d).2.1 := by rw [o1575]
                            have o1575c : ((xline B n q d)).2.2 = (xl5 B n q d).2.2 := by rw [o1575]
                            have o1576 : xdline B n q d = ((xdst B n (xN B n q) d)) := by
                              unfold xdline
                              repeat first | rw [xs_0 (Int.le_antisymm (by omega -splitDisjunctions) (by omega -splitDisjunctions))] | rw [xs_1 (by omega -splitDisjunctions)] | rw [if_pos (Int.le_antisymm (by omega -splitDisjunctions) (by omega -splitDisjunctions))] | rw [if_pos (by omega -splitDisjunctions)] | rw [if_pos (And.intro (by omega -splitDisjunctions) (by omega -splitDisjunctions))] | rw [if_neg (by omega -splitDisjunctions)] | rw [xs_1 (by omega)] | rw [if_neg (by omega)] | rw [xs_0 (by omega)] | rw [if_pos (by omega)]
                              first | done | rfl
                            exact wp_return e177 c177_133 rfl ⟨rfl, w1560, f1572, rfl, (Or.inl ⟨by omega, by omega, (fun a ha ga => (f1561 a 3 _ ga rfl)), by rw [show (xline B n q d).2.2 = ((xN B n (xN B n (xN B n (xN B n q))))) by omega]; exact a1566, by rw [o1576]; exact a1567, a1568⟩)⟩
                          · have f1577 := f0.tr f1561 rfl
                            show wp _ _ 177 93 [(0, .ref r0)] [] _ H1556 _
                            have u1578 := RO_k a1570
                            refine wp_of e177 c177_93 (rw_goto (p1 := 133) (by decide) ?_)
                            have o1579 : (xline B n q d) = ((xl5 B n q d).1, (xl5 B n q d).2.1, (xl5 B n q d).2.2) := by
                              unfold xline
                              repeat first | rw [xs_0 (Int.le_antisymm (by omega -splitDisjunctions) (by omega -splitDisjunctions))] | rw [xs_1 (by omega -splitDisjunctions)] | rw [if_pos (Int.le_antisymm (by omega -splitDisjunctions) (by omega -splitDisjunctions))] | rw [if_pos (by omega -splitDisjunctions)] | rw [if_pos (And.intro (by omega -splitDisjunctions) (by omega -splitDisjunctions))] | rw [if_neg (by omega -splitDisjunctions)] | rw [xs_1 (by omega)] | rw [if_neg (by omega)] | rw [xs_0 (by omega)] | rw [if_pos (by omega)]
                              first | done | rfl | assumption | (exfalso; omega -splitDisjunctions) | (refine Prod.ext ?_ (Prod.ext ?_ ?_) <;> (try dsimp only) <;> omega) | (exfalso; omega)
                            have o1579a : ((xline B n q d)).1 = (xl5 B n q d).1 := by rw [o1579]
                            have o1579b : ((xline B n q d)).2.1 = (xl5 B n q d).2.1 := by rw [o1579]
                            have o1579c : ((xline B n q d)).2.2 = (xl5 B n q d).2.2 := by rw [o1579]
                            exact wp_return e177 c177_133 rfl ⟨rfl, w1560, f1577, rfl, (Or.inr ⟨by omega, (fun a ha ga => (f1561 a 3 _ ga rfl)), RO_eq a1570 (by omega) (by omega), a1571⟩)⟩
                      · show wp _ _ 177 86 [(0, .ref r0)] [vI z1544] _ H _
                        have y1580 := xre_n (B := B) (n := n) (q := q) 5 659117163 rfl (by decide) (by omega)
                        refine wp_of e177 c177_86 (rw_if_eq (p1 := 96) (p2 := 89) (by decide) rfl ⟨Int.le_trans (by decide) b1545.1, Int.le_trans b1545.2 (by decide)⟩ (fun c1581 => ?_) (fun c1581 => ?_))
                        · refine wp_of e177 c177_96 (rw_aload_n (pc' := 97) (v := .ref r0) rfl rfl rfl ?_)
                          refine wp_of e177 c177_97 (rw_ldcS (pc' := 99) (k := 81) rfl rfl rfl rfl ?_)
                          refine wp_of e177 c177_99 (xc_V (pc' := 102) (r := r0) (as := [.ref 81]) (st := []) (lm_9_114) rfl rfl (Nat.le_of_ble_eq_true rfl) hW g0 sh_42 (by decide) rfl (by decide) (u_178_k (B := B) (n := n) (q := q) (kk := 671108) hW g0 rfl (by decide +kernel) hRC_r0) (fun R1582 T1583 H1584 p1585 => ?_))
                          obtain ⟨e1586, e1588, z1589, e1587, b1590, p1591⟩ := p1585
                          subst e1586
                          subst e1587
                          subst e1588
                          rcases p1591 with ⟨a1592, a1593, a1594⟩ | ⟨a1595, a1596⟩
                          · show wp _ _ 177 102 [(0, .ref r0)] [vI z1589] _ H _
                            have y1597 := xre_y (B := B) (n := n) (q := q) 6 671108 rfl (by decide) (by omega)
                            refine wp_of e177 c177_102 (rw_if_eq (p1 := 112) (p2 := 105) (by decide) rfl ⟨Int.le_trans (by decide) b1590.1, Int.le_trans b1590.2 (by decide)⟩ (fun c1598 => ?_) (fun c1598 => ?_))
                            · exfalso
                              omega
                            · refine wp_of e177 c177_105 (rw_aload_n (pc' := 106) (v := .ref r0) rfl rfl rfl ?_)
                              refine wp_of e177 c177_106 (xc_V (pc' := 109) (r := r0) (as := []) (st := []) (lm_9_209) rfl rfl (Nat.le_of_ble_eq_true rfl) hW g0 sh_42 (by decide) rfl (by decide) (u_200_k (B := B) (n := n) (q := q) (d := d) (N0 := N0) (H0 := H0) hW g0 qrp grp qrb grb (by omega) hRC_r0 hDM_rp hFZ_rp) (fun R1599 T1600 H1601 p1602 => ?_))
                              obtain ⟨e1603, w1605, f1606, e1604, p1607⟩ := p1602
                              subst e1603
                              subst e1604
                              rcases p1607 with ⟨a1608, a1609, a1610, a1611, a1612, a1613⟩ | ⟨a1614, a1615, a1616⟩
                              · have f1617 := f0.tr f1606 rfl
                                show wp _ _ 177 109 [(0, .ref r0)] [] _ H1601 _
                                have u1618 := RC_k a1611
                                have u1619 := DM_k a1612
                                refine wp_of e177 c177_109 (rw_goto (p1 := 133) (by decide) ?_)
                                have o1620 : (xline B n q d) = ((xl6 B n q d).1, (xl6 B n q d).2.1, (xl6 B n q d).2.2) := by
                                  unfold xline
                                  repeat first | rw [xs_0 (Int.le_antisymm (by omega -splitDisjunctions) (by omega -splitDisjunctions))] | rw [xs_1 (by omega -splitDisjunctions)] | rw [if_pos (Int.le_antisymm (by omega -splitDisjunctions) (by omega -splitDisjunctions))] | rw [if_pos (by omega -splitDisjunctions)] | rw [if_pos (And.intro (by omega -splitDisjunctions) (by omega -splitDisjunctions))] | rw [if_neg (by omega -splitDisjunctions)] | rw [xs_1 (by omega)] | rw [if_neg (by omega)] | rw [xs_0 (by omega)] | rw [if_pos (by omega)]
                                  first | done | rfl | assumption | (exfalso; omega -splitDisjunctions) | (refine Prod.ext ?_ (Prod.ext ?_ ?_) <;> (try dsimp only) <;> omega) | (exfalso; omega)
                                have o1620a : ((xline B n q d)).1 = (xl6 B n q d).1 := by rw [o1620]
                                have o1620b : ((xline B n q d)).2.1 = (xl6 B n q d).2.1 := by rw [o1620]
                                have o1620c : ((xline B n q d)).2.2 = (xl6 B n q d).2.2 := by rw [o1620]
                                have o1621 : xdline B n q d = ((xdtl B n (xN B n q) d)) := by
                                  unfold xdline
                                  repeat first | rw [xs_0 (Int.le_antisymm (by omega -splitDisjunctions) (by omega -splitDisjunctions))] | rw [xs_1 (by omega -splitDisjunctions)] | rw [if_pos (Int.le_antisymm (by omega -splitDisjunctions) (by omega -splitDisjunctions))] | rw [if_pos (by omega -splitDisjunctions)] | rw [if_pos (And.intro (by omega -splitDisjunctions) (by omega -splitDisjunctions))] | rw [if_neg (by omega -splitDisjunctions)] | rw [xs_1 (by omega)] | rw [if_neg (by omega)] | rw [xs_0 (by omega)] | rw [if_pos (by omega)]
                                  first | done | rfl
                                exact wp_return e177 c177_133 rfl ⟨rfl, w1605, f1617, rfl, (Or.inl ⟨by omega, by omega, (fun a ha ga => (f1606 a 3 _ ga rfl)), by rw [show (xline B n q d).2.2 = ((xN B n (xN B n (xN B n (xN B n (xN B n q)))))) by omega]; exact a1611, by rw [o1621]; exact a1612, a1613⟩)⟩
                              · have f1622 := f0.tr f1606 rfl
                                show wp _ _ 177 109 [(0, .ref r0)] [] _ H1601 _
                                have u1623 := RO_k a1615
                                refine wp_of e177 c177_109 (rw_goto (p1 := 133) (by decide) ?_)
                                have o1624 : (xline B n q d) = ((xl6 B n q d).1, (xl6 B n q d).2.1, (xl6 B n q d).2.2) := by
                                  unfold xline
                                  repeat first | rw [xs_0 (Int.le_antisymm (by omega -splitDisjunctions) (by omega -splitDisjunctions))] | rw [xs_1 (by omega -splitDisjunctions)] | rw [if_pos (Int.le_antisymm (by omega -splitDisjunctions) (by omega -splitDisjunctions))] | rw [if_pos (by omega -splitDisjunctions)] | rw [if_pos (And.intro (by omega -splitDisjunctions) (by omega -splitDisjunctions))] | rw [if_neg (by omega -splitDisjunctions)] | rw [xs_1 (by omega)] | rw [if_neg (by omega)] | rw [xs_0 (by omega)] | rw [if_pos (by omega)]
                                  first | done | rfl | assumption | (exfalso; omega -splitDisjunctions) | (refine Prod.ext ?_ (Prod.ext ?_ ?_) <;> (try dsimp only) <;> omega) | (exfalso; omega)
                                have o1624a : ((xline B n q d)).1 = (xl6 B n q d).1 := by rw [o1624]
                                have o1624b : ((xline B n q d)).2.1 = (xl6 B n q d).2.1 := by rw [o1624]
                                have o1624c : ((xline B n q d)).2.2 = (xl6 B n q d).2.2 := by rw [o1624]
                                exact wp_return e177 c177_133 rfl ⟨rfl, w1605, f1622, rfl, (Or.inr ⟨by omega, (fun a ha ga => (f1606 a 3 _ ga rfl)), RO_eq a1615 (by omega) (by omega), a1616⟩)⟩
                          · show wp _ _ 177 102 [(0, .ref r0)] [vI z1589] _ H _
                            have y1625 := xre_n (B := B) (n := n) (q := q) 6 671108 rfl (by decide) (by omega)
                            refine wp_of e177 c177_102 (rw_if_eq (p1 := 112) (p2 := 105) (by decide) rfl ⟨Int.le_trans (by decide) b1590.1, Int.le_trans b1590.2 (by decide)⟩ (fun c1626 => ?_) (fun c1626 => ?_))
                            · refine wp_of e177 c177_112 (rw_aload_n (pc' := 113) (v := .ref r0) rfl rfl rfl ?_)
                              refine wp_of e177 c177_113 (rw_ldcS (pc' := 115) (k := 82) rfl rfl rfl rfl ?_)
                              refine wp_of e177 c177_115 (xc_V (pc' := 118) (r := r0) (as := [.ref 82]) (st := []) (lm_9_114) rfl rfl (Nat.le_of_ble_eq_true rfl) hW g0 sh_42 (by decide) rfl (by decide) (u_178_k (B := B) (n := n) (q := q) (kk := 15931570) hW g0 rfl (by decide +kernel) hRC_r0) (fun R1627 T1628 H1629 p1630 => ?_))
                              obtain ⟨e1631, e1633, z1634, e1632, b1635, p1636⟩ := p1630
                              subst e1631
                              subst e1632
                              subst e1633
                              rcases p1636 with ⟨a1637, a1638, a1639⟩ | ⟨a1640, a1641⟩
                              · show wp _ _ 177 118 [(0, .ref r0)] [vI z1634] _ H _
                                have y1642 := xre_y (B := B) (n := n) (q := q) 7 15931570 rfl (by decide) (by omega)
                                refine wp_of e177 c177_118 (rw_if_eq (p1 := 128) (p2 := 121) (by decide) rfl ⟨Int.le_trans (by decide) b1635.1, Int.le_trans b1635.2 (by decide)⟩ (fun c1643 => ?_) (fun c1643 => ?_))
                                · exfalso
                                  omega
                                · refine wp_of e177 c177_121 (rw_aload_n (pc' := 122) (v := .ref r0) rfl rfl rfl ?_)
                                  refine wp_of e177 c177_122 (xc_V (pc' := 125) (r := r0) (as := []) (st := []) (lm_9_212) rfl rfl (Nat.le_of_ble_eq_true rfl) hW g0 sh_42 (by decide) rfl (by decide) (u_203_k (B := B) (n := n) (q := q) (d := d) (N0 := N0) (H0 := H0) hW g0 qrp grp qrb grb (by omega) hRC_r0 hDM_rp hFZ_rp) (fun R1644 T1645 H1646 p1647 => ?_))
                                  obtain ⟨e1648, w1650, f1651, e1649, p1652⟩ := p1647
                                  subst e1648
                                  subst e1649
                                  rcases p1652 with ⟨a1653, a1654, a1655, a1656, a1657, a1658⟩ | ⟨a1659, a1660, a1661⟩
                                  · have f1662 := f0.tr f1651 rfl
                                    show wp _ _ 177 125 [(0, .ref r0)] [] _ H1646 _
                                    have u1663 := RC_k a1656
                                    have u1664 := DM_k a1657
                                    refine wp_of e177 c177_125 (rw_goto (p1 := 133) (by decide) ?_)
                                    have o1665 : (xline B n q d) = ((xl7 B n q d).1, (xl7 B n q d).2.1, (xl7 B n q d).2.2) := by
                                      unfold xline
                                      repeat first | rw [xs_0 (Int.le_antisymm (by omega -splitDisjunctions) (by omega -splitDisjunctions))] | rw [xs_1 (by omega -splitDisjunctions)] | rw [if_pos (Int.le_antisymm (by omega -splitDisjunctions) (by omega -splitDisjunctions))] | rw [if_pos (by omega -splitDisjunctions)] | rw [if_pos (And.intro (by omega -splitDisjunctions) (by omega -splitDisjunctions))] | rw [if_neg (by omega -splitDisjunctions)] | rw [xs_1 (by omega)] | rw [if_neg (by omega)] | rw [xs_0 (by omega)] | rw [if_pos (by omega)]
                                      first | done | rfl | assumption | (exfalso; omega -splitDisjunctions) | (refine Prod.ext ?_ (Prod.ext ?_ ?_) <;> (try dsimp only) <;> omega) | (exfalso; omega)
                                    have o1665a : ((xline B n q d)).1 = (xl7 B n q d).1 := by rw [o1665]
                                    have o1665b : ((xline B n q d)).2.1 = (xl7 B n q d).2.1 := by rw [o1665]
                                    have o1665c : ((xline B n q d)).2.2 = (xl7 B n q d).2.2 := by rw [o1665]
                                    have o1666 : xdline B n q d = ((xdof B n (xN B n q) d)) := by
                                      unfold xdline
                                      repeat first | rw [xs_0 (Int.le_antisymm (by omega -splitDisjunctions) (by omega -splitDisjunctions))] | rw [xs_1 (by omega -splitDisjunctions)] | rw [if_pos (Int.le_antisymm (by omega -splitDisjunctions) (by omega -splitDisjunctions))] | rw [if_pos (by omega -splitDisjunctions)] | rw [if_pos (And.intro (by omega -splitDisjunctions) (by omega -splitDisjunctions))] | rw [if_neg (by omega -splitDisjunctions)] | rw [xs_1 (by omega)] | rw [if_neg (by omega)] | rw [xs_0 (by omega)] | rw [if_pos (by omega)]
                                      first | done | rfl
                                    exact wp_return e177 c177_133 rfl ⟨rfl, w1650, f1662, rfl, (Or.inl ⟨by omega, by omega, (fun a ha ga => (f1651 a 3 _ ga rfl)), by rw [show (xline B n q d).2.2 = ((xN B n (xN B n (xN B n (xN B n (xN B n q)))))) by omega]; exact a1656, by rw [o1666]; exact a1657, a1658⟩)⟩
                                  · have f1667 := f0.tr f1651 rfl
                                    show wp _ _ 177 125 [(0, .ref r0)] [] _ H1646 _
                                    have u1668 := RO_k a1660
                                    refine wp_of e177 c177_125 (rw_goto (p1 := 133) (by decide) ?_)
                                    have o1669 : (xline B n q d) = ((xl7 B n q d).1, (xl7 B n q d).2.1, (xl7 B n q d).2.2) := by
                                      unfold xline
                                      repeat first | rw [xs_0 (Int.le_antisymm (by omega -splitDisjunctions) (by omega -splitDisjunctions))] | rw [xs_1 (by omega -splitDisjunctions)] | rw [if_pos (Int.le_antisymm (by omega -splitDisjunctions) (by omega -splitDisjunctions))] | rw [if_pos (by omega -splitDisjunctions)] | rw [if_pos (And.intro (by omega -splitDisjunctions) (by omega -splitDisjunctions))] | rw [if_neg (by omega -splitDisjunctions)] | rw [xs_1 (by omega)] | rw [if_neg (by omega)] | rw [xs_0 (by omega)] | rw [if_pos (by omega)]
                                      first | done | rfl | assumption | (exfalso; omega -splitDisjunctions) | (refine Prod.ext ?_ (Prod.ext ?_ ?_) <;> (try dsimp only) <;> omega) | (exfalso; omega)
                                    have o1669a : ((xline B n q d)).1 = (xl7 B n q d).1 := by rw [o1669]
                                    have o1669b : ((xline B n q d)).2.1 = (xl7 B n q d).2.1 := by rw [o1669]
                                    have o1669c : ((xline B n q d)).2.2 = (xl7 B n q d).2.2 := by rw [o1669]
                                    exact wp_return e177 c177_133 rfl ⟨rfl, w1650, f1667, rfl, (Or.inr ⟨by omega, (fun a ha ga => (f1651 a 3 _ ga rfl)), RO_eq a1660 (by omega) (by omega), a1661⟩)⟩
                              · show wp _ _ 177 118 [(0, .ref r0)] [vI z1634] _ H _
                                have y1670 := xre_n (B := B) (n := n) (q := q) 7 15931570 rfl (by decide) (by omega)
                                refine wp_of e177 c177_118 (rw_if_eq (p1 := 128) (p2 := 121) (by decide) rfl ⟨Int.le_trans (by decide) b1635.1, Int.le_trans b1635.2 (by decide)⟩ (fun c1671 => ?_) (fun c1671 => ?_))
                                · refine wp_of e177 c177_128 (rw_aload_n (pc' := 129) (v := .ref r0) rfl rfl rfl ?_)
                                  refine wp_of e177 c177_129 (rw_iconst (pc' := 130) rfl ?_)
                                  refine wp_of e177 c177_130 (xc_V (pc' := 133) (r := r0) (as := [vI 1]) (st := []) (lm_9_121) rfl rfl (Nat.le_of_ble_eq_true rfl) hW g0 sh_42 (by decide) rfl (by decide) (u_181_k (B := B) (n := n) (q := q) hW g0 ⟨by decide, by decide⟩ (by omega) hRC_r0) (fun R1672 T1673 H1674 p1675 => ?_))
                                  obtain ⟨e1676, w1678, f1679, e1677, p1680⟩ := p1675
                                  subst e1676
                                  subst e1677
                                  have f1682 := f0.tr f1679 rfl
                                  show wp _ _ 177 133 [(0, .ref r0)] [] _ H1674 _
                                  have u1683 := RO_k p1680
                                  have o1684 : (xline B n q d) = (1, q, q) := by
                                    unfold xline
                                    repeat first | rw [xs_0 (Int.le_antisymm (by omega -splitDisjunctions) (by omega -splitDisjunctions))] | rw [xs_1 (by omega -splitDisjunctions)] | rw [if_pos (Int.le_antisymm (by omega -splitDisjunctions) (by omega -splitDisjunctions))] | rw [if_pos (by omega -splitDisjunctions)] | rw [if_pos (And.intro (by omega -splitDisjunctions) (by omega -splitDisjunctions))] | rw [if_neg (by omega -splitDisjunctions)] | rw [xs_1 (by omega)] | rw [if_neg (by omega)] | rw [xs_0 (by omega)] | rw [if_pos (by omega)]
                                    first | done | rfl | assumption | (exfalso; omega -splitDisjunctions) | (refine Prod.ext ?_ (Prod.ext ?_ ?_) <;> (try dsimp only) <;> omega) | (exfalso; omega)
                                  have o1684a : ((xline B n q d)).1 = 1 := by rw [o1684]
                                  have o1684b : ((xline B n q d)).2.1 = q := by rw [o1684]
                                  have o1684c : ((xline B n q d)).2.2 = q := by rw [o1684]
                                  have h1685 : FZ T H1674 rp N0 H0 := (FZ_fr hW grp f1679 rfl hFZ_rp)
                                  exact wp_return e177 c177_133 rfl ⟨rfl, w1678, f1682, rfl, (Or.inr ⟨by omega, (fun a ha ga => (f1679 a 3 _ ga rfl)), RO_eq p1680 (by omega) (by omega), h1685⟩)⟩
                                · exfalso
                                  omega
                            · exfalso
                              omega
                        · exfalso
                          omega
                    · exfalso
                      omega
                · exfalso
                  omega
            · exfalso
              omega
        · exfalso
          omega
    · exfalso
      omega
/-! StrikeAwakeModel.readParish()V k -/
abbrev uq_176_k (r0 : Nat) (rp : Nat) (rb : Nat) (B : Nat → Int) (n : Int) (q : Int) (d : xD) (f : Nat) (N0 : Nat) (H0 : wq_H) (T : wq_T) (H : wq_H) : Option Value → wq_T → wq_H → Prop := fun r T' H' => T = T' ∧ WT T H' ∧ wfr [(54, 0), (54, 1), (54, 2), (54, 3), (54, 4), (54, 5), (54, 6), (54, 7), (54, 8), (42, 8), (42, 9), (42, 10), (42, 11), (42, 12), (42, 13), (42, 14), (42, 15), (42, 16), (42, 17), (42, 18), (64, 999), (65, 999), (56, 999), (57, 999), (66, 999), (60, 999), (63, 999), (58, 999), (59, 999), (55, 999), (61, 999), (62, 999), (72, 999), (71, 999), (67, 999), (68, 999), (69, 999)] T H H' ∧ none = r ∧ (((((xpf B n f q d).1).1 = 0) ∧ (H' r0 13 = 0) ∧ (∀ a, a ≠ rp → T.2.2.2 a = some 54 → H' a 3 = H a 3) ∧ DM T H' rp r0 ((xpf B n f q d).2) ∧ FZ T H' rp N0 H0) ∨ ((((xpf B n f q d).1).1 ≠ 0) ∧ (∀ a, a ≠ rp → T.2.2.2 a = some 54 → H' a 3 = H a 3) ∧ RO T H' r0 (((xpf B n f q d).1).1) (((xpf B n f q d).1).2.1) ∧ FZ T H' rp N0 H0))
set_option maxHeartbeats 4000000 in
theorem u_176_k {kt : Nat → Option mc_E} {T : wq_T} {H : wq_H} {r0 : Nat} {rp : Nat} {rb : Nat} {B : Nat → Int} {n : Int} {q : Int} {d : xD} {f : Nat} {N0 : Nat} {H0 : wq_H} (hW : WT T H) (g0 : T.2.2.2 r0 = some 42) (qrp : H r0 4 = (rp : Int)) (grp : T.2.2.2 rp = some 54) (qrb : H r0 5 = (rb : Int)) (grb : T.2.2.2 rb = some 43) (p0 : n - q < f) (hRC_r0 : RC T H r0 B n q) (hDM_rp : DM T H rp r0 d) (hFZ_rp : FZ T H rp N0 H0) : wpc kt 9 176 [.ref r0] T H (uq_176_k r0 rp rb B n q d f N0 H0 T H) := by
  refine wp_enter e176 (Nat.le_of_ble_eq_true rfl) rfl ?_
  have f0 : wfr [(54, 0), (54, 1), (54, 2), (54, 3), (54, 4), (54, 5), (54, 6), (54, 7), (54, 8), (42, 8), (42, 9), (42, 10), (42, 11), (42, 12), (42, 13), (42, 14), (42, 15), (42, 16), (42, 17), (42, 18), (64, 999), (65, 999), (56, 999), (57, 999), (66, 999), (60, 999), (63, 999), (58, 999), (59, 999), (55, 999), (61, 999), (62, 999), (72, 999), (71, 999), (67, 999), (68, 999), (69, 999)] T H H := wfr.rf
  show wp _ _ 176 0 [(0, .ref r0)] [] _ H _
  have u1533 := RC_k hRC_r0
  have u1534 := DM_k hDM_rp
  refine wp_of e176 c176_0 (rw_iconst (pc' := 1) rfl ?_)
  refine wp_of e176 c176_1 (rw_istore_n (pc' := 2) (z := 1) (L' := [(1, vI 1), (0, .ref r0)]) rfl rfl rfl ?_)
  have lp1889 : ∀ (n1890 : Nat) (v1892 : Int) (H1893 : wq_H) (q1894 : Int) (d1895 : xD) (f1896 : Nat), WT T H1893 → wfr [(54, 0), (54, 1), (54, 2), (54, 3), (54, 4), (54, 5), (54, 6), (54, 7), (54, 8), (42, 8), (42, 9), (42, 10), (42, 11), (42, 12), (42, 13), (42, 14), (42, 15), (42, 16), (42, 17), (42, 18), (64, 999), (65, 999), (56, 999), (57, 999), (66, 999), (60, 999), (63, 999), (58, 999), (59, 999), (55, 999), (61, 999), (62, 999), (72, 999), (71, 999), (67, 999), (68, 999), (69, 999)] T H H1893 → (1 ≤ v1892 ∧ v1892 ≤ 1) → (∀ a, a ≠ rp → T.2.2.2 a = some 54 → H1893 a 3 = H a 3) → RC T H1893 r0 B n q1894 → DM T H1893 rp r0 d1895 → FZ T H1893 rp N0 H0 → (n - q1894 < f1896) → (xpf B n f1896 q1894 d1895 = xpf B n f q d) → (901 - q1894).toNat = n1890 → wp kt 8 176 2 [(1, vI v1892), (0, .ref r0)] [] T H1893 (uq_176_k r0 rp rb B n q d f N0 H0 T H) := by
    intro n1890
    induction n1890 using Nat.strongRecOn with
    | _ n1890 ih1891 =>
      intro v1892 H1893 q1894 d1895 f1896 w1897 f1898 b1899 x1900 h1902 h1903 h1904 x1905 x1906 m1901
      have f1907 := f0.tr f1898 rfl
      have u1908 := RC_k h1902
      have u1909 := DM_k h1903
      obtain ⟨gf, hg⟩ : ∃ g : Nat, f1896 = g + 1 := ⟨f1896 - 1, by omega⟩
      have hx : xpf B n (gf + 1) q1894 d1895 = xpf B n f q d := by
        rw [← hg]
        exact ‹xpf B n f1896 q1894 d1895 = xpf B n f q d›
      refine wp_of e176 c176_2 (rw_iload_n (pc' := 3) (z := v1892) rfl rfl ?_)
      refine wp_of e176 c176_3 (rw_if_eq (p1 := 20) (p2 := 6) (by decide) rfl ⟨Int.le_trans (by decide) b1899.1, Int.le_trans b1899.2 (by decide)⟩ (fun c1910 => ?_) (fun c1910 => ?_))
      · exfalso
        omega
      · refine wp_of e176 c176_6 (rw_aload_n (pc' := 7) (v := .ref r0) rfl rfl rfl ?_)
        have k1911 : H1893 r0 4 = H r0 4 := (f1898 r0 4 _ g0 rfl)
        have q1912 : H1893 r0 4 = (rp : Int) := k1911.trans qrp
        have k1913 : H1893 r0 5 = H r0 5 := (f1898 r0 5 _ g0 rfl)
        have q1914 : H1893 r0 5 = (rb : Int) := k1913.trans qrb
        refine wp_of e176 c176_7 (xc_V (pc' := 10) (r := r0) (as := []) (st := []) (lm_9_179) rfl rfl (Nat.le_of_ble_eq_true rfl) w1897 g0 sh_42 (by decide) rfl (by decide) (u_177_k (B := B) (n := n) (q := q1894) (d := d1895) (N0 := N0) (H0 := H0) w1897 g0 q1912 grp q1914 grb h1902 h1903 h1904) (fun R1915 T1916 H1917 p1918 => ?_))
        obtain ⟨e1919, w1921, f1922, e1920, p1923⟩ := p1918
        subst e1919
        subst e1920
        rcases p1923 with ⟨a1924, a1925, a1926, a1927, a1928, a1929⟩ | ⟨a1930, a1931, a1932, a1933⟩
        · have f1934 := f1907.tr f1922 rfl
          have f1935 := f1898.tr f1922 rfl
          show wp _ _ 176 10 [(1, vI v1892), (0, .ref r0)] [] _ H1917 _
          have u1936 := RC_k a1927
          have u1937 := DM_k a1928
          have _e := RC_e a1927
          refine wp_of e176 c176_10 (rw_aload_n (pc' := 11) (v := .ref r0) rfl rfl rfl ?_)
          refine wp_of e176 c176_11 (rw_bipush (pc' := 13) (z := 59) rfl (by decide) ?_)
          have k1938 : H1917 r0 5 = H1893 r0 5 := (f1922 r0 5 _ g0 rfl)
          have q1939 : H1917 r0 5 = (rb : Int) := k1938.trans q1914
          refine wp_of e176 c176_13 (xc_V (pc' := 16) (r := r0) (as := [vI 59]) (st := []) (lm_9_182) rfl rfl (Nat.le_of_ble_eq_true rfl) w1921 g0 sh_42 (by decide) rfl (by decide) (u_204_k (B := B) (n := n) (q := ((xline B n q1894 d1895).2.2)) (kd := 3) w1921 g0 ⟨by decide, by decide⟩ q1939 grb (by omega) a1927) (fun R1940 T1941 H1942 p1943 => ?_))
          obtain ⟨e1944, w1946, f1947, z1948, e1945, b1949, p1950⟩ := p1943
          subst e1944
          subst e1945
          rcases p1950 with ⟨a1951, a1952, a1953, a1954⟩ | ⟨a1955, a1956, a1957, a1958⟩
          · have f1959 := f1934.tr f1947 rfl
            have f1960 := f1935.tr f1947 rfl
            show wp _ _ 176 16 [(1, vI v1892), (0, .ref r0)] [vI z1948] _ H1942 _
            have u1961 := RC_k a1954
            refine wp_of e176 c176_16 (rw_istore_n (pc' := 17) (z := z1948) (L' := [(1, vI z1948), (0, .ref r0)]) rfl rfl rfl ?_)
            refine wp_of e176 c176_17 (rw_goto (p1 := 2) (by decide) ?_)
            have h1962 : DM T H1942 rp r0 (xdline B n q1894 d1895) := (DM_fr w1921 grp f1947 rfl a1928)
            have h1963 : FZ T H1942 rp N0 H0 := (FZ_fr w1921 grp f1947 rfl a1929)
            exact wp_lc (ks := [1, 0]) (wl_c rfl (wl_c rfl wl_n)) rfl (by decide) (ih1891 _ (by omega) z1948 H1942 ((xN B n ((xline B n q1894 d1895).2.2))) (xdline B n q1894 d1895) gf w1946 f1960 ⟨by omega, b1949.2⟩ (fun a ha ga => ((f1947 a 3 _ ga rfl).trans ((a1926 a ha ga).trans (x1900 a ha ga)))) a1954 h1962 h1963 (by omega) (by rw [← hx, xpf_u, if_pos (by omega), if_neg (by omega), if_pos (by omega)]) rfl)
          · have f1964 := f1934.tr f1947 rfl
            have f1965 := f1935.tr f1947 rfl
            show wp _ _ 176 16 [(1, vI v1892), (0, .ref r0)] [vI z1948] _ H1942 _
            have u1966 := RC_k a1958
            refine wp_of e176 c176_16 (rw_istore_n (pc' := 17) (z := z1948) (L' := [(1, vI z1948), (0, .ref r0)]) rfl rfl rfl ?_)
            refine wp_of e176 c176_17 (rw_goto (p1 := 2) (by decide) ?_)
            refine wp_of e176 c176_2 (rw_iload_n (pc' := 3) (z := z1948) rfl rfl ?_)
            refine wp_of e176 c176_3 (rw_if_eq (p1 := 20) (p2 := 6) (by decide) rfl ⟨Int.le_trans (by decide) b1949.1, Int.le_trans b1949.2 (by decide)⟩ (fun c1967 => ?_) (fun c1967 => ?_))
            · have _s := RC_s a1958
              refine wp_of e176 c176_20 (rw_aload_n (pc' := 21) (v := .ref r0) rfl rfl rfl ?_)
              refine wp_of e176 c176_21 (xg_I (pc' := 24) lf_9_75 w1946 g0 sh_42 (by decide) (by decide) ty_42_9 rfl rfl (fun b1968 b1969 => ?_))
              refine wp_of e176 c176_24 (rw_iconst (pc' := 25) rfl ?_)
              refine wp_of e176 c176_25 (rw_icmp_eq (p1 := 33) (p2 := 28) (by decide) rfl ⟨Int.le_trans (by decide) b1968, Int.le_trans b1969 (by decide)⟩ ⟨by decide, by decide⟩ (fun c1970 => ?_) (fun c1970 => ?_))
              · refine wp_of e176 c176_33 (rw_aload_n (pc' := 34) (v := .ref r0) rfl rfl rfl ?_)
                have k1971 : H1942 r0 4 = H1893 r0 4 := ((f1947 r0 4 _ g0 rfl).trans (f1922 r0 4 _ g0 rfl))
                have q1972 : H1942 r0 4 = (rp : Int) := k1971.trans q1912
                refine wp_of e176 c176_34 (xg_K (pc' := 37) lf_9_166 w1946 g0 sh_42 (by decide) (by decide) rfl q1972 rfl ?_)
                have k1973 : H1942 rp 0 = H1917 rp 0 := (f1947 rp 0 _ grp rfl)
                refine wp_of e176 c176_37 (xg_I (pc' := 40) lf_9_185 w1946 grp sh_54 (by decide) (by decide) ty_54_0 rfl rfl (fun b1974 b1975 => ?_))
                refine wp_of e176 c176_40 (rw_if_eq (p1 := 53) (p2 := 43) (by decide) rfl ⟨Int.le_trans (by decide) b1974, Int.le_trans b1975 (by decide)⟩ (fun c1976 => ?_) (fun c1976 => ?_))
                · refine wp_of e176 c176_53 (rw_aload_n (pc' := 54) (v := .ref r0) rfl rfl rfl ?_)
                  refine wp_of e176 c176_54 (rw_bipush (pc' := 56) (z := 6) rfl (by decide) ?_)
                  refine wp_of e176 c176_56 (xc_V (pc' := 59) (r := r0) (as := [vI 6]) (st := []) (lm_9_121) rfl rfl (Nat.le_of_ble_eq_true rfl) w1946 g0 sh_42 (by decide) rfl (by decide) (u_181_k (B := B) (n := n) (q := ((xline B n q1894 d1895).2.2)) w1946 g0 ⟨by decide, by decide⟩ (by omega) a1958) (fun R1977 T1978 H1979 p1980 => ?_))
                  obtain ⟨e1981, w1983, f1984, e1982, p1985⟩ := p1980
                  subst e1981
                  subst e1982
                  have f1987 := f1964.tr f1984 rfl
                  show wp _ _ 176 59 [(1, vI z1948), (0, .ref r0)] [] _ H1979 _
                  have u1988 := RO_k p1985
                  have o1989 : ((xpf B n f q d).1) = (6, ((xline B n q1894 d1895).2.2), q1894) := by
                    rw [← hx, xpf_u]
                    repeat first | rw [xs_0 (Int.le_antisymm (by omega -splitDisjunctions) (by omega -splitDisjunctions))] | rw [xs_1 (by omega -splitDisjunctions)] | rw [if_pos (Int.le_antisymm (by omega -splitDisjunctions) (by omega -splitDisjunctions))] | rw [if_pos (by omega -splitDisjunctions)] | rw [if_pos (And.intro (by omega -splitDisjunctions) (by omega -splitDisjunctions))] | rw [if_neg (by omega -splitDisjunctions)] | rw [xs_1 (by omega)] | rw [if_neg (by omega)] | rw [xs_0 (by omega)] | rw [if_pos (by omega)]
                    first | done | rfl | assumption | (exfalso; omega -splitDisjunctions) | (refine Prod.ext ?_ (Prod.ext ?_ ?_) <;> (try dsimp only) <;> omega) | (exfalso; omega)
                  have o1989a : (((xpf B n f q d).1)).1 = 6 := by rw [o1989]
                  have o1989b : (((xpf B n f q d).1)).2.1 = ((xline B n q1894 d1895).2.2) := by rw [o1989]
                  have o1989c : (((xpf B n f q d).1)).2.2 = q1894 := by rw [o1989]
                  have h1990 : FZ T H1979 rp N0 H0 := (FZ_fr w1946 grp f1984 rfl (FZ_fr w1921 grp f1947 rfl a1929))
                  exact wp_return e176 c176_59 rfl ⟨rfl, w1983, f1987, rfl, (Or.inr ⟨by omega, (fun a ha ga => ((f1984 a 3 _ ga rfl).trans ((f1947 a 3 _ ga rfl).trans ((a1926 a ha ga).trans (x1900 a ha ga))))), RO_eq p1985 (by omega) (by omega), h1990⟩)⟩
                · refine wp_of e176 c176_43 (rw_aload_n (pc' := 44) (v := .ref r0) rfl rfl rfl ?_)
                  refine wp_of e176 c176_44 (xg_K (pc' := 47) lf_9_166 w1946 g0 sh_42 (by decide) (by decide) rfl q1972 rfl ?_)
                  have k1991 : H1942 rp 3 = H1917 rp 3 := (f1947 rp 3 _ grp rfl)
                  refine wp_of e176 c176_47 (xg_I (pc' := 50) lf_9_188 w1946 grp sh_54 (by decide) (by decide) ty_54_3 rfl rfl (fun b1992 b1993 => ?_))
                  refine wp_of e176 c176_50 (rw_if_ne (p1 := 59) (p2 := 53) (by decide) rfl ⟨Int.le_trans (by decide) b1992, Int.le_trans b1993 (by decide)⟩ (fun c1994 => ?_) (fun c1994 => ?_))
                  · have o1995 : ((xpf B n f q d).1) = (0, q1894, q1894) := by
                      rw [← hx, xpf_u]
                      repeat first | rw [xs_0 (Int.le_antisymm (by omega -splitDisjunctions) (by omega -splitDisjunctions))] | rw [xs_1 (by omega -splitDisjunctions)] | rw [if_pos (Int.le_antisymm (by omega -splitDisjunctions) (by omega -splitDisjunctions))] | rw [if_pos (by omega -splitDisjunctions)] | rw [if_pos (And.intro (by omega -splitDisjunctions) (by omega -splitDisjunctions))] | rw [if_neg (by omega -splitDisjunctions)] | rw [xs_1 (by omega)] | rw [if_neg (by omega)] | rw [xs_0 (by omega)] | rw [if_pos (by omega)]
                      first | done | rfl | assumption | (exfalso; omega -splitDisjunctions) | (refine Prod.ext ?_ (Prod.ext ?_ ?_) <;> (try dsimp only) <;> omega) | (exfalso; omega)
                    have o1995a : (((xpf B n f q d).1)).1 = 0 := by rw [o1995]
                    have o1995b : (((xpf B n f q d).1)).2.1 = q1894 := by rw [o1995]
                    have o1995c : (((xpf B n f q d).1)).2.2 = q1894 := by rw [o1995]
                    have h1996 : DM T H1942 rp r0 (xdline B n q1894 d1895) := (DM_fr w1921 grp f1947 rfl a1928)
                    have h1997 : FZ T H1942 rp N0 H0 := (FZ_fr w1921 grp f1947 rfl a1929)
                    exact wp_return e176 c176_59 rfl ⟨rfl, w1946, f1964, rfl, (Or.inl ⟨by omega, by omega, (fun a ha ga => ((f1947 a 3 _ ga rfl).trans ((a1926 a ha ga).trans (x1900 a ha ga)))), by rw [← hx, xpf_u, if_pos (by omega), if_pos (by omega), if_pos (by omega)]; exact h1996, h1997⟩)⟩
                  · refine wp_of e176 c176_53 (rw_aload_n (pc' := 54) (v := .ref r0) rfl rfl rfl ?_)
                    refine wp_of e176 c176_54 (rw_bipush (pc' := 56) (z := 6) rfl (by decide) ?_)
                    refine wp_of e176 c176_56 (xc_V (pc' := 59) (r := r0) (as := [vI 6]) (st := []) (lm_9_121) rfl rfl (Nat.le_of_ble_eq_true rfl) w1946 g0 sh_42 (by decide) rfl (by decide) (u_181_k (B := B) (n := n) (q := ((xline B n q1894 d1895).2.2)) w1946 g0 ⟨by decide, by decide⟩ (by omega) a1958) (fun R1998 T1999 H2000 p2001 => ?_))
                    obtain ⟨e2002, w2004, f2005, e2003, p2006⟩ := p2001
                    subst e2002
                    subst e2003
                    have f2008 := f1964.tr f2005 rfl
                    show wp _ _ 176 59 [(1, vI z1948), (0, .ref r0)] [] _ H2000 _
                    have u2009 := RO_k p2006
                    have o2010 : ((xpf B n f q d).1) = (6, ((xline B n q1894 d1895).2.2), q1894) := by
                      rw [← hx, xpf_u]
                      repeat first | rw [xs_0 (Int.le_antisymm (by omega -splitDisjunctions) (by omega -splitDisjunctions))] | rw [xs_1 (by omega -splitDisjunctions)] | rw [if_pos (Int.le_antisymm (by omega -splitDisjunctions) (by omega -splitDisjunctions))] | rw [if_pos (by omega -splitDisjunctions)] | rw [if_pos (And.intro (by omega -splitDisjunctions) (by omega -splitDisjunctions))] | rw [if_neg (by omega -splitDisjunctions)] | rw [xs_1 (by omega)] | rw [if_neg (by omega)] | rw [xs_0 (by omega)] | rw [if_pos (by omega)]
                      first | done | rfl | assumption | (exfalso; omega -splitDisjunctions) | (refine Prod.ext ?_ (Prod.ext ?_ ?_) <;> (try dsimp only) <;> omega) | (exfalso; omega)
                    have o2010a : (((xpf B n f q d).1)).1 = 6 := by rw [o2010]
                    have o2010b : (((xpf B n f q d).1)).2.1 = ((xline B n q1894 d1895).2.2) := by rw [o2010]
                    have o2010c : (((xpf B n f q d).1)).2.2 = q1894 := by rw [o2010]
                    have h2011 : FZ T H2000 rp N0 H0 := (FZ_fr w1946 grp f2005 rfl (FZ_fr w1921 grp f1947 rfl a1929))
                    exact wp_return e176 c176_59 rfl ⟨rfl, w2004, f2008, rfl, (Or.inr ⟨by omega, (fun a ha ga => ((f2005 a 3 _ ga rfl).trans ((f1947 a 3 _ ga rfl).trans ((a1926 a ha ga).trans (x1900 a ha ga))))), RO_eq p2006 (by omega) (by omega), h2011⟩)⟩
              · refine wp_of e176 c176_28 (rw_aload_n (pc' := 29) (v := .ref r0) rfl rfl rfl ?_)
                refine wp_of e176 c176_29 (rw_iconst (pc' := 30) rfl ?_)
                refine wp_of e176 c176_30 (xc_V (pc' := 33) (r := r0) (as := [vI 1]) (st := []) (lm_9_121) rfl rfl (Nat.le_of_ble_eq_true rfl) w1946 g0 sh_42 (by decide) rfl (by decide) (u_181_k (B := B) (n := n) (q := ((xline B n q1894 d1895).2.2)) w1946 g0 ⟨by decide, by decide⟩ (by omega) a1958) (fun R2012 T2013 H2014 p2015 => ?_))
                obtain ⟨e2016, w2018, f2019, e2017, p2020⟩ := p2015
                subst e2016
                subst e2017
                have f2022 := f1964.tr f2019 rfl
                show wp _ _ 176 33 [(1, vI z1948), (0, .ref r0)] [] _ H2014 _
                have u2023 := RO_k p2020
                refine wp_of e176 c176_33 (rw_aload_n (pc' := 34) (v := .ref r0) rfl rfl rfl ?_)
                have k2024 : H2014 r0 4 = H1893 r0 4 := ((f2019 r0 4 _ g0 rfl).trans ((f1947 r0 4 _ g0 rfl).trans (f1922 r0 4 _ g0 rfl)))
                have q2025 : H2014 r0 4 = (rp : Int) := k2024.trans q1912
                refine wp_of e176 c176_34 (xg_K (pc' := 37) lf_9_166 w2018 g0 sh_42 (by decide) (by decide) rfl q2025 rfl ?_)
                have k2026 : H2014 rp 0 = H1917 rp 0 := ((f2019 rp 0 _ grp rfl).trans (f1947 rp 0 _ grp rfl))
                refine wp_of e176 c176_37 (xg_I (pc' := 40) lf_9_185 w2018 grp sh_54 (by decide) (by decide) ty_54_0 rfl rfl (fun b2027 b2028 => ?_))
                refine wp_of e176 c176_40 (rw_if_eq (p1 := 53) (p2 := 43) (by decide) rfl ⟨Int.le_trans (by decide) b2027, Int.le_trans b2028 (by decide)⟩ (fun c2029 => ?_) (fun c2029 => ?_))
                · refine wp_of e176 c176_53 (rw_aload_n (pc' := 54) (v := .ref r0) rfl rfl rfl ?_)
                  refine wp_of e176 c176_54 (rw_bipush (pc' := 56) (z := 6) rfl (by decide) ?_)
                  refine wp_of e176 c176_56 (xc_V (pc' := 59) (r := r0) (as := [vI 6]) (st := []) (lm_9_121) rfl rfl (Nat.le_of_ble_eq_true rfl) w2018 g0 sh_42 (by decide) rfl (by decide) (u_181_o (fo := 1) (po := (((xline B n q1894 d1895).2.2))) w2018 g0 ⟨by decide, by decide⟩ p2020) (fun R2030 T2031 H2032 p2033 => ?_))
                  obtain ⟨e2034, e2036, e2035, p2037⟩ := p2033
                  subst e2034
                  subst e2035
                  subst e2036
                  show wp _ _ 176 59 [(1, vI z1948), (0, .ref r0)] [] _ H2014 _
                  have u2039 := RO_k p2037
                  have o2040 : ((xpf B n f q d).1) = (1, ((xline B n q1894 d1895).2.2), q1894) := by
                    rw [← hx, xpf_u]
                    repeat first | rw [xs_0 (Int.le_antisymm (by omega -splitDisjunctions) (by omega -splitDisjunctions))] | rw [xs_1 (by omega -splitDisjunctions)] | rw [if_pos (Int.le_antisymm (by omega -splitDisjunctions) (by omega -splitDisjunctions))] | rw [if_pos (by omega -splitDisjunctions)] | rw [if_pos (And.intro (by omega -splitDisjunctions) (by omega -splitDisjunctions))] | rw [if_neg (by omega -splitDisjunctions)] | rw [xs_1 (by omega)] | rw [if_neg (by omega)] | rw [xs_0 (by omega)] | rw [if_pos (by omega)]
                    first | done | rfl | assumption | (exfalso; omega -splitDisjunctions) | (refine Prod.ext ?_ (Prod.ext ?_ ?_) <;> (try dsimp only) <;> omega) | (exfalso; omega)
                  have o2040a : (((xpf B n f q d).1)).1 = 1 := by rw [o2040]
                  have o2040b : (((xpf B n f q d).1)).2.1 = ((xline B n q1894 d1895).2.2) := by rw [o2040]
                  have o2040c : (((xpf B n f q d).1)).2.2 = q1894 := by rw [o2040]
                  have h2041 : FZ T H2014 rp N0 H0 := (FZ_fr w1946 grp f2019 rfl (FZ_fr w1921 grp f1947 rfl a1929))
                  exact wp_return e176 c176_59 rfl ⟨rfl, w2018, f2022, rfl, (Or.inr ⟨by omega, (fun a ha ga => ((f2019 a 3 _ ga rfl).trans ((f1947 a 3 _ ga rfl).trans ((a1926 a ha ga).trans (x1900 a ha ga))))), RO_eq p2037 (by omega) (by omega), h2041⟩)⟩
                · refine wp_of e176 c176_43 (rw_aload_n (pc' := 44) (v := .ref r0) rfl rfl rfl ?_)
                  refine wp_of e176 c176_44 (xg_K (pc' := 47) lf_9_166 w2018 g0 sh_42 (by decide) (by decide) rfl q2025 rfl ?_)
                  have k2042 : H2014 rp 3 = H1917 rp 3 := ((f2019 rp 3 _ grp rfl).trans (f1947 rp 3 _ grp rfl))
                  refine wp_of e176 c176_47 (xg_I (pc' := 50) lf_9_188 w2018 grp sh_54 (by decide) (by decide) ty_54_3 rfl rfl (fun b2043 b2044 => ?_))
                  refine wp_of e176 c176_50 (rw_if_ne (p1 := 59) (p2 := 53) (by decide) rfl ⟨Int.le_trans (by decide) b2043, Int.le_trans b2044 (by decide)⟩ (fun c2045 => ?_) (fun c2045 => ?_))
                  · have o2046 : ((xpf B n f q d).1) = (1, ((xline B n q1894 d1895).2.2), q1894) := by
                      rw [← hx, xpf_u]
                      repeat first | rw [xs_0 (Int.le_antisymm (by omega -splitDisjunctions) (by omega -splitDisjunctions))] | rw [xs_1 (by omega -splitDisjunctions)] | rw [if_pos (Int.le_antisymm (by omega -splitDisjunctions) (by omega -splitDisjunctions))] | rw [if_pos (by omega -splitDisjunctions)] | rw [if_pos (And.intro (by omega -splitDisjunctions) (by omega -splitDisjunctions))] | rw [if_neg (by omega -splitDisjunctions)] | rw [xs_1 (by omega)] | rw [if_neg (by omega)] | rw [xs_0 (by omega)] | rw [if_pos (by omega)]
                      first | done | rfl | assumption | (exfalso; omega -splitDisjunctions) | (refine Prod.ext ?_ (Prod.ext ?_ ?_) <;> (try dsimp only) <;> omega) | (exfalso; omega)
                    have o2046a : (((xpf B n f q d).1)).1 = 1 := by rw [o2046]
                    have o2046b : (((xpf B n f q d).1)).2.1 = ((xline B n q1894 d1895).2.2) := by rw [o2046]
                    have o2046c : (((xpf B n f q d).1)).2.2 = q1894 := by rw [o2046]
                    have h2047 : FZ T H2014 rp N0 H0 := (FZ_fr w1946 grp f2019 rfl (FZ_fr w1921 grp f1947 rfl a1929))
                    exact wp_return e176 c176_59 rfl ⟨rfl, w2018, f2022, rfl, (Or.inr ⟨by omega, (fun a ha ga => ((f2019 a 3 _ ga rfl).trans ((f1947 a 3 _ ga rfl).trans ((a1926 a ha ga).trans (x1900 a ha ga))))), RO_eq p2020 (by omega) (by omega), h2047⟩)⟩
                  · refine wp_of e176 c176_53 (rw_aload_n (pc' := 54) (v := .ref r0) rfl rfl rfl ?_)
                    refine wp_of e176 c176_54 (rw_bipush (pc' := 56) (z := 6) rfl (by decide) ?_)
                    refine wp_of e176 c176_56 (xc_V (pc' := 59) (r := r0) (as := [vI 6]) (st := []) (lm_9_121) rfl rfl (Nat.le_of_ble_eq_true rfl) w2018 g0 sh_42 (by decide) rfl (by decide) (u_181_o (fo := 1) (po := (((xline B n q1894 d1895).2.2))) w2018 g0 ⟨by decide, by decide⟩ p2020) (fun R2048 T2049 H2050 p2051 => ?_))
                    obtain ⟨e2052, e2054, e2053, p2055⟩ := p2051
                    subst e2052
                    subst e2053
                    subst e2054
                    show wp _ _ 176 59 [(1, vI z1948), (0, .ref r0)] [] _ H2014 _
                    have u2057 := RO_k p2055
                    have o2058 : ((xpf B n f q d).1) = (1, ((xline B n q1894 d1895).2.2), q1894) := by
                      rw [← hx, xpf_u]
                      repeat first | rw [xs_0 (Int.le_antisymm (by omega -splitDisjunctions) (by omega -splitDisjunctions))] | rw [xs_1 (by omega -splitDisjunctions)] | rw [if_pos (Int.le_antisymm (by omega -splitDisjunctions) (by omega -splitDisjunctions))] | rw [if_pos (by omega -splitDisjunctions)] | rw [if_pos (And.intro (by omega -splitDisjunctions) (by omega -splitDisjunctions))] | rw [if_neg (by omega -splitDisjunctions)] | rw [xs_1 (by omega)] | rw [if_neg (by omega)] | rw [xs_0 (by omega)] | rw [if_pos (by omega)]
                      first | done | rfl | assumption | (exfalso; omega -splitDisjunctions) | (refine Prod.ext ?_ (Prod.ext ?_ ?_) <;> (try dsimp only) <;> omega) | (exfalso; omega)
                    have o2058a : (((xpf B n f q d).1)).1 = 1 := by rw [o2058]
                    have o2058b : (((xpf B n f q d).1)).2.1 = ((xline B n q1894 d1895).2.2) := by rw [o2058]
                    have o2058c : (((xpf B n f q d).1)).2.2 = q1894 := by rw [o2058]
                    have h2059 : FZ T H2014 rp N0 H0 := (FZ_fr w1946 grp f2019 rfl (FZ_fr w1921 grp f1947 rfl a1929))
                    exact wp_return e176 c176_59 rfl ⟨rfl, w2018, f2022, rfl, (Or.inr ⟨by omega, (fun a ha ga => ((f2019 a 3 _ ga rfl).trans ((f1947 a 3 _ ga rfl).trans ((a1926 a ha ga).trans (x1900 a ha ga))))), RO_eq p2055 (by omega) (by omega), h2059⟩)⟩
            · exfalso
              omega
        · have f2060 := f1907.tr f1922 rfl
          have f2061 := f1898.tr f1922 rfl
          show wp _ _ 176 10 [(1, vI v1892), (0, .ref r0)] [] _ H1917 _
          have u2062 := RO_k a1932
          refine wp_of e176 c176_10 (rw_aload_n (pc' := 11) (v := .ref r0) rfl rfl rfl ?_)
          refine wp_of e176 c176_11 (rw_bipush (pc' := 13) (z := 59) rfl (by decide) ?_)
          have k2063 : H1917 r0 5 = H1893 r0 5 := (f1922 r0 5 _ g0 rfl)
          have q2064 : H1917 r0 5 = (rb : Int) := k2063.trans q1914
          refine wp_of e176 c176_13 (xc_V (pc' := 16) (r := r0) (as := [vI 59]) (st := []) (lm_9_182) rfl rfl (Nat.le_of_ble_eq_true rfl) w1921 g0 sh_42 (by decide) rfl (by decide) (u_204_o (fo := ((xline B n q1894 d1895).1)) (po := ((xline B n q1894 d1895).2.1)) w1921 g0 ⟨by decide, by decide⟩ q2064 grb a1932) (fun R2065 T2066 H2067 p2068 => ?_))
          obtain ⟨e2069, e2071, z2072, e2070, b2073, p2074⟩ := p2068
          subst e2069
          subst e2070
          subst e2071
          obtain ⟨a2075, a2076⟩ := p2074
          show wp _ _ 176 16 [(1, vI v1892), (0, .ref r0)] [vI z2072] _ H1917 _
          have u2077 := RO_k a2076
          refine wp_of e176 c176_16 (rw_istore_n (pc' := 17) (z := z2072) (L' := [(1, vI z2072), (0, .ref r0)]) rfl rfl rfl ?_)
          refine wp_of e176 c176_17 (rw_goto (p1 := 2) (by decide) ?_)
          refine wp_of e176 c176_2 (rw_iload_n (pc' := 3) (z := z2072) rfl rfl ?_)
          refine wp_of e176 c176_3 (rw_if_eq (p1 := 20) (p2 := 6) (by decide) rfl ⟨Int.le_trans (by decide) b2073.1, Int.le_trans b2073.2 (by decide)⟩ (fun c2078 => ?_) (fun c2078 => ?_))
          · refine wp_of e176 c176_20 (rw_aload_n (pc' := 21) (v := .ref r0) rfl rfl rfl ?_)
            refine wp_of e176 c176_21 (xg_I (pc' := 24) lf_9_75 w1921 g0 sh_42 (by decide) (by decide) ty_42_9 rfl rfl (fun b2079 b2080 => ?_))
            refine wp_of e176 c176_24 (rw_iconst (pc' := 25) rfl ?_)
            refine wp_of e176 c176_25 (rw_icmp_eq (p1 := 33) (p2 := 28) (by decide) rfl ⟨Int.le_trans (by decide) b2079, Int.le_trans b2080 (by decide)⟩ ⟨by decide, by decide⟩ (fun c2081 => ?_) (fun c2081 => ?_))
            · exfalso
              omega
            · refine wp_of e176 c176_28 (rw_aload_n (pc' := 29) (v := .ref r0) rfl rfl rfl ?_)
              refine wp_of e176 c176_29 (rw_iconst (pc' := 30) rfl ?_)
              refine wp_of e176 c176_30 (xc_V (pc' := 33) (r := r0) (as := [vI 1]) (st := []) (lm_9_121) rfl rfl (Nat.le_of_ble_eq_true rfl) w1921 g0 sh_42 (by decide) rfl (by decide) (u_181_o (fo := ((xline B n q1894 d1895).1)) (po := ((xline B n q1894 d1895).2.1)) w1921 g0 ⟨by decide, by decide⟩ a2076) (fun R2082 T2083 H2084 p2085 => ?_))
              obtain ⟨e2086, e2088, e2087, p2089⟩ := p2085
              subst e2086
              subst e2087
              subst e2088
              show wp _ _ 176 33 [(1, vI z2072), (0, .ref r0)] [] _ H1917 _
              have u2091 := RO_k p2089
              refine wp_of e176 c176_33 (rw_aload_n (pc' := 34) (v := .ref r0) rfl rfl rfl ?_)
              have k2092 : H1917 r0 4 = H1893 r0 4 := (f1922 r0 4 _ g0 rfl)
              have q2093 : H1917 r0 4 = (rp : Int) := k2092.trans q1912
              refine wp_of e176 c176_34 (xg_K (pc' := 37) lf_9_166 w1921 g0 sh_42 (by decide) (by decide) rfl q2093 rfl ?_)
              refine wp_of e176 c176_37 (xg_I (pc' := 40) lf_9_185 w1921 grp sh_54 (by decide) (by decide) ty_54_0 rfl rfl (fun b2094 b2095 => ?_))
              refine wp_of e176 c176_40 (rw_if_eq (p1 := 53) (p2 := 43) (by decide) rfl ⟨Int.le_trans (by decide) b2094, Int.le_trans b2095 (by decide)⟩ (fun c2096 => ?_) (fun c2096 => ?_))
              · refine wp_of e176 c176_53 (rw_aload_n (pc' := 54) (v := .ref r0) rfl rfl rfl ?_)
                refine wp_of e176 c176_54 (rw_bipush (pc' := 56) (z := 6) rfl (by decide) ?_)
                refine wp_of e176 c176_56 (xc_V (pc' := 59) (r := r0) (as := [vI 6]) (st := []) (lm_9_121) rfl rfl (Nat.le_of_ble_eq_true rfl) w1921 g0 sh_42 (by decide) rfl (by decide) (u_181_o (fo := ((xline B n q1894 d1895).1)) (po := ((xline B n q1894 d1895).2.1)) w1921 g0 ⟨by decide, by decide⟩ p2089) (fun R2097 T2098 H2099 p2100 => ?_))
                obtain ⟨e2101, e2103, e2102, p2104⟩ := p2100
                subst e2101
                subst e2102
                subst e2103
                show wp _ _ 176 59 [(1, vI z2072), (0, .ref r0)] [] _ H1917 _
                have u2106 := RO_k p2104
                have o2107 : ((xpf B n f q d).1) = ((xline B n q1894 d1895).1, (xline B n q1894 d1895).2.1, (xline B n q1894 d1895).2.2) := by
                  rw [← hx, xpf_u]
                  repeat first | rw [xs_0 (Int.le_antisymm (by omega -splitDisjunctions) (by omega -splitDisjunctions))] | rw [xs_1 (by omega -splitDisjunctions)] | rw [if_pos (Int.le_antisymm (by omega -splitDisjunctions) (by omega -splitDisjunctions))] | rw [if_pos (by omega -splitDisjunctions)] | rw [if_pos (And.intro (by omega -splitDisjunctions) (by omega -splitDisjunctions))] | rw [if_neg (by omega -splitDisjunctions)] | rw [xs_1 (by omega)] | rw [if_neg (by omega)] | rw [xs_0 (by omega)] | rw [if_pos (by omega)]
                  first | done | rfl | assumption | (exfalso; omega -splitDisjunctions) | (refine Prod.ext ?_ (Prod.ext ?_ ?_) <;> (try dsimp only) <;> omega) | (exfalso; omega)
                have o2107a : (((xpf B n f q d).1)).1 = (xline B n q1894 d1895).1 := by rw [o2107]
                have o2107b : (((xpf B n f q d).1)).2.1 = (xline B n q1894 d1895).2.1 := by rw [o2107]
                have o2107c : (((xpf B n f q d).1)).2.2 = (xline B n q1894 d1895).2.2 := by rw [o2107]
                exact wp_return e176 c176_59 rfl ⟨rfl, w1921, f2060, rfl, (Or.inr ⟨by omega, (fun a ha ga => ((a1931 a ha ga).trans (x1900 a ha ga))), RO_eq p2104 (by omega) (by omega), a1933⟩)⟩
              · refine wp_of e176 c176_43 (rw_aload_n (pc' := 44) (v := .ref r0) rfl rfl rfl ?_)
                refine wp_of e176 c176_44 (xg_K (pc' := 47) lf_9_166 w1921 g0 sh_42 (by decide) (by decide) rfl q2093 rfl ?_)
                refine wp_of e176 c176_47 (xg_I (pc' := 50) lf_9_188 w1921 grp sh_54 (by decide) (by decide) ty_54_3 rfl rfl (fun b2108 b2109 => ?_))
                refine wp_of e176 c176_50 (rw_if_ne (p1 := 59) (p2 := 53) (by decide) rfl ⟨Int.le_trans (by decide) b2108, Int.le_trans b2109 (by decide)⟩ (fun c2110 => ?_) (fun c2110 => ?_))
                · have o2111 : ((xpf B n f q d).1) = ((xline B n q1894 d1895).1, (xline B n q1894 d1895).2.1, (xline B n q1894 d1895).2.2) := by
                    rw [← hx, xpf_u]
                    repeat first | rw [xs_0 (Int.le_antisymm (by omega -splitDisjunctions) (by omega -splitDisjunctions))] | rw [xs_1 (by omega -splitDisjunctions)] | rw [if_pos (Int.le_antisymm (by omega -splitDisjunctions) (by omega -splitDisjunctions))] | rw [if_pos (by omega -splitDisjunctions)] | rw [if_pos (And.intro (by omega -splitDisjunctions) (by omega -splitDisjunctions))] | rw [if_neg (by omega -splitDisjunctions)] | rw [xs_1 (by omega)] | rw [if_neg (by omega)] | rw [xs_0 (by omega)] | rw [if_pos (by omega)]
                    first | done | rfl | assumption | (exfalso; omega -splitDisjunctions) | (refine Prod.ext ?_ (Prod.ext ?_ ?_) <;> (try dsimp only) <;> omega) | (exfalso; omega)
                  have o2111a : (((xpf B n f q d).1)).1 = (xline B n q1894 d1895).1 := by rw [o2111]
                  have o2111b : (((xpf B n f q d).1)).2.1 = (xline B n q1894 d1895).2.1 := by rw [o2111]
                  have o2111c : (((xpf B n f q d).1)).2.2 = (xline B n q1894 d1895).2.2 := by rw [o2111]
                  exact wp_return e176 c176_59 rfl ⟨rfl, w1921, f2060, rfl, (Or.inr ⟨by omega, (fun a ha ga => ((a1931 a ha ga).trans (x1900 a ha ga))), RO_eq p2089 (by omega) (by omega), a1933⟩)⟩
                · refine wp_of e176 c176_53 (rw_aload_n (pc' := 54) (v := .ref r0) rfl rfl rfl ?_)
                  refine wp_of e176 c176_54 (rw_bipush (pc' := 56) (z := 6) rfl (by decide) ?_)
                  refine wp_of e176 c176_56 (xc_V (pc' := 59) (r := r0) (as := [vI 6]) (st := []) (lm_9_121) rfl rfl (Nat.le_of_ble_eq_true rfl) w1921 g0 sh_42 (by decide) rfl (by decide) (u_181_o (fo := ((xline B n q1894 d1895).1)) (po := ((xline B n q1894 d1895).2.1)) w1921 g0 ⟨by decide, by decide⟩ p2089) (fun R2112 T2113 H2114 p2115 => ?_))
                  obtain ⟨e2116, e2118, e2117, p2119⟩ := p2115
                  subst e2116
                  subst e2117
                  subst e2118
                  show wp _ _ 176 59 [(1, vI z2072), (0, .ref r0)] [] _ H1917 _
                  have u2121 := RO_k p2119
                  have o2122 : ((xpf B n f q d).1) = ((xline B n q1894 d1895).1, (xline B n q1894 d1895).2.1, (xline B n q1894 d1895).2.2) := by
                    rw [← hx, xpf_u]
                    repeat first | rw [xs_0 (Int.le_antisymm (by omega -splitDisjunctions) (by omega -splitDisjunctions))] | rw [xs_1 (by omega -splitDisjunctions)] | rw [if_pos (Int.le_antisymm (by omega -splitDisjunctions) (by omega -splitDisjunctions))] | rw [if_pos (by omega -splitDisjunctions)] | rw [if_pos (And.intro (by omega -splitDisjunctions) (by omega -splitDisjunctions))] | rw [if_neg (by omega -splitDisjunctions)] | rw [xs_1 (by omega)] | rw [if_neg (by omega)] | rw [xs_0 (by omega)] | rw [if_pos (by omega)]
                    first | done | rfl | assumption | (exfalso; omega -splitDisjunctions) | (refine Prod.ext ?_ (Prod.ext ?_ ?_) <;> (try dsimp only) <;> omega) | (exfalso; omega)
                  have o2122a : (((xpf B n f q d).1)).1 = (xline B n q1894 d1895).1 := by rw [o2122]
                  have o2122b : (((xpf B n f q d).1)).2.1 = (xline B n q1894 d1895).2.1 := by rw [o2122]
                  have o2122c : (((xpf B n f q d).1)).2.2 = (xline B n q1894 d1895).2.2 := by rw [o2122]
                  exact wp_return e176 c176_59 rfl ⟨rfl, w1921, f2060, rfl, (Or.inr ⟨by omega, (fun a ha ga => ((a1931 a ha ga).trans (x1900 a ha ga))), RO_eq p2119 (by omega) (by omega), a1933⟩)⟩
          · exfalso
            omega
  exact wp_lc (ks := [1, 0]) (wl_c rfl (wl_c rfl wl_n)) rfl (by decide) (lp1889 _ 1 H q d f hW wfr.rf ⟨by decide, by decide⟩ (fun _ _ _ => rfl) hRC_r0 hDM_rp hFZ_rp (by omega) (rfl) rfl)
/-! StrikeAwakeModel.has(II)Z  -/
abbrev uq_205 (a0 : Int) (a1 : Int) (T : wq_T) (H : wq_H) : Option Value → wq_T → wq_H → Prop := fun r T' H' => T = T' ∧ H = H' ∧ ∃ z : Int, some (vI z) = r ∧ (0 ≤ z ∧ z ≤ 1) ∧ (((z = 1) ∧ (wq_and (wq_shr a0 a1) 1 = 1)) ∨ ((z = 0) ∧ (wq_and (wq_shr a0 a1) 1 ≠ 1)))
set_option maxHeartbeats 4000000 in
theorem u_205 {kt : Nat → Option mc_E} {T : wq_T} {H : wq_H} {a0 : Int} {a1 : Int} (hW : WT T H) (i0 : (-2147483648) ≤ a0 ∧ a0 ≤ 2147483647) (i1 : (-2147483648) ≤ a1 ∧ a1 ≤ 2147483647) : wpc kt 1 205 [vI a0, vI a1] T H (uq_205 a0 a1 T H) := by
  refine wp_enter e205 (Nat.le_of_ble_eq_true rfl) rfl ?_
  show wp _ _ 205 0 [(0, vI a0), (1, vI a1)] [] _ H _
  refine wp_of e205 c205_0 (rw_iload_n (pc' := 1) (z := a0) rfl rfl ?_)
  refine wp_of e205 c205_1 (rw_iload_n (pc' := 2) (z := a1) rfl rfl ?_)
  refine wp_of e205 c205_2 (rw_ishr (pc' := 3) rfl ?_)
  obtain ⟨v1006, e1007⟩ : ∃ x : Int, x = wq_shr a0 a1 := ⟨_, rfl⟩
  rw [← e1007]
  have b1008 : -2147483648 ≤ v1006 ∧ v1006 ≤ 2147483647 := by
    rw [e1007]
    exact wI_shr _ _
  refine wp_of e205 c205_3 (rw_iconst (pc' := 4) rfl ?_)
  refine wp_of e205 c205_4 (rw_iand (pc' := 5) rfl ?_)
  obtain ⟨v1009, e1010⟩ : ∃ x : Int, x = wq_and v1006 1 := ⟨_, rfl⟩
  rw [← e1010]
  have b1011 : 0 ≤ v1009 ∧ v1009 ≤ 1 := by
    rw [e1010]
    exact wq_and_b _ (by omega) (by omega)
  refine wp_of e205 c205_5 (rw_iconst (pc' := 6) rfl ?_)
  refine wp_of e205 c205_6 (rw_icmp_ne (p1 := 13) (p2 := 9) (by decide) rfl ⟨Int.le_trans (by decide) b1011.1, Int.le_trans b1011.2 (by decide)⟩ ⟨by decide, by decide⟩ (fun c1012 => ?_) (fun c1012 => ?_))
  · refine wp_of e205 c205_13 (rw_iconst (pc' := 14) rfl ?_)
    exact wp_zreturn e205 c205_14 rfl (by omega) ⟨rfl, rfl, 0, rfl, ⟨by decide, by decide⟩, (Or.inr ⟨by omega, by subst_vars; omega⟩)⟩
  · refine wp_of e205 c205_9 (rw_iconst (pc' := 10) rfl ?_)
    refine wp_of e205 c205_10 (rw_goto (p1 := 14) (by decide) ?_)
    exact wp_zreturn e205 c205_14 rfl (by omega) ⟨rfl, rfl, 1, rfl, ⟨by decide, by decide⟩, (Or.inl ⟨by omega, by subst_vars; omega⟩)⟩
/-! StrikeAwakeModel.struckHours()I  -/
abbrev uq_207 (r0 : Nat) (f : Nat → Int) (T : wq_T) (H : wq_H) : Option Value → wq_T → wq_H → Prop := fun r T' H' => T = T' ∧ H = H' ∧ ∃ z : Int, some (vI z) = r ∧ (0 ≤ z ∧ z ≤ 16777215) ∧ (((z = xob (fun h => decide (f h > 0)) 24)))
set_option maxHeartbeats 4000000 in
theorem u_207 {kt : Nat → Option mc_E} {T : wq_T} {H : wq_H} {r0 : Nat} {f : Nat → Int} (hW : WT T H) (g0 : T.2.2.2 r0 = some 42) (hMN20_r0 : MN20 T H r0 24 f) : wpc kt 1 207 [.ref r0] T H (uq_207 r0 f T H) := by
  refine wp_enter e207 (Nat.le_of_ble_eq_true rfl) rfl ?_
  show wp _ _ 207 0 [(0, .ref r0)] [] _ H _
  refine wp_of e207 c207_0 (rw_iconst (pc' := 1) rfl ?_)
  refine wp_of e207 c207_1 (rw_istore_n (pc' := 2) (z := 0) (L' := [(1, vI 0), (0, .ref r0)]) rfl rfl rfl ?_)
  refine wp_of e207 c207_2 (rw_iconst (pc' := 3) rfl ?_)
  refine wp_of e207 c207_3 (rw_istore_n (pc' := 4) (z := 0) (L' := [(2, vI 0), (1, vI 0), (0, .ref r0)]) rfl rfl rfl ?_)
  have lp1223 : ∀ (n1224 : Nat) (v1226 : Int) (v1227 : Int), (0 ≤ v1226 ∧ v1226 ≤ 24) → (0 ≤ v1227 ∧ v1227 ≤ 16777215) → (v1227 = xob (fun h => decide (f h > 0)) (v1226).toNat) → (24 - v1226).toNat = n1224 → wp kt 0 207 4 [(2, vI v1226), (1, vI v1227), (0, .ref r0)] [] T H (uq_207 r0 f T H) := by
    intro n1224
    induction n1224 using Nat.strongRecOn with
    | _ n1224 ih1225 =>
      intro v1226 v1227 b1230 b1231 x1232 m1233
      refine wp_of e207 c207_4 (rw_iload_n (pc' := 5) (z := v1226) rfl rfl ?_)
      refine wp_of e207 c207_5 (rw_bipush (pc' := 7) (z := 24) rfl (by decide) ?_)
      refine wp_of e207 c207_7 (rw_icmp_ge (p1 := 35) (p2 := 10) (by decide) rfl ⟨Int.le_trans (by decide) b1230.1, Int.le_trans b1230.2 (by decide)⟩ ⟨by decide, by decide⟩ (fun c1234 => ?_) (fun c1234 => ?_))
      · have _z : v1227 = xob (fun h => decide (f h > 0)) 24 := by
          rw [show (24 : Nat) = (v1226).toNat by omega]
          assumption
        refine wp_of e207 c207_35 (rw_iload_n (pc' := 36) (z := v1227) rfl rfl ?_)
        exact wp_ireturn e207 c207_36 rfl ⟨rfl, rfl, v1227, rfl, ⟨b1231.1, b1231.2⟩, (_z)⟩
      · refine wp_of e207 c207_10 (rw_iload_n (pc' := 11) (z := v1227) rfl rfl ?_)
        refine wp_of e207 c207_11 (rw_aload_n (pc' := 12) (v := .ref r0) rfl rfl rfl ?_)
        refine wp_of e207 c207_12 (xg_R (pc' := 15) lf_9_17 hW g0 sh_42 (by decide) (by decide) ty_42_20 rfl rfl (fun r1235 q1236 g1237 => ?_))
        refine wp_of e207 c207_15 (rw_iload_n (pc' := 16) (z := v1226) rfl rfl ?_)
        refine wp_of e207 c207_16 (xa_I (so := 0) (pc' := 17) hW g1237 sh_44 (by decide) (ty_44 _) (b1230.1) (by omega) rfl (fun b1238 b1239 => ?_))
        have _s := DA_at hMN20_r0 q1236 (k := (v1226.toNat)) (by omega)
        refine wp_of e207 c207_17 (rw_if_le (p1 := 26) (p2 := 20) (by decide) rfl ⟨b1238, b1239⟩ (fun c1240 => ?_) (fun c1240 => ?_))
        · refine wp_of e207 c207_26 (rw_iconst (pc' := 27) rfl ?_)
          refine wp_of e207 c207_27 (rw_ior (pc' := 28) rfl ?_)
          obtain ⟨v1241, e1242⟩ : ∃ x : Int, x = wq_or v1227 0 := ⟨_, rfl⟩
          rw [← e1242]
          have b1243 : 0 ≤ v1241 ∧ v1241 ≤ 16777215 := by
            rw [e1242]
            exact wq_or_24 ⟨by omega, by omega⟩ ⟨by omega, by omega⟩
          refine wp_of e207 c207_28 (rw_istore_n (pc' := 29) (z := v1241) (L' := [(1, vI v1241), (2, vI v1226), (0, .ref r0)]) rfl rfl rfl ?_)
          have _q : v1241 = xob (fun h => decide (f h > 0)) (v1226 + 1).toNat := by
            rw [xob_n (by omega) (decide_eq_false (by omega)), ← ‹v1227 = xob (fun h => decide (f h > 0)) (v1226).toNat›, e1242]
            exact wq_or_0 ⟨by omega, by omega⟩
          refine wp_of e207 c207_29 (rw_iinc (pc' := 32) (z := v1226) (L' := [(2, vI (v1226 + 1)), (1, vI v1241), (0, .ref r0)]) rfl rfl rfl rfl ?_)
          refine wp_of e207 c207_32 (rw_goto (p1 := 4) (by decide) ?_)
          exact wp_lc (ks := [2, 1, 0]) (wl_c rfl (wl_c rfl (wl_c rfl wl_n))) rfl (by decide) (ih1225 _ (by omega) (v1226 + 1) v1241 ⟨by omega, by omega⟩ ⟨b1243.1, b1243.2⟩ (by omega) rfl)
        · refine wp_of e207 c207_20 (rw_iconst (pc' := 21) rfl ?_)
          refine wp_of e207 c207_21 (rw_iload_n (pc' := 22) (z := v1226) rfl rfl ?_)
          refine wp_of e207 c207_22 (rw_ishl (pc' := 23) rfl ?_)
          obtain ⟨v1244, e1245⟩ : ∃ x : Int, x = wq_shl 1 v1226 := ⟨_, rfl⟩
          rw [← e1245]
          have b1246 : 1 ≤ v1244 ∧ v1244 ≤ 8388608 := by
            rw [e1245]
            exact wq_shl1_24 ⟨by omega, by omega⟩
          refine wp_of e207 c207_23 (rw_goto (p1 := 27) (by decide) ?_)
          refine wp_of e207 c207_27 (rw_ior (pc' := 28) rfl ?_)
          obtain ⟨v1247, e1248⟩ : ∃ x : Int, x = wq_or v1227 v1244 := ⟨_, rfl⟩
          rw [← e1248]
          have b1249 : 0 ≤ v1247 ∧ v1247 ≤ 16777215 := by
            rw [e1248]
            exact wq_or_24 ⟨by omega, by omega⟩ ⟨by omega, by omega⟩
          refine wp_of e207 c207_28 (rw_istore_n (pc' := 29) (z := v1247) (L' := [(1, vI v1247), (2, vI v1226), (0, .ref r0)]) rfl rfl rfl ?_)
          have _q : v1247 = xob (fun h => decide (f h > 0)) (v1226 + 1).toNat := by
            rw [xob_s (by omega) (decide_eq_true (by omega)), ← ‹v1227 = xob (fun h => decide (f h > 0)) (v1226).toNat›, e1248, e1245]
          refine wp_of e207 c207_29 (rw_iinc (pc' := 32) (z := v1226) (L' := [(2, vI (v1226 + 1)), (1, vI v1247), (0, .ref r0)]) rfl rfl rfl rfl ?_)
          refine wp_of e207 c207_32 (rw_goto (p1 := 4) (by decide) ?_)
          exact wp_lc (ks := [2, 1, 0]) (wl_c rfl (wl_c rfl (wl_c rfl wl_n))) rfl (by decide) (ih1225 _ (by omega) (v1226 + 1) v1247 ⟨by omega, by omega⟩ ⟨b1249.1, b1249.2⟩ (by omega) rfl)
  have : (0 : Int) = xob (fun h => decide (f h > 0)) (0 : Int).toNat := rfl
  exact wp_lc (ks := [2, 1, 0]) (wl_c rfl (wl_c rfl (wl_c rfl wl_n))) rfl (by decide) (lp1223 _ 0 0 ⟨by decide, by decide⟩ ⟨by decide, by decide⟩ (by omega) rfl)
/-! StrikeAwakeModel.lay(IIIII)V  -/
abbrev uq_208 (r0 : Nat) (a1 : Int) (a2 : Int) (a3 : Int) (a4 : Int) (a5 : Int) (d : xD) (Q : Nat → List (Int × Int)) (k : Nat) (u : Int) (y1 : Int) (y2 : Int) (T : wq_T) (H : wq_H) : Option Value → wq_T → wq_H → Prop := fun r T' H' => T = T' ∧ WT T H' ∧ wfr [(48, 999), (49, 999), (46, 999), (47, 999), (45, 999)] T H H' ∧ none = r ∧ ((MN21 T H' r0 u (lln (lup Q k (Q k ++ [(y1, y2)]))) ∧ LB22 T H' r0 yb (lup Q k (Q k ++ [(y1, y2)])) ∧ LB23 T H' r0 yl (lup Q k (Q k ++ [(y1, y2)])) ∧ LB24 T H' r0 (xas d) (lup Q k (Q k ++ [(y1, y2)])) ∧ LB25 T H' r0 (xwk d) (lup Q k (Q k ++ [(y1, y2)]))))
set_option maxHeartbeats 4000000 in
theorem u_208 {kt : Nat → Option mc_E} {T : wq_T} {H : wq_H} {r0 : Nat} {a1 : Int} {a2 : Int} {a3 : Int} {a4 : Int} {a5 : Int} {d : xD} {Q : Nat → List (Int × Int)} {k : Nat} {u : Int} {y1 : Int} {y2 : Int} (hW : WT T H) (g0 : T.2.2.2 r0 = some 42) (i1 : 0 ≤ a1 ∧ a1 ≤ 5) (i2 : 0 ≤ a2 ∧ a2 ≤ 30) (i3 : 0 ≤ a3 ∧ a3 ≤ 16) (i4 : (-2147483648) ≤ a4 ∧ a4 ≤ 2147483647) (i5 : (-2147483648) ≤ a5 ∧ a5 ≤ 2147483647) (p0 : a1 = k) (p1 : a2 = y1) (p2 : a3 = y2) (p3 : ((Q k).length : Int) ≤ 39) (p4 : a4 = xas d k (y1, y2)) (p5 : a5 = xwk d k (y1, y2)) (p6 : (k : Int) < u) (hMN21_r0 : MN21 T H r0 u (lln Q)) (hLB22_r0 : LB22 T H r0 yb Q) (hLB23_r0 : LB23 T H r0 yl Q) (hLB24_r0 : LB24 T H r0 (xas d) Q) (hLB25_r0 : LB25 T H r0 (xwk d) Q) : wpc kt 1 208 [.ref r0, vI a1, vI a2, vI a3, vI a4, vI a5] T H (uq_208 r0 a1 a2 a3 a4 a5 d Q k u y1 y2 T H) := by
  refine wp_enter e208 (Nat.le_of_ble_eq_true rfl) rfl ?_
  have f0 : wfr [(48, 999), (49, 999), (46, 999), (47, 999), (45, 999)] T H H := wfr.rf
  show wp _ _ 208 0 [(0, .ref r0), (1, vI a1), (2, vI a2), (3, vI a3), (4, vI a4), (5, vI a5)] [] _ H _
  have _l := @lln_k k Q (y1, y2)
  have _m : lln Q (a1).toNat = (Q k).length := by
    rw [show (a1).toNat = k by omega]
    rfl
  refine wp_of e208 c208_0 (rw_bipush (pc' := 2) (z := 40) rfl (by decide) ?_)
  refine wp_of e208 c208_2 (rw_iload_n (pc' := 3) (z := a1) rfl rfl ?_)
  refine wp_of e208 c208_3 (rw_imul (pc' := 4) rfl ?_)
  refine wp_of e208 c208_4 (rw_aload_n (pc' := 5) (v := .ref r0) rfl rfl rfl ?_)
  refine wp_of e208 c208_5 (xg_R (pc' := 8) lf_9_21 hW g0 sh_42 (by decide) (by decide) ty_42_21 rfl rfl (fun r1043 q1044 g1045 => ?_))
  refine wp_of e208 c208_8 (rw_iload_n (pc' := 9) (z := a1) rfl rfl ?_)
  refine wp_of e208 c208_9 (xa_I (so := 0) (pc' := 10) hW g1045 sh_45 (by decide) (ty_45 _) (i1.1) (Int.lt_of_le_of_lt i1.2 (by decide)) rfl (fun b1046 b1047 => ?_))
  have _n := DA_at hMN21_r0 q1044 (k := (a1.toNat)) (by omega)
  refine wp_of e208 c208_10 (rw_iadd (pc' := 11) rfl ?_)
  refine wp_of e208 c208_11 (rw_istore (pc' := 13) (z := (40 * a1) + (H r1043 (a1.toNat))) (L' := [(6, vI ((40 * a1) + (H r1043 (a1.toNat)))), (0, .ref r0), (1, vI a1), (2, vI a2), (3, vI a3), (4, vI a4), (5, vI a5)]) rfl rfl rfl ?_)
  refine wp_of e208 c208_13 (rw_aload_n (pc' := 14) (v := .ref r0) rfl rfl rfl ?_)
  refine wp_of e208 c208_14 (xg_R (pc' := 17) lf_9_24 hW g0 sh_42 (by decide) (by decide) ty_42_22 rfl rfl (fun r1048 q1049 g1050 => ?_))
  refine wp_of e208 c208_17 (rw_iload (pc' := 19) (z := (40 * a1) + (H r1043 (a1.toNat))) rfl rfl ?_)
  refine wp_of e208 c208_19 (rw_iload_n (pc' := 20) (z := a2) rfl rfl ?_)
  refine wp_of e208 c208_20 (xs_I (pc' := 21) hW g1050 (by decide) sh_46 (by decide) (ty_46 _) (i2.1) (i2.2) ⟨Int.le_trans (by decide) i2.1, Int.le_trans i2.2 (by decide)⟩ (by omega) (by omega) rfl (fun H1051 e1052 w1053 => ?_))
  have f1054 := f0.put' e1052 g1050 rfl
  have h1055 : LB22 T H1051 r0 yb (lup Q k (Q k ++ [(y1, y2)])) := LB_put (k := k) (x := (y1, y2)) hLB22_r0 q1049 g0 g1050 (by decide) e1052 (by omega) (by omega) (by show _ = y1; omega)
  refine wp_of e208 c208_21 (rw_aload_n (pc' := 22) (v := .ref r0) rfl rfl rfl ?_)
  refine wp_of e208 c208_22 (xg_R (pc' := 25) lf_9_27 w1053 g0 sh_42 (by decide) (by decide) ty_42_23 rfl rfl (fun r1056 q1057 g1058 => ?_))
  refine wp_of e208 c208_25 (rw_iload (pc' := 27) (z := (40 * a1) + (H r1043 (a1.toNat))) rfl rfl ?_)
  refine wp_of e208 c208_27 (rw_iload_n (pc' := 28) (z := a3) rfl rfl ?_)
  have h1059 : LB23 T H1051 r0 yl Q := (LB23_fr hW g0 ((wfr.rf (l := [(46, 999)])).put' e1052 g1050 rfl) rfl hLB23_r0)
  refine wp_of e208 c208_28 (xs_I (pc' := 29) w1053 g1058 (by decide) sh_47 (by decide) (ty_47 _) (i3.1) (i3.2) ⟨Int.le_trans (by decide) i3.1, Int.le_trans i3.2 (by decide)⟩ (by omega) (by omega) rfl (fun H1060 e1061 w1062 => ?_))
  have f1063 := f1054.put' e1061 g1058 rfl
  have h1064 : LB23 T H1060 r0 yl (lup Q k (Q k ++ [(y1, y2)])) := LB_put (k := k) (x := (y1, y2)) h1059 q1057 g0 g1058 (by decide) e1061 (by omega) (by omega) (by show _ = y2; omega)
  refine wp_of e208 c208_29 (rw_aload_n (pc' := 30) (v := .ref r0) rfl rfl rfl ?_)
  refine wp_of e208 c208_30 (xg_R (pc' := 33) lf_9_30 w1062 g0 sh_42 (by decide) (by decide) ty_42_24 rfl rfl (fun r1065 q1066 g1067 => ?_))
  refine wp_of e208 c208_33 (rw_iload (pc' := 35) (z := (40 * a1) + (H r1043 (a1.toNat))) rfl rfl ?_)
  refine wp_of e208 c208_35 (rw_iload (pc' := 37) (z := a4) rfl rfl ?_)
  have h1068 : LB24 T H1060 r0 (xas d) Q := (LB24_fr w1053 g0 ((wfr.rf (l := [(47, 999)])).put' e1061 g1058 rfl) rfl (LB24_fr hW g0 ((wfr.rf (l := [(46, 999)])).put' e1052 g1050 rfl) rfl hLB24_r0))
  refine wp_of e208 c208_37 (xs_I (pc' := 38) w1062 g1067 (by decide) sh_48 (by decide) (ty_48 _) (i4.1) (i4.2) ⟨i4.1, i4.2⟩ (by omega) (by omega) rfl (fun H1069 e1070 w1071 => ?_))
  have f1072 := f1063.put' e1070 g1067 rfl
  have h1073 : LB24 T H1069 r0 (xas d) (lup Q k (Q k ++ [(y1, y2)])) := LB_put (k := k) (x := (y1, y2)) h1068 q1066 g0 g1067 (by decide) e1070 (by omega) (by omega) (by omega)
  refine wp_of e208 c208_38 (rw_aload_n (pc' := 39) (v := .ref r0) rfl rfl rfl ?_)
  refine wp_of e208 c208_39 (xg_R (pc' := 42) lf_9_33 w1071 g0 sh_42 (by decide) (by decide) ty_42_25 rfl rfl (fun r1074 q1075 g1076 => ?_))
  refine wp_of e208 c208_42 (rw_iload (pc' := 44) (z := (40 * a1) + (H r1043 (a1.toNat))) rfl rfl ?_)
  refine wp_of e208 c208_44 (rw_iload (pc' := 46) (z := a5) rfl rfl ?_)
  have h1077 : LB25 T H1069 r0 (xwk d) Q := (LB25_fr w1062 g0 ((wfr.rf (l := [(48, 999)])).put' e1070 g1067 rfl) rfl (LB25_fr w1053 g0 ((wfr.rf (l := [(47, 999)])).put' e1061 g1058 rfl) rfl (LB25_fr hW g0 ((wfr.rf (l := [(46, 999)])).put' e1052 g1050 rfl) rfl hLB25_r0)))
  refine wp_of e208 c208_46 (xs_I (pc' := 47) w1071 g1076 (by decide) sh_49 (by decide) (ty_49 _) (i5.1) (i5.2) ⟨i5.1, i5.2⟩ (by omega) (by omega) rfl (fun H1078 e1079 w1080 => ?_))
  have f1081 := f1072.put' e1079 g1076 rfl
  have h1082 : LB25 T H1078 r0 (xwk d) (lup Q k (Q k ++ [(y1, y2)])) := LB_put (k := k) (x := (y1, y2)) h1077 q1075 g0 g1076 (by decide) e1079 (by omega) (by omega) (by omega)
  refine wp_of e208 c208_47 (rw_aload_n (pc' := 48) (v := .ref r0) rfl rfl rfl ?_)
  have k1083 : H1078 r0 21 = H r0 21 := ((wq_u_t e1079 g1076 g0 rfl 21).trans ((wq_u_t e1070 g1067 g0 rfl 21).trans ((wq_u_t e1061 g1058 g0 rfl 21).trans (wq_u_t e1052 g1050 g0 rfl 21))))
  have q1084 : H1078 r0 21 = (r1043 : Int) := k1083.trans q1044
  refine wp_of e208 c208_48 (xg_K (pc' := 51) lf_9_21 w1080 g0 sh_42 (by decide) (by decide) rfl q1084 rfl ?_)
  refine wp_of e208 c208_51 (rw_iload_n (pc' := 52) (z := a1) rfl rfl ?_)
  refine wp_of e208 c208_52 (rw_dup2 (pc' := 53) rfl rfl rfl ?_)
  have k1085 : H1078 r1043 (a1.toNat) = H r1043 (a1.toNat) := ((wq_u_t e1079 g1076 g1045 rfl (a1.toNat)).trans ((wq_u_t e1070 g1067 g1045 rfl (a1.toNat)).trans ((wq_u_t e1061 g1058 g1045 rfl (a1.toNat)).trans (wq_u_t e1052 g1050 g1045 rfl (a1.toNat)))))
  refine wp_of e208 c208_53 (xa_I (so := 0) (pc' := 54) w1080 g1045 sh_45 (by decide) (ty_45 _) (i1.1) (Int.lt_of_le_of_lt i1.2 (by decide)) rfl (fun b1086 b1087 => ?_))
  have h1088 : MN21 T H1078 r0 u (lln Q) := (MN21_fr w1071 g0 ((wfr.rf (l := [(49, 999)])).put' e1079 g1076 rfl) rfl (MN21_fr w1062 g0 ((wfr.rf (l := [(48, 999)])).put' e1070 g1067 rfl) rfl (MN21_fr w1053 g0 ((wfr.rf (l := [(47, 999)])).put' e1061 g1058 rfl) rfl (MN21_fr hW g0 ((wfr.rf (l := [(46, 999)])).put' e1052 g1050 rfl) rfl hMN21_r0))))
  have _n := DA_at h1088 q1084 (k := (a1.toNat)) (by omega)
  refine wp_of e208 c208_54 (rw_iconst (pc' := 55) rfl ?_)
  refine wp_of e208 c208_55 (rw_iadd (pc' := 56) rfl ?_)
  refine wp_of e208 c208_56 (xs_I (pc' := 57) w1080 g1045 (by decide) sh_45 (by decide) (ty_45 _) (by omega) (by omega) ⟨by omega, by omega⟩ (i1.1) (Int.lt_of_le_of_lt i1.2 (by decide)) rfl (fun H1089 e1090 w1091 => ?_))
  have f1092 := f1081.put' e1090 g1045 rfl
  have h1093 : MN21 T H1089 r0 u (lln (lup Q k (Q k ++ [(y1, y2)]))) := DAo_set h1088 q1084 g0 g1045 (by decide) e1090 ((congrArg (lln (lup Q k (Q k ++ [(y1, y2)]))) (show (a1.toNat) = k by omega)).trans (by rw [_l.1]; omega)) (fun j hj => _l.2 j (by omega))
  have h1094 : LB22 T H1089 r0 yb (lup Q k (Q k ++ [(y1, y2)])) := (LB22_fr w1080 g0 ((wfr.rf (l := [(45, 999)])).put' e1090 g1045 rfl) rfl (LB22_fr w1071 g0 ((wfr.rf (l := [(49, 999)])).put' e1079 g1076 rfl) rfl (LB22_fr w1062 g0 ((wfr.rf (l := [(48, 999)])).put' e1070 g1067 rfl) rfl (LB22_fr w1053 g0 ((wfr.rf (l := [(47, 999)])).put' e1061 g1058 rfl) rfl h1055))))
  have h1095 : LB23 T H1089 r0 yl (lup Q k (Q k ++ [(y1, y2)])) := (LB23_fr w1080 g0 ((wfr.rf (l := [(45, 999)])).put' e1090 g1045 rfl) rfl (LB23_fr w1071 g0 ((wfr.rf (l := [(49, 999)])).put' e1079 g1076 rfl) rfl (LB23_fr w1062 g0 ((wfr.rf (l := [(48, 999)])).put' e1070 g1067 rfl) rfl h1064)))
  have h1096 : LB24 T H1089 r0 (xas d) (lup Q k (Q k ++ [(y1, y2)])) := (LB24_fr w1080 g0 ((wfr.rf (l := [(45, 999)])).put' e1090 g1045 rfl) rfl (LB24_fr w1071 g0 ((wfr.rf (l := [(49, 999)])).put' e1079 g1076 rfl) rfl h1073))
  have h1097 : LB25 T H1089 r0 (xwk d) (lup Q k (Q k ++ [(y1, y2)])) := (LB25_fr w1080 g0 ((wfr.rf (l := [(45, 999)])).put' e1090 g1045 rfl) rfl h1082)
  exact wp_return e208 c208_57 rfl ⟨rfl, w1091, f1092, rfl, ⟨h1093, h1094, h1095, h1096, h1097⟩⟩
/-! StrikeAwakeModel.lays()V  -/
abbrev uq_206 (r0 : Nat) (pp : Nat) (dm : xD) (T : wq_T) (H : wq_H) : Option Value → wq_T → wq_H → Prop := fun r T' H' => T = T' ∧ WT T H' ∧ wfr [(48, 999), (49, 999), (46, 999), (47, 999), (45, 999)] T H H' ∧ none = r ∧ ((MN21 T H' r0 (dm 0 3) (lln (xsp (xset dm))) ∧ LB22 T H' r0 yb (xsq (xset dm)) ∧ LB23 T H' r0 yl (xsq (xset dm)) ∧ LB24 T H' r0 (xas (xset dm)) (xsq (xset dm)) ∧ LB25 T H' r0 (xwk (xset dm)) (xsq (xset dm))))
set_option maxHeartbeats 4000000 in
theorem u_206 {kt : Nat → Option mc_E} {T : wq_T} {H : wq_H} {r0 : Nat} {pp : Nat} {dm : xD} (hW : WT T H) (g0 : T.2.2.2 r0 = some 42) (qpp : H r0 3 = (pp : Int)) (gpp : T.2.2.2 pp = some 54) (p0 : H r0 19 = xal dm) (hDMQ_pp : DMQ T H pp dm) (hMN20_r0 : MN20 T H r0 24 (xset dm 13)) : wpc kt 2 206 [.ref r0] T H (uq_206 r0 pp dm T H) := by
  refine wp_enter e206 (Nat.le_of_ble_eq_true rfl) rfl ?_
  have f0 : wfr [(48, 999), (49, 999), (46, 999), (47, 999), (45, 999)] T H H := wfr.rf
  show wp _ _ 206 0 [(0, .ref r0)] [] _ H _
  have u20206 := DMQ_k hDMQ_pp
  have b20207 : (-2147483648) ≤ H r0 19 ∧ H r0 19 ≤ 2147483647 := hW.box g0 (n := 33) rfl (by decide) rfl
  have b20208 : 0 ≤ H pp 3 ∧ H pp 3 ≤ 6 := hW.box gpp (n := 27) rfl (by decide) rfl
  have h20209 : MA9 T H pp (dm 1) := hDMQ_pp.2.2.1
  have h20210 : MA10 T H pp (dm 2) := hDMQ_pp.2.2.2.1
  have h20211 : MA11 T H pp (dm 3) := hDMQ_pp.2.2.2.2.1
  have h20212 : MA12 T H pp (dm 4) := hDMQ_pp.2.2.2.2.2.1
  have h20213 : MA13 T H pp (dm 5) := hDMQ_pp.2.2.2.2.2.2.1
  have h20214 : MA14 T H pp (dm 6) := hDMQ_pp.2.2.2.2.2.2.2.1
  have h20215 : MA15 T H pp (dm 7) := hDMQ_pp.2.2.2.2.2.2.2.2.1
  have h20216 : MA16 T H pp (dm 8) := hDMQ_pp.2.2.2.2.2.2.2.2.2.1
  have h20217 : MA17 T H pp (dm 9) := hDMQ_pp.2.2.2.2.2.2.2.2.2.2.1
  have h20218 : MA18 T H pp (dm 10) := hDMQ_pp.2.2.2.2.2.2.2.2.2.2.2.1
  have h20219 : MA19 T H pp (dm 11) := hDMQ_pp.2.2.2.2.2.2.2.2.2.2.2.2.1
  have h20220 : MA20 T H pp (dm 12) := hDMQ_pp.2.2.2.2.2.2.2.2.2.2.2.2.2.1
  have h20221 : MA21 T H pp (dm 13) := hDMQ_pp.2.2.2.2.2.2.2.2.2.2.2.2.2.2.1
  have h20222 : MA22 T H pp (dm 14) := hDMQ_pp.2.2.2.2.2.2.2.2.2.2.2.2.2.2.2.1
  have h20223 : MA23 T H pp (dm 15) := hDMQ_pp.2.2.2.2.2.2.2.2.2.2.2.2.2.2.2.2.1
  have h20224 : MA25 T H pp (dm 17) := hDMQ_pp.2.2.2.2.2.2.2.2.2.2.2.2.2.2.2.2.2.1
  have h20225 : MA26 T H pp (dm 16) := hDMQ_pp.2.2.2.2.2.2.2.2.2.2.2.2.2.2.2.2.2.2
  have _p := hDMQ_pp.2.1
  have _q := xdP_set hDMQ_pp.2.1
  refine wp_of e206 c206_0 (rw_aload_n (pc' := 1) (v := .ref r0) rfl rfl rfl ?_)
  refine wp_of e206 c206_1 (xc_V (pc' := 4) (r := r0) (as := []) (st := []) (lm_9_357) rfl rfl (Nat.le_of_ble_eq_true rfl) hW g0 sh_42 (by decide) rfl (by decide) (u_207 (f := ((xset dm 13))) hW g0 hMN20_r0) (fun R20226 T20227 H20228 p20229 => ?_))
  obtain ⟨e20230, e20232, z20233, e20231, b20234, p20235⟩ := p20229
  subst e20230
  subst e20231
  subst e20232
  show wp _ _ 206 4 [(0, .ref r0)] [vI z20233] _ H _
  refine wp_of e206 c206_4 (rw_istore_n (pc' := 5) (z := z20233) (L' := [(1, vI z20233), (0, .ref r0)]) rfl rfl rfl ?_)
  refine wp_of e206 c206_5 (rw_iconst (pc' := 6) rfl ?_)
  refine wp_of e206 c206_6 (rw_istore_n (pc' := 7) (z := 0) (L' := [(2, vI 0), (1, vI z20233), (0, .ref r0)]) rfl rfl rfl ?_)
  have lp37016 : ∀ (n37017 : Nat) (v37019 : Int) (H37020 : wq_H) (Q37021 : Nat → List (Int × Int)), WT T H37020 → wfr [(48, 999), (49, 999), (46, 999), (47, 999), (45, 999)] T H H37020 → (0 ≤ v37019 ∧ v37019 ≤ 6) → MN21 T H37020 r0 v37019 (lln Q37021) → LB22 T H37020 r0 yb Q37021 → LB23 T H37020 r0 yl Q37021 → LB24 T H37020 r0 (xas (xset dm)) Q37021 → LB25 T H37020 r0 (xwk (xset dm)) Q37021 → (QO (xset dm) Q37021 v37019) → (v37019 ≤ dm 0 3) → (6 - v37019).toNat = n37017 → wp kt 1 206 7 [(2, vI v37019), (1, vI z20233), (0, .ref r0)] [] T H37020 (uq_206 r0 pp dm T H) := by
    intro n37017
    induction n37017 using Nat.strongRecOn with
    | _ n37017 ih37018 =>
      intro v37019 H37020 Q37021 w37022 f37023 b37024 h37026 h37027 h37028 h37029 h37030 x37031 x37032 m37025
      have f37033 := f0.tr f37023 rfl
      refine wp_of e206 c206_7 (rw_iload_n (pc' := 8) (z := v37019) rfl rfl ?_)
      refine wp_of e206 c206_8 (rw_aload_n (pc' := 9) (v := .ref r0) rfl rfl rfl ?_)
      have k37034 : H37020 r0 3 = H r0 3 := (f37023 r0 3 _ g0 rfl)
      have q37035 : H37020 r0 3 = (pp : Int) := k37034.trans qpp
      refine wp_of e206 c206_9 (xg_K (pc' := 12) lf_9_337 w37022 g0 sh_42 (by decide) (by decide) rfl q37035 rfl ?_)
      have k37036 : H37020 pp 3 = H pp 3 := (f37023 pp 3 _ gpp rfl)
      refine wp_of e206 c206_12 (xg_I (pc' := 15) lf_9_188 w37022 gpp sh_54 (by decide) (by decide) ty_54_3 rfl rfl (fun b37037 b37038 => ?_))
      refine wp_of e206 c206_15 (rw_icmp_ge (p1 := 196) (p2 := 18) (by decide) rfl ⟨Int.le_trans (by decide) b37024.1, Int.le_trans b37024.2 (by decide)⟩ ⟨Int.le_trans (by decide) b37037, Int.le_trans b37038 (by decide)⟩ (fun c37039 => ?_) (fun c37039 => ?_))
      · exact wp_return e206 c206_196 rfl ⟨rfl, w37022, f37033, rfl, ⟨QO_ls (by assumption) (by omega) h37026, QO_lb (by assumption) (by show _ = dm 0 3; omega) h37027, QO_lb (by assumption) (by show _ = dm 0 3; omega) h37028, QO_lb (by assumption) (by show _ = dm 0 3; omega) h37029, QO_lb (by assumption) (by show _ = dm 0 3; omega) h37030⟩⟩
      · have _f := QO_f (d := xset dm) (Q := Q37021) (c := v37019) (by assumption) (by omega)
        have _k := _p (v37019).toNat
        have _xs : xset dm 2 (v37019).toNat = dm 2 (v37019).toNat ∧ xset dm 3 (v37019).toNat = dm 3 (v37019).toNat ∧ xset dm 4 (v37019).toNat = dm 4 (v37019).toNat ∧ xset dm 5 (v37019).toNat = dm 5 (v37019).toNat ∧ xset dm 9 (v37019).toNat = dm 9 (v37019).toNat := ⟨rfl, rfl, rfl, rfl, rfl⟩
        refine wp_of e206 c206_18 (rw_aload_n (pc' := 19) (v := .ref r0) rfl rfl rfl ?_)
        refine wp_of e206 c206_19 (xg_R (pc' := 22) lf_9_21 w37022 g0 sh_42 (by decide) (by decide) ty_42_21 rfl rfl (fun r37040 q37041 g37042 => ?_))
        refine wp_of e206 c206_22 (rw_iload_n (pc' := 23) (z := v37019) rfl rfl ?_)
        refine wp_of e206 c206_23 (rw_iconst (pc' := 24) rfl ?_)
        refine wp_of e206 c206_24 (xs_I (pc' := 25) w37022 g37042 (by decide) sh_45 (by decide) (ty_45 _) (by decide) (by decide) ⟨by decide, by decide⟩ (b37024.1) (by omega) rfl (fun H37043 e37044 w37045 => ?_))
        have f37046 := f37033.put' e37044 g37042 rfl
        have f37047 := f37023.put' e37044 g37042 rfl
        have h37048 : MN21 T H37043 r0 (v37019 + 1) (lln Q37021) := DAo_put h37026 q37041 g0 g37042 (by decide) e37044 (by omega) rfl (by show (((Q37021 (v37019).toNat).length : Nat) : Int) = 0; rw [_f.2]; rfl) (fun _ _ => rfl)
        refine wp_of e206 c206_25 (rw_aload_n (pc' := 26) (v := .ref r0) rfl rfl rfl ?_)
        have k37049 : H37043 r0 3 = H37020 r0 3 := (wq_u_t e37044 g37042 g0 rfl 3)
        have q37050 : H37043 r0 3 = (pp : Int) := k37049.trans q37035
        refine wp_of e206 c206_26 (xg_K (pc' := 29) lf_9_337 w37045 g0 sh_42 (by decide) (by decide) rfl q37050 rfl ?_)
        refine wp_of e206 c206_29 (xg_R (pc' := 32) lf_9_267 w37045 gpp sh_54 (by decide) (by decide) ty_54_17 rfl rfl (fun r37051 q37052 g37053 => ?_))
        refine wp_of e206 c206_32 (rw_iload_n (pc' := 33) (z := v37019) rfl rfl ?_)
        refine wp_of e206 c206_33 (xa_B (by decide) (pc' := 34) w37045 g37053 sh_63 (by decide) (ty_63 _) (b37024.1) (by omega) rfl (fun b37054 b37055 => ?_))
        have h37056 : MA17 T H37043 pp (dm 9) := (MA17_fr w37022 gpp ((wfr.rf (l := [(45, 999)])).put' e37044 g37042 rfl) rfl (MA17_fr hW gpp f37023 rfl h20217))
        have := MA_at h37056 q37052 (k := (v37019.toNat)) (by omega)
        refine wp_of e206 c206_34 (rw_if_eq (p1 := 49) (p2 := 37) (by decide) rfl ⟨Int.le_trans (by decide) b37054, Int.le_trans b37055 (by decide)⟩ (fun c37057 => ?_) (fun c37057 => ?_))
        · have _b := fun x => @xas_not (xset dm) (v37019).toNat (by omega) x
          refine wp_of e206 c206_49 (rw_aload_n (pc' := 50) (v := .ref r0) rfl rfl rfl ?_)
          refine wp_of e206 c206_50 (xg_K (pc' := 53) lf_9_337 w37045 g0 sh_42 (by decide) (by decide) rfl q37050 rfl ?_)
          refine wp_of e206 c206_53 (xg_R (pc' := 56) lf_9_261 w37045 gpp sh_54 (by decide) (by decide) ty_54_15 rfl rfl (fun r37058 q37059 g37060 => ?_))
          refine wp_of e206 c206_56 (rw_iload_n (pc' := 57) (z := v37019) rfl rfl ?_)
          refine wp_of e206 c206_57 (xa_I (so := 0) (pc' := 58) w37045 g37060 sh_61 (by decide) (ty_61 _) (b37024.1) (by omega) rfl (fun b37061 b37062 => ?_))
          have h37063 : MA15 T H37043 pp (dm 7) := (MA15_fr w37022 gpp ((wfr.rf (l := [(45, 999)])).put' e37044 g37042 rfl) rfl (MA15_fr hW gpp f37023 rfl h20215))
          have := MA_at h37063 q37059 (k := (v37019.toNat)) (by omega)
          refine wp_of e206 c206_58 (rw_aload_n (pc' := 59) (v := .ref r0) rfl rfl rfl ?_)
          refine wp_of e206 c206_59 (xg_K (pc' := 62) lf_9_337 w37045 g0 sh_42 (by decide) (by decide) rfl q37050 rfl ?_)
          refine wp_of e206 c206_62 (xg_R (pc' := 65) lf_9_264 w37045 gpp sh_54 (by decide) (by decide) ty_54_16 rfl rfl (fun r37064 q37065 g37066 => ?_))
          refine wp_of e206 c206_65 (rw_iload_n (pc' := 66) (z := v37019) rfl rfl ?_)
          refine wp_of e206 c206_66 (xa_I (so := 0) (pc' := 67) w37045 g37066 sh_62 (by decide) (ty_62 _) (b37024.1) (by omega) rfl (fun b37067 b37068 => ?_))
          have h37069 : MA16 T H37043 pp (dm 8) := (MA16_fr w37022 gpp ((wfr.rf (l := [(45, 999)])).put' e37044 g37042 rfl) rfl (MA16_fr hW gpp f37023 rfl h20216))
          have := MA_at h37069 q37065 (k := (v37019.toNat)) (by omega)
          refine wp_of e206 c206_67 (xc_S (pc' := 70) (as := [vI (H37043 r37058 (v37019.toNat)), vI (H37043 r37064 (v37019.toNat))]) (st := []) (lm_9_318) rfl rfl (Nat.le_of_ble_eq_true rfl) rfl (by decide) (u_202 (lo := ((dm 7 (v37019).toNat))) (hi := ((dm 8 (v37019).toNat))) w37045 ⟨by omega, by omega⟩ ⟨by omega, by omega⟩ (by omega) (by omega) (by omega)) (fun R37070 T37071 H37072 p37073 => ?_))
          obtain ⟨e37074, e37076, z37077, e37075, b37078, p37079⟩ := p37073
          subst e37074
          subst e37075
          subst e37076
          show wp _ _ 206 70 [(2, vI v37019), (1, vI z20233), (0, .ref r0)] [vI z37077] _ H37043 _
          refine wp_of e206 c206_70 (rw_istore_n (pc' := 71) (z := z37077) (L' := [(3, vI z37077), (2, vI v37019), (1, vI z20233), (0, .ref r0)]) rfl rfl rfl ?_)
          have _np : z37077 = xhs (xset dm 7 (v37019).toNat) (xset dm 8 (v37019).toNat) := by
            show _ = xhs (dm 7 _) (dm 8 _)
            assumption
          refine wp_of e206 c206_71 (rw_aload_n (pc' := 72) (v := .ref r0) rfl rfl rfl ?_)
          refine wp_of e206 c206_72 (xg_K (pc' := 75) lf_9_337 w37045 g0 sh_42 (by decide) (by decide) rfl q37050 rfl ?_)
          refine wp_of e206 c206_75 (xg_R (pc' := 78) lf_9_247 w37045 gpp sh_54 (by decide) (by decide) ty_54_10 rfl rfl (fun r37081 q37082 g37083 => ?_))
          refine wp_of e206 c206_78 (rw_iload_n (pc' := 79) (z := v37019) rfl rfl ?_)
          refine wp_of e206 c206_79 (xa_I (so := 0) (pc' := 80) w37045 g37083 sh_56 (by decide) (ty_56 _) (b37024.1) (by omega) rfl (fun b37084 b37085 => ?_))
          have h37086 : MA10 T H37043 pp (dm 2) := (MA10_fr w37022 gpp ((wfr.rf (l := [(45, 999)])).put' e37044 g37042 rfl) rfl (MA10_fr hW gpp f37023 rfl h20210))
          have := MA_at h37086 q37082 (k := (v37019.toNat)) (by omega)
          refine wp_of e206 c206_80 (rw_istore (pc' := 82) (z := H37043 r37081 (v37019.toNat)) (L' := [(4, vI (H37043 r37081 (v37019.toNat))), (3, vI z37077), (2, vI v37019), (1, vI z20233), (0, .ref r0)]) rfl rfl rfl ?_)
          have lp39082 : ∀ (n39083 : Nat) (v39085 : Int) (H39086 : wq_H) (Q39087 : Nat → List (Int × Int)), WT T H39086 → wfr [(48, 999), (49, 999), (46, 999), (47, 999), (45, 999)] T H37043 H39086 → (0 ≤ v39085 ∧ v39085 ≤ 31) → MN21 T H39086 r0 (v37019 + 1) (lln Q39087) → LB22 T H39086 r0 yb Q39087 → LB23 T H39086 r0 yl Q39087 → LB24 T H39086 r0 (xas (xset dm)) Q39087 → LB25 T H39086 r0 (xwk (xset dm)) Q39087 → (QF (xset dm) Q39087 v37019) → (xfo (xset dm) (v37019).toNat (Q39087 (v37019).toNat) v39085) → (dm 2 (v37019).toNat ≤ v39085) → (31 - v39085).toNat = n39083 → wp kt 1 206 82 [(4, vI v39085), (3, vI z37077), (2, vI v37019), (1, vI z20233), (0, .ref r0)] [] T H39086 (uq_206 r0 pp dm T H) := by
            intro n39083
            induction n39083 using Nat.strongRecOn with
            | _ n39083 ih39084 =>
              intro v39085 H39086 Q39087 w39088 f39089 b39090 h39092 h39093 h39094 h39095 h39096 x39097 x39098 x39099 m39091
              have f39100 := f37046.tr f39089 rfl
              have f39101 := f37047.tr f39089 rfl
              refine wp_of e206 c206_82 (rw_iload (pc' := 84) (z := v39085) rfl rfl ?_)
              refine wp_of e206 c206_84 (rw_aload_n (pc' := 85) (v := .ref r0) rfl rfl rfl ?_)
              have k39102 : H39086 r0 3 = H37043 r0 3 := (f39089 r0 3 _ g0 rfl)
              have q39103 : H39086 r0 3 = (pp : Int) := k39102.trans q37050
              refine wp_of e206 c206_85 (xg_K (pc' := 88) lf_9_337 w39088 g0 sh_42 (by decide) (by decide) rfl q39103 rfl ?_)
              refine wp_of e206 c206_88 (xg_R (pc' := 91) lf_9_250 w39088 gpp sh_54 (by decide) (by decide) ty_54_11 rfl rfl (fun r39104 q39105 g39106 => ?_))
              refine wp_of e206 c206_91 (rw_iload_n (pc' := 92) (z := v37019) rfl rfl ?_)
              refine wp_of e206 c206_92 (xa_I (so := 0) (pc' := 93) w39088 g39106 sh_57 (by decide) (ty_57 _) (b37024.1) (by omega) rfl (fun b39107 b39108 => ?_))
              have h39109 : MA11 T H39086 pp (dm 3) := (MA11_fr w37045 gpp f39089 rfl (MA11_fr w37022 gpp ((wfr.rf (l := [(45, 999)])).put' e37044 g37042 rfl) rfl (MA11_fr hW gpp f37023 rfl h20211)))
              have := MA_at h39109 q39105 (k := (v37019.toNat)) (by omega)
              refine wp_of e206 c206_93 (rw_icmp_gt (p1 := 190) (p2 := 96) (by decide) rfl ⟨Int.le_trans (by decide) b39090.1, Int.le_trans b39090.2 (by decide)⟩ ⟨Int.le_trans (by decide) b39107, Int.le_trans b39108 (by decide)⟩ (fun c39110 => ?_) (fun c39110 => ?_))
              · have _o : QO (xset dm) Q39087 (v37019 + 1) := by
                  first
                  | exact QF_o (QF_l _f.1 (by omega)) (by rw [lup_e, _f.2]; exact xsp_away (by show dm 9 _ = 1; omega)) (by omega)
                  | exact QF_o (by assumption) (xfo_e (by assumption) (by omega)) (by omega)
                refine wp_of e206 c206_190 (rw_iinc (pc' := 193) (z := v37019) (L' := [(2, vI (v37019 + 1)), (4, vI v39085), (3, vI z37077), (1, vI z20233), (0, .ref r0)]) rfl rfl rfl rfl ?_)
                refine wp_of e206 c206_193 (rw_goto (p1 := 7) (by decide) ?_)
                exact wp_lc (ks := [2, 4, 3, 1, 0]) (wl_c rfl (wl_c rfl (wl_c rfl wl_n))) rfl (by decide) (ih37018 _ (by omega) (v37019 + 1) H39086 Q39087 w39088 f39101 ⟨by omega, by omega⟩ h39092 h39093 h39094 h39095 h39096 (_o) (by omega) rfl)
              · refine wp_of e206 c206_96 (rw_aload_n (pc' := 97) (v := .ref r0) rfl rfl rfl ?_)
                refine wp_of e206 c206_97 (xg_K (pc' := 100) lf_9_337 w39088 g0 sh_42 (by decide) (by decide) rfl q39103 rfl ?_)
                refine wp_of e206 c206_100 (xg_R (pc' := 103) lf_9_253 w39088 gpp sh_54 (by decide) (by decide) ty_54_12 rfl rfl (fun r39111 q39112 g39113 => ?_))
                refine wp_of e206 c206_103 (rw_iload_n (pc' := 104) (z := v37019) rfl rfl ?_)
                refine wp_of e206 c206_104 (xa_I (so := 0) (pc' := 105) w39088 g39113 sh_58 (by decide) (ty_58 _) (b37024.1) (by omega) rfl (fun b39114 b39115 => ?_))
                have h39116 : MA12 T H39086 pp (dm 4) := (MA12_fr w37045 gpp f39089 rfl (MA12_fr w37022 gpp ((wfr.rf (l := [(45, 999)])).put' e37044 g37042 rfl) rfl (MA12_fr hW gpp f37023 rfl h20212)))
                have := MA_at h39116 q39112 (k := (v37019.toNat)) (by omega)
                refine wp_of e206 c206_105 (rw_istore (pc' := 107) (z := H39086 r39111 (v37019.toNat)) (L' := [(5, vI (H39086 r39111 (v37019.toNat))), (4, vI v39085), (3, vI z37077), (2, vI v37019), (1, vI z20233), (0, .ref r0)]) rfl rfl rfl ?_)
                have lp39433 : ∀ (n39434 : Nat) (v39436 : Int) (H39437 : wq_H) (Q39438 : Nat → List (Int × Int)), WT T H39437 → wfr [(48, 999), (49, 999), (46, 999), (47, 999), (45, 999)] T H39086 H39437 → (0 ≤ v39436 ∧ v39436 ≤ 17) → MN21 T H39437 r0 (v37019 + 1) (lln Q39438) → LB22 T H39437 r0 yb Q39438 → LB23 T H39437 r0 yl Q39438 → LB24 T H39437 r0 (xas (xset dm)) Q39438 → LB25 T H39437 r0 (xwk (xset dm)) Q39438 → (QF (xset dm) Q39438 v37019) → (xfn (xset dm) (v37019).toNat (Q39438 (v37019).toNat) v39085 v39436) → (dm 4 (v37019).toNat ≤ v39436) → (17 - v39436).toNat = n39434 → wp kt 1 206 107 [(5, vI v39436), (4, vI v39085), (3, vI z37077), (2, vI v37019), (1, vI z20233), (0, .ref r0)] [] T H39437 (uq_206 r0 pp dm T H) := by
                  intro n39434
                  induction n39434 using Nat.strongRecOn with
                  | _ n39434 ih39435 =>
                    intro v39436 H39437 Q39438 w39439 f39440 b39441 h39443 h39444 h39445 h39446 h39447 x39448 x39449 x39450 m39442
                    have f39451 := f39100.tr f39440 rfl
                    have f39452 := f39101.tr f39440 rfl
                    have f39453 := f39089.tr f39440 rfl
                    refine wp_of e206 c206_107 (rw_iload (pc' := 109) (z := v39436) rfl rfl ?_)
                    refine wp_of e206 c206_109 (rw_aload_n (pc' := 110) (v := .ref r0) rfl rfl rfl ?_)
                    have k39454 : H39437 r0 3 = H39086 r0 3 := (f39440 r0 3 _ g0 rfl)
                    have q39455 : H39437 r0 3 = (pp : Int) := k39454.trans q39103
                    refine wp_of e206 c206_110 (xg_K (pc' := 113) lf_9_337 w39439 g0 sh_42 (by decide) (by decide) rfl q39455 rfl ?_)
                    refine wp_of e206 c206_113 (xg_R (pc' := 116) lf_9_256 w39439 gpp sh_54 (by decide) (by decide) ty_54_13 rfl rfl (fun r39456 q39457 g39458 => ?_))
                    refine wp_of e206 c206_116 (rw_iload_n (pc' := 117) (z := v37019) rfl rfl ?_)
                    refine wp_of e206 c206_117 (xa_I (so := 0) (pc' := 118) w39439 g39458 sh_59 (by decide) (ty_59 _) (b37024.1) (by omega) rfl (fun b39459 b39460 => ?_))
                    have h39461 : MA13 T H39437 pp (dm 5) := (MA13_fr w39088 gpp f39440 rfl (MA13_fr w37045 gpp f39089 rfl (MA13_fr w37022 gpp ((wfr.rf (l := [(45, 999)])).put' e37044 g37042 rfl) rfl (MA13_fr hW gpp f37023 rfl h20213))))
                    have := MA_at h39461 q39457 (k := (v37019.toNat)) (by omega)
                    refine wp_of e206 c206_118 (rw_icmp_gt (p1 := 184) (p2 := 121) (by decide) rfl ⟨Int.le_trans (by decide) b39441.1, Int.le_trans b39441.2 (by decide)⟩ ⟨Int.le_trans (by decide) b39459, Int.le_trans b39460 (by decide)⟩ (fun c39462 => ?_) (fun c39462 => ?_))
                    · refine wp_of e206 c206_184 (rw_iinc (pc' := 187) (z := v39085) (L' := [(4, vI (v39085 + 1)), (5, vI v39436), (3, vI z37077), (2, vI v37019), (1, vI z20233), (0, .ref r0)]) rfl rfl rfl rfl ?_)
                      refine wp_of e206 c206_187 (rw_goto (p1 := 82) (by decide) ?_)
                      exact wp_lc (ks := [4, 5, 3, 2, 1, 0]) (wl_c rfl (wl_c rfl (wl_c rfl (wl_c rfl (wl_c rfl wl_n))))) rfl (by decide) (ih39084 _ (by omega) (v39085 + 1) H39437 Q39438 w39439 f39453 ⟨by omega, by omega⟩ h39443 h39444 h39445 h39446 h39447 (by assumption) (xfn_o (by assumption) (by omega)) (by omega) rfl)
                    · refine wp_of e206 c206_121 (rw_iload (pc' := 123) (z := v39085) rfl rfl ?_)
                      refine wp_of e206 c206_123 (rw_iload (pc' := 125) (z := v39085) rfl rfl ?_)
                      refine wp_of e206 c206_125 (rw_iload (pc' := 127) (z := v39436) rfl rfl ?_)
                      refine wp_of e206 c206_127 (rw_iadd (pc' := 128) rfl ?_)
                      refine wp_of e206 c206_128 (xc_S (pc' := 131) (as := [vI v39085, vI (v39085 + v39436)]) (st := []) (lm_9_318) rfl rfl (Nat.le_of_ble_eq_true rfl) rfl (by decide) (u_202 (lo := v39085) (hi := ((v39085 + v39436))) w39439 ⟨b39090.1, by omega⟩ ⟨by omega, by omega⟩ (by omega) (by omega) (by omega)) (fun R39463 T39464 H39465 p39466 => ?_))
                      obtain ⟨e39467, e39469, z39470, e39468, b39471, p39472⟩ := p39466
                      subst e39467
                      subst e39468
                      subst e39469
                      show wp _ _ 206 131 [(5, vI v39436), (4, vI v39085), (3, vI z37077), (2, vI v37019), (1, vI z20233), (0, .ref r0)] [vI z39470] _ H39437 _
                      refine wp_of e206 c206_131 (rw_iload_n (pc' := 132) (z := z37077) rfl rfl ?_)
                      refine wp_of e206 c206_132 (rw_ior (pc' := 133) rfl ?_)
                      obtain ⟨v39474, e39475⟩ : ∃ x : Int, x = wq_or z39470 z37077 := ⟨_, rfl⟩
                      rw [← e39475]
                      have b39476 : -2147483648 ≤ v39474 ∧ v39474 ≤ 2147483647 := by
                        rw [e39475]
                        exact wI_or _ _
                      refine wp_of e206 c206_133 (rw_aload_n (pc' := 134) (v := .ref r0) rfl rfl rfl ?_)
                      have k39477 : H39437 r0 19 = H r0 19 := ((f39440 r0 19 _ g0 rfl).trans ((f39089 r0 19 _ g0 rfl).trans ((wq_u_t e37044 g37042 g0 rfl 19).trans (f37023 r0 19 _ g0 rfl))))
                      refine wp_of e206 c206_134 (xg_I (pc' := 137) lf_9_343 w39439 g0 sh_42 (by decide) (by decide) ty_42_19 rfl rfl (fun b39478 b39479 => ?_))
                      refine wp_of e206 c206_137 (rw_iand (pc' := 138) rfl ?_)
                      obtain ⟨v39480, e39481⟩ : ∃ x : Int, x = wq_and v39474 (H39437 r0 19) := ⟨_, rfl⟩
                      rw [← e39481]
                      have b39482 : -2147483648 ≤ v39480 ∧ v39480 ≤ 2147483647 := by
                        rw [e39481]
                        exact wI_and _ _
                      refine wp_of e206 c206_138 (rw_istore (pc' := 140) (z := v39480) (L' := [(6, vI v39480), (5, vI v39436), (4, vI v39085), (3, vI z37077), (2, vI v37019), (1, vI z20233), (0, .ref r0)]) rfl rfl rfl ?_)
                      have _s : v39480 = xsl (xset dm) (v37019).toNat v39085 v39436 := xsl_e e39475 e39481 (by assumption) _np (by show _ = xal dm; omega)
                      refine wp_of e206 c206_140 (rw_iload_n (pc' := 141) (z := v37019) rfl rfl ?_)
                      refine wp_of e206 c206_141 (rw_aload_n (pc' := 142) (v := .ref r0) rfl rfl rfl ?_)
                      refine wp_of e206 c206_142 (xg_K (pc' := 145) lf_9_337 w39439 g0 sh_42 (by decide) (by decide) rfl q39455 rfl ?_)
                      have k39483 : H39437 pp 8 = H pp 8 := ((f39440 pp 8 _ gpp rfl).trans ((f39089 pp 8 _ gpp rfl).trans ((wq_u_t e37044 g37042 gpp rfl 8).trans (f37023 pp 8 _ gpp rfl))))
                      refine wp_of e206 c206_145 (xg_I (pc' := 148) lf_9_271 w39439 gpp sh_54 (by decide) (by decide) ty_54_8 rfl rfl (fun b39484 b39485 => ?_))
                      refine wp_of e206 c206_148 (rw_icmp_ne (p1 := 158) (p2 := 151) (by decide) rfl ⟨Int.le_trans (by decide) b37024.1, Int.le_trans b37024.2 (by decide)⟩ ⟨b39484, b39485⟩ (fun c39486 => ?_) (fun c39486 => ?_))
                      · have _o : wq_and (xsl (xset dm) (v37019).toNat v39085 v39436) (xmu (xset dm) (v37019).toNat) = 0 := by
                          rw [← xmu_n (d := xset dm) (k := (v37019).toNat) (by show _ ≠ dm 0 8; omega)]
                          exact and_0
                        have _r := xfn_room _q ‹xfn (xset dm) (v37019).toNat (Q39438 (v37019).toNat) v39085 v39436› (by omega) _o
                        have _y := xfn_y ‹xfn (xset dm) (v37019).toNat (Q39438 (v37019).toNat) v39085 v39436› (by omega) _o
                        have _c : xas (xset dm) (v37019).toNat (v39085, v39436) = xsl (xset dm) (v37019).toNat v39085 v39436 ∧ xwk (xset dm) (v37019).toNat (v39085, v39436) = wq_and (xal (xset dm)) (wq_xor (xsl (xset dm) (v37019).toNat v39085 v39436) (-1)) := _b (v39085, v39436)
                        refine wp_of e206 c206_158 (rw_aload_n (pc' := 159) (v := .ref r0) rfl rfl rfl ?_)
                        refine wp_of e206 c206_159 (rw_iload_n (pc' := 160) (z := v37019) rfl rfl ?_)
                        refine wp_of e206 c206_160 (rw_iload (pc' := 162) (z := v39085) rfl rfl ?_)
                        refine wp_of e206 c206_162 (rw_iload (pc' := 164) (z := v39436) rfl rfl ?_)
                        refine wp_of e206 c206_164 (rw_iload (pc' := 166) (z := v39480) rfl rfl ?_)
                        refine wp_of e206 c206_166 (rw_aload_n (pc' := 167) (v := .ref r0) rfl rfl rfl ?_)
                        refine wp_of e206 c206_167 (xg_I (pc' := 170) lf_9_343 w39439 g0 sh_42 (by decide) (by decide) ty_42_19 rfl rfl (fun b39487 b39488 => ?_))
                        refine wp_of e206 c206_170 (rw_iload (pc' := 172) (z := v39480) rfl rfl ?_)
                        refine wp_of e206 c206_172 (rw_iconst (pc' := 173) rfl ?_)
                        refine wp_of e206 c206_173 (rw_ixor (pc' := 174) rfl ?_)
                        obtain ⟨v39489, e39490⟩ : ∃ x : Int, x = wq_xor v39480 (-1) := ⟨_, rfl⟩
                        rw [← e39490]
                        have b39491 : -2147483648 ≤ v39489 ∧ v39489 ≤ 2147483647 := by
                          rw [e39490]
                          exact wI_xor _ _
                        refine wp_of e206 c206_174 (rw_iand (pc' := 175) rfl ?_)
                        obtain ⟨v39492, e39493⟩ : ∃ x : Int, x = wq_and (H39437 r0 19) v39489 := ⟨_, rfl⟩
                        rw [← e39493]
                        have b39494 : -2147483648 ≤ v39492 ∧ v39492 ≤ 2147483647 := by
                          rw [e39493]
                          exact wI_and _ _
                        have _al : H39437 r0 19 = xal (xset dm) := by
                          show _ = xal dm
                          omega
                        have _w : v39492 = xwk (xset dm) (v37019).toNat (v39085, v39436) := by
                          rw [_c.2, ← _s, e39493, e39490, _al]
                        refine wp_of e206 c206_175 (xc_V (pc' := 178) (r := r0) (as := [vI v37019, vI v39085, vI v39436, vI v39480, vI v39492]) (st := []) (lm_9_360) rfl rfl (Nat.le_of_ble_eq_true rfl) w39439 g0 sh_42 (by decide) rfl (by decide) (u_208 (d := ((xset dm))) (Q := Q39438) (k := ((v37019).toNat)) (u := ((v37019 + 1))) (y1 := v39085) (y2 := v39436) w39439 g0 ⟨b37024.1, by omega⟩ ⟨b39090.1, by omega⟩ ⟨b39441.1, by omega⟩ ⟨b39482.1, b39482.2⟩ ⟨b39494.1, b39494.2⟩ (by omega) (by omega) (by omega) (by omega) (by omega) (by omega) (by omega) h39443 h39444 h39445 h39446 h39447) (fun R39495 T39496 H39497 p39498 => ?_))
                        obtain ⟨e39499, w39501, f39502, e39500, p39503⟩ := p39498
                        subst e39499
                        subst e39500
                        obtain ⟨a39504, a39505, a39506, a39507, a39508⟩ := p39503
                        have f39509 := f39451.tr f39502 rfl
                        have f39510 := f39452.tr f39502 rfl
                        have f39511 := f39453.tr f39502 rfl
                        have f39512 := f39440.tr f39502 rfl
                        show wp _ _ 206 178 [(6, vI v39480), (5, vI v39436), (4, vI v39085), (3, vI z37077), (2, vI v37019), (1, vI z20233), (0, .ref r0)] [] _ H39497 _
                        refine wp_of e206 c206_178 (rw_iinc (pc' := 181) (z := v39436) (L' := [(5, vI (v39436 + 1)), (6, vI v39480), (4, vI v39085), (3, vI z37077), (2, vI v37019), (1, vI z20233), (0, .ref r0)]) rfl rfl rfl rfl ?_)
                        refine wp_of e206 c206_181 (rw_goto (p1 := 107) (by decide) ?_)
                        exact wp_lc (ks := [5, 6, 4, 3, 2, 1, 0]) (wl_c rfl (wl_c rfl (wl_c rfl (wl_c rfl (wl_c rfl (wl_c rfl wl_n)))))) rfl (by decide) (ih39435 _ (by omega) (v39436 + 1) H39497 ((lup Q39438 ((v37019).toNat) (Q39438 ((v37019).toNat) ++ [(v39085, v39436)]))) w39501 f39512 ⟨by omega, by omega⟩ a39504 a39505 a39506 a39507 a39508 (by first | exact QF_l (by assumption) (by omega) | assumption) (by first | (rw [lup_e]; exact _y) | exact xfn_n (by assumption) (by omega) _on) (by omega) rfl)
                      · have _mu : z20233 = xmu (xset dm) (v37019).toNat := xmu_s (by show _ = dm 0 8; omega) (by assumption)
                        refine wp_of e206 c206_151 (rw_iload (pc' := 153) (z := v39480) rfl rfl ?_)
                        refine wp_of e206 c206_153 (rw_iload_n (pc' := 154) (z := z20233) rfl rfl ?_)
                        refine wp_of e206 c206_154 (rw_iand (pc' := 155) rfl ?_)
                        obtain ⟨v39513, e39514⟩ : ∃ x : Int, x = wq_and v39480 z20233 := ⟨_, rfl⟩
                        rw [← e39514]
                        have b39515 : 0 ≤ v39513 ∧ v39513 ≤ z20233 := by
                          rw [e39514]
                          exact wq_and_b _ (by omega) (by omega)
                        refine wp_of e206 c206_155 (rw_if_ne (p1 := 178) (p2 := 158) (by decide) rfl ⟨by omega, by omega⟩ (fun c39516 => ?_) (fun c39516 => ?_))
                        · have _on : wq_and (xsl (xset dm) (v37019).toNat v39085 v39436) (xmu (xset dm) (v37019).toNat) ≠ 0 := by
                            rw [← _s, ← _mu]
                            omega
                          refine wp_of e206 c206_178 (rw_iinc (pc' := 181) (z := v39436) (L' := [(5, vI (v39436 + 1)), (6, vI v39480), (4, vI v39085), (3, vI z37077), (2, vI v37019), (1, vI z20233), (0, .ref r0)]) rfl rfl rfl rfl ?_)
                          refine wp_of e206 c206_181 (rw_goto (p1 := 107) (by decide) ?_)
                          exact wp_lc (ks := [5, 6, 4, 3, 2, 1, 0]) (wl_c rfl (wl_c rfl (wl_c rfl (wl_c rfl (wl_c rfl (wl_c rfl wl_n)))))) rfl (by decide) (ih39435 _ (by omega) (v39436 + 1) H39437 Q39438 w39439 f39440 ⟨by omega, by omega⟩ h39443 h39444 h39445 h39446 h39447 (by first | exact QF_l (by assumption) (by omega) | assumption) (by first | (rw [lup_e]; exact _y) | exact xfn_n (by assumption) (by omega) _on) (by omega) rfl)
                        · have _o : wq_and (xsl (xset dm) (v37019).toNat v39085 v39436) (xmu (xset dm) (v37019).toNat) = 0 := by
                            rw [← _s, ← _mu]
                            omega
                          have _r := xfn_room _q ‹xfn (xset dm) (v37019).toNat (Q39438 (v37019).toNat) v39085 v39436› (by omega) _o
                          have _y := xfn_y ‹xfn (xset dm) (v37019).toNat (Q39438 (v37019).toNat) v39085 v39436› (by omega) _o
                          have _c : xas (xset dm) (v37019).toNat (v39085, v39436) = xsl (xset dm) (v37019).toNat v39085 v39436 ∧ xwk (xset dm) (v37019).toNat (v39085, v39436) = wq_and (xal (xset dm)) (wq_xor (xsl (xset dm) (v37019).toNat v39085 v39436) (-1)) := _b (v39085, v39436)
                          refine wp_of e206 c206_158 (rw_aload_n (pc' := 159) (v := .ref r0) rfl rfl rfl ?_)
                          refine wp_of e206 c206_159 (rw_iload_n (pc' := 160) (z := v37019) rfl rfl ?_)
                          refine wp_of e206 c206_160 (rw_iload (pc' := 162) (z := v39085) rfl rfl ?_)
                          refine wp_of e206 c206_162 (rw_iload (pc' := 164) (z := v39436) rfl rfl ?_)
                          refine wp_of e206 c206_164 (rw_iload (pc' := 166) (z := v39480) rfl rfl ?_)
                          refine wp_of e206 c206_166 (rw_aload_n (pc' := 167) (v := .ref r0) rfl rfl rfl ?_)
                          refine wp_of e206 c206_167 (xg_I (pc' := 170) lf_9_343 w39439 g0 sh_42 (by decide) (by decide) ty_42_19 rfl rfl (fun b39517 b39518 => ?_))
                          refine wp_of e206 c206_170 (rw_iload (pc' := 172) (z := v39480) rfl rfl ?_)
                          refine wp_of e206 c206_172 (rw_iconst (pc' := 173) rfl ?_)
                          refine wp_of e206 c206_173 (rw_ixor (pc' := 174) rfl ?_)
                          obtain ⟨v39519, e39520⟩ : ∃ x : Int, x = wq_xor v39480 (-1) := ⟨_, rfl⟩
                          rw [← e39520]
                          have b39521 : -2147483648 ≤ v39519 ∧ v39519 ≤ 2147483647 := by
                            rw [e39520]
                            exact wI_xor _ _
                          refine wp_of e206 c206_174 (rw_iand (pc' := 175) rfl ?_)
                          obtain ⟨v39522, e39523⟩ : ∃ x : Int, x = wq_and (H39437 r0 19) v39519 := ⟨_, rfl⟩
                          rw [← e39523]
                          have b39524 : -2147483648 ≤ v39522 ∧ v39522 ≤ 2147483647 := by
                            rw [e39523]
                            exact wI_and _ _
                          have _al : H39437 r0 19 = xal (xset dm) := by
                            show _ = xal dm
                            omega
                          have _w : v39522 = xwk (xset dm) (v37019).toNat (v39085, v39436) := by
                            rw [_c.2, ← _s, e39523, e39520, _al]
                          refine wp_of e206 c206_175 (xc_V (pc' := 178) (r := r0) (as := [vI v37019, vI v39085, vI v39436, vI v39480, vI v39522]) (st := []) (lm_9_360) rfl rfl (Nat.le_of_ble_eq_true rfl) w39439 g0 sh_42 (by decide) rfl (by decide) (u_208 (d := ((xset dm))) (Q := Q39438) (k := ((v37019).toNat)) (u := ((v37019 + 1))) (y1 := v39085) (y2 := v39436) w39439 g0 ⟨b37024.1, by omega⟩ ⟨b39090.1, by omega⟩ ⟨b39441.1, by omega⟩ ⟨b39482.1, b39482.2⟩ ⟨b39524.1, b39524.2⟩ (by omega) (by omega) (by omega) (by omega) (by omega) (by omega) (by omega) h39443 h39444 h39445 h39446 h39447) (fun R39525 T39526 H39527 p39528 => ?_))
                          obtain ⟨e39529, w39531, f39532, e39530, p39533⟩ := p39528
                          subst e39529
                          subst e39530
                          obtain ⟨a39534, a39535, a39536, a39537, a39538⟩ := p39533
                          have f39539 := f39451.tr f39532 rfl
                          have f39540 := f39452.tr f39532 rfl
                          have f39541 := f39453.tr f39532 rfl
                          have f39542 := f39440.tr f39532 rfl
                          show wp _ _ 206 178 [(6, vI v39480), (5, vI v39436), (4, vI v39085), (3, vI z37077), (2, vI v37019), (1, vI z20233), (0, .ref r0)] [] _ H39527 _
                          refine wp_of e206 c206_178 (rw_iinc (pc' := 181) (z := v39436) (L' := [(5, vI (v39436 + 1)), (6, vI v39480), (4, vI v39085), (3, vI z37077), (2, vI v37019), (1, vI z20233), (0, .ref r0)]) rfl rfl rfl rfl ?_)
                          refine wp_of e206 c206_181 (rw_goto (p1 := 107) (by decide) ?_)
                          exact wp_lc (ks := [5, 6, 4, 3, 2, 1, 0]) (wl_c rfl (wl_c rfl (wl_c rfl (wl_c rfl (wl_c rfl (wl_c rfl wl_n)))))) rfl (by decide) (ih39435 _ (by omega) (v39436 + 1) H39527 ((lup Q39438 ((v37019).toNat) (Q39438 ((v37019).toNat) ++ [(v39085, v39436)]))) w39531 f39542 ⟨by omega, by omega⟩ a39534 a39535 a39536 a39537 a39538 (by first | exact QF_l (by assumption) (by omega) | assumption) (by first | (rw [lup_e]; exact _y) | exact xfn_n (by assumption) (by omega) _on) (by omega) rfl)
                exact wp_lc (ks := [5, 4, 3, 2, 1, 0]) (wl_c rfl (wl_c rfl (wl_c rfl (wl_c rfl (wl_c rfl (wl_c rfl wl_n)))))) rfl (by decide) (lp39433 _ (H39086 r39111 (v37019.toNat)) H39086 Q39087 w39088 wfr.rf ⟨b39114, Int.le_trans b39115 (by decide)⟩ h39092 h39093 h39094 h39095 h39096 (by assumption) (xfo_i (by assumption) (by omega) (by omega)) (by omega) rfl)
          have h39543 : LB22 T H37043 r0 yb Q37021 := (LB22_fr w37022 g0 ((wfr.rf (l := [(45, 999)])).put' e37044 g37042 rfl) rfl h37027)
          have h39544 : LB23 T H37043 r0 yl Q37021 := (LB23_fr w37022 g0 ((wfr.rf (l := [(45, 999)])).put' e37044 g37042 rfl) rfl h37028)
          have h39545 : LB24 T H37043 r0 (xas (xset dm)) Q37021 := (LB24_fr w37022 g0 ((wfr.rf (l := [(45, 999)])).put' e37044 g37042 rfl) rfl h37029)
          have h39546 : LB25 T H37043 r0 (xwk (xset dm)) Q37021 := (LB25_fr w37022 g0 ((wfr.rf (l := [(45, 999)])).put' e37044 g37042 rfl) rfl h37030)
          exact wp_lc (ks := [4, 3, 2, 1, 0]) (wl_c rfl (wl_c rfl (wl_c rfl (wl_c rfl (wl_c rfl wl_n))))) rfl (by decide) (lp39082 _ (H37043 r37081 (v37019.toNat)) H37043 Q37021 w37045 wfr.rf ⟨b37084, Int.le_trans b37085 (by decide)⟩ h37048 h39543 h39544 h39545 h39546 (_f.1) (by rw [_f.2]; exact xfo_0 (by omega) (by omega)) (by omega) rfl)
        · have _a := xas_away (d := xset dm) (k := (v37019).toNat) (by omega)
          have _r : ((Q37021 (v37019).toNat).length : Int) ≤ 39 := by
            rw [_f.2]
            decide
          refine wp_of e206 c206_37 (rw_aload_n (pc' := 38) (v := .ref r0) rfl rfl rfl ?_)
          refine wp_of e206 c206_38 (rw_iload_n (pc' := 39) (z := v37019) rfl rfl ?_)
          refine wp_of e206 c206_39 (rw_iconst (pc' := 40) rfl ?_)
          refine wp_of e206 c206_40 (rw_iconst (pc' := 41) rfl ?_)
          refine wp_of e206 c206_41 (rw_iconst (pc' := 42) rfl ?_)
          refine wp_of e206 c206_42 (rw_iconst (pc' := 43) rfl ?_)
          have h39547 : LB22 T H37043 r0 yb Q37021 := (LB22_fr w37022 g0 ((wfr.rf (l := [(45, 999)])).put' e37044 g37042 rfl) rfl h37027)
          have h39548 : LB23 T H37043 r0 yl Q37021 := (LB23_fr w37022 g0 ((wfr.rf (l := [(45, 999)])).put' e37044 g37042 rfl) rfl h37028)
          have h39549 : LB24 T H37043 r0 (xas (xset dm)) Q37021 := (LB24_fr w37022 g0 ((wfr.rf (l := [(45, 999)])).put' e37044 g37042 rfl) rfl h37029)
          have h39550 : LB25 T H37043 r0 (xwk (xset dm)) Q37021 := (LB25_fr w37022 g0 ((wfr.rf (l := [(45, 999)])).put' e37044 g37042 rfl) rfl h37030)
          refine wp_of e206 c206_43 (xc_V (pc' := 46) (r := r0) (as := [vI v37019, vI 0, vI 0, vI 0, vI 0]) (st := []) (lm_9_360) rfl rfl (Nat.le_of_ble_eq_true rfl) w37045 g0 sh_42 (by decide) rfl (by decide) (u_208 (d := ((xset dm))) (Q := Q37021) (k := ((v37019).toNat)) (u := ((v37019 + 1))) (y1 := 0) (y2 := 0) w37045 g0 ⟨b37024.1, by omega⟩ ⟨by decide, by decide⟩ ⟨by decide, by decide⟩ ⟨by decide, by decide⟩ ⟨by decide, by decide⟩ (by omega) (by omega) (by omega) (by omega) (by omega) (by omega) (by omega) h37048 h39547 h39548 h39549 h39550) (fun R39551 T39552 H39553 p39554 => ?_))
          obtain ⟨e39555, w39557, f39558, e39556, p39559⟩ := p39554
          subst e39555
          subst e39556
          obtain ⟨a39560, a39561, a39562, a39563, a39564⟩ := p39559
          have f39565 := f37046.tr f39558 rfl
          have f39566 := f37047.tr f39558 rfl
          show wp _ _ 206 46 [(2, vI v37019), (1, vI z20233), (0, .ref r0)] [] _ H39553 _
          refine wp_of e206 c206_46 (rw_goto (p1 := 190) (by decide) ?_)
          have _o : QO (xset dm) ((lup Q37021 ((v37019).toNat) (Q37021 ((v37019).toNat) ++ [(0, 0)]))) (v37019 + 1) := by
            first
            | exact QF_o (QF_l _f.1 (by omega)) (by rw [lup_e, _f.2]; exact xsp_away (by show dm 9 _ = 1; omega)) (by omega)
            | exact QF_o (by assumption) (xfo_e (by assumption) (by omega)) (by omega)
          refine wp_of e206 c206_190 (rw_iinc (pc' := 193) (z := v37019) (L' := [(2, vI (v37019 + 1)), (1, vI z20233), (0, .ref r0)]) rfl rfl rfl rfl ?_)
          refine wp_of e206 c206_193 (rw_goto (p1 := 7) (by decide) ?_)
          exact wp_lc (ks := [2, 1, 0]) (wl_c rfl (wl_c rfl (wl_c rfl wl_n))) rfl (by decide) (ih37018 _ (by omega) (v37019 + 1) H39553 ((lup Q37021 ((v37019).toNat) (Q37021 ((v37019).toNat) ++ [(0, 0)]))) w39557 f39566 ⟨by omega, by omega⟩ a39560 a39561 a39562 a39563 a39564 (_o) (by omega) rfl)
  have h39567 : MN21 T H r0 0 (lln (fun _ => [])) := DAo_0 (hW.ref g0 (n := 33) (p := 0) (q := 0) rfl (by decide) rfl) (Int.le_refl _)
  have h39568 : LB22 T H r0 yb (fun _ => []) := LB_0 hW (hW.ref g0 (n := 33) (p := 0) (q := 0) rfl (by decide) rfl)
  have h39569 : LB23 T H r0 yl (fun _ => []) := LB_0 hW (hW.ref g0 (n := 33) (p := 0) (q := 0) rfl (by decide) rfl)
  have h39570 : LB24 T H r0 (xas (xset dm)) (fun _ => []) := LB_0 hW (hW.ref g0 (n := 33) (p := 0) (q := 0) rfl (by decide) rfl)
  have h39571 : LB25 T H r0 (xwk (xset dm)) (fun _ => []) := LB_0 hW (hW.ref g0 (n := 33) (p := 0) (q := 0) rfl (by decide) rfl)
  exact wp_lc (ks := [2, 1, 0]) (wl_c rfl (wl_c rfl (wl_c rfl wl_n))) rfl (by decide) (lp37016 _ 0 H ((fun _ => [])) hW wfr.rf ⟨by decide, by decide⟩ h39567 h39568 h39569 h39570 h39571 (QO_0) (by omega) rfl)
