/-! what methods do (own work, written by wip/gen3/sx3.py) -/
/-! StrikeAwake.hiding(II)I  -/
abbrev uq_114 (r0 : Nat) (a1 : Int) (a2 : Int) (cu : Nat) (wa : Nat) (ce : Nat) (e : xD) (d : xD) (n : Int) (T : wq_T) (H : wq_H) : Option Value → wq_T → wq_H → Prop := fun r T' H' => T = T' ∧ WT T H' ∧ wfr [(12, 5), (12, 6), (12, 7), (12, 8), (12, 9), (1, 10), (6, 5), (8, 999), (10, 999), (15, 999), (9, 999), (18, 999), (19, 999), (7, 999), (11, 999), (17, 999), (13, 999)] T H H' ∧ ∃ z : Int, some (vI z) = r ∧ ((-2147483648) ≤ z ∧ z ≤ 2147483647) ∧ ((CEN T H' ce e d))
set_option maxHeartbeats 4000000 in
theorem u_114 {kt : Nat → Option mc_E} {T : wq_T} {H : wq_H} {r0 : Nat} {a1 : Int} {a2 : Int} {cu : Nat} {wa : Nat} {ce : Nat} {e : xD} {d : xD} {n : Int} (hW : WT T H) (g0 : T.2.2.2 r0 = some 1) (i1 : (-2147483648) ≤ a1 ∧ a1 ≤ 2147483647) (i2 : (-2147483648) ≤ a2 ∧ a2 ≤ 2147483647) (qcu : H r0 6 = (cu : Int)) (gcu : T.2.2.2 cu = some 27) (qwa : H r0 2 = (wa : Int)) (gwa : T.2.2.2 wa = some 6) (qce : H r0 3 = (ce : Int)) (gce : T.2.2.2 ce = some 12) (p0 : ∀ i, i ≠ 13 → e i = d i) (p1 : XW d) (p2 : e 0 3 = d 0 3) (p3 : e 0 0 = d 0 0) (p4 : H r0 8 = 0 ∨ n = xlots d) (p5 : H r0 8 ≠ 0 ∨ (d 0 3 = 0 ∧ d 0 0 = 0)) (hCU_cu : CU T H cu e d n) (hCEN_ce : CEN T H ce e d) (hHDR_ce : HDR T H ce ) : wpc kt 6 114 [.ref r0, vI a1, vI a2] T H (uq_114 r0 a1 a2 cu wa ce e d n T H) := by
  refine wp_enter e114 (Nat.le_of_ble_eq_true rfl) rfl ?_
  have f0 : wfr [(12, 5), (12, 6), (12, 7), (12, 8), (12, 9), (1, 10), (6, 5), (8, 999), (10, 999), (15, 999), (9, 999), (18, 999), (19, 999), (7, 999), (11, 999), (17, 999), (13, 999)] T H H := wfr.rf
  show wp _ _ 114 0 [(0, .ref r0), (1, vI a1), (2, vI a2)] [] _ H _
  have u1210 := CU_k hCU_cu
  have b1211 : 0 ≤ H r0 8 ∧ H r0 8 ≤ 1 := hW.box g0 (n := 13) rfl (by decide) rfl
  have _c7 : d 0 0 ≤ 24 := p1.2.1.2.1
  refine wp_of e114 c114_0 (rw_aload_n (pc' := 1) (v := .ref r0) rfl rfl rfl ?_)
  refine wp_of e114 c114_1 (rw_aload_n (pc' := 2) (v := .ref r0) rfl rfl rfl ?_)
  refine wp_of e114 c114_2 (rw_iload_n (pc' := 3) (z := a1) rfl rfl ?_)
  refine wp_of e114 c114_3 (xc_V (pc' := 6) (r := r0) (as := [vI a1]) (st := [.ref r0]) (lm_0_105) rfl rfl (Nat.le_of_ble_eq_true rfl) hW g0 sh_1 (by decide) rfl (by decide) (u_55  hW g0 ⟨i1.1, i1.2⟩ qcu gcu) (fun R1212 T1213 H1214 p1215 => ?_))
  obtain ⟨e1216, e1218, z1219, e1217, b1220, p1221⟩ := p1215
  subst e1216
  subst e1217
  subst e1218
  rcases p1221 with ⟨a1222, a1223⟩ | ⟨a1224, a1225⟩
  · show wp _ _ 114 6 [(0, .ref r0), (1, vI a1), (2, vI a2)] [vI z1219, .ref r0] _ H _
    refine wp_of e114 c114_6 (rw_if_eq (p1 := 21) (p2 := 9) (by decide) rfl ⟨Int.le_trans (by decide) b1220.1, Int.le_trans b1220.2 (by decide)⟩ (fun c1226 => ?_) (fun c1226 => ?_))
    · exfalso
      omega
    · refine wp_of e114 c114_9 (rw_aload_n (pc' := 10) (v := .ref r0) rfl rfl rfl ?_)
      refine wp_of e114 c114_10 (rw_iload_n (pc' := 11) (z := a2) rfl rfl ?_)
      refine wp_of e114 c114_11 (xc_V (pc' := 14) (r := r0) (as := [vI a2]) (st := [.ref r0]) (lm_0_132) rfl rfl (Nat.le_of_ble_eq_true rfl) hW g0 sh_1 (by decide) rfl (by decide) (u_60  hW g0 ⟨i2.1, i2.2⟩ qcu gcu) (fun R1227 T1228 H1229 p1230 => ?_))
      obtain ⟨e1231, e1233, z1234, e1232, b1235, p1236⟩ := p1230
      subst e1231
      subst e1232
      subst e1233
      rcases p1236 with ⟨a1237, a1238⟩ | ⟨a1239, a1240⟩
      · show wp _ _ 114 14 [(0, .ref r0), (1, vI a1), (2, vI a2)] [vI z1234, .ref r0] _ H _
        refine wp_of e114 c114_14 (rw_if_eq (p1 := 21) (p2 := 17) (by decide) rfl ⟨Int.le_trans (by decide) b1235.1, Int.le_trans b1235.2 (by decide)⟩ (fun c1241 => ?_) (fun c1241 => ?_))
        · exfalso
          omega
        · refine wp_of e114 c114_17 (rw_iconst (pc' := 18) rfl ?_)
          refine wp_of e114 c114_18 (rw_goto (p1 := 22) (by decide) ?_)
          refine wp_of e114 c114_22 (xc_V (pc' := 25) (r := r0) (as := [vI 1]) (st := []) (lm_0_174) rfl rfl (Nat.le_of_ble_eq_true rfl) hW g0 sh_1 (by decide) rfl (by decide) (u_83 (e := e) (d := d) (n := n) hW g0 ⟨by decide, by decide⟩ qcu gcu qwa gwa qce gce (by assumption) (by assumption) (by omega) (by omega) (by omega) hCU_cu hCEN_ce hHDR_ce) (fun R1242 T1243 H1244 p1245 => ?_))
          obtain ⟨e1246, w1248, f1249, z1250, e1247, b1251, p1252⟩ := p1245
          subst e1246
          subst e1247
          rcases p1252 with ⟨a1253, a1254, a1255, a1256, a1257, a1258⟩ | ⟨a1259, a1260, a1261⟩
          · have f1262 := f0.tr f1249 rfl
            show wp _ _ 114 25 [(0, .ref r0), (1, vI a1), (2, vI a2)] [vI z1250] _ H1244 _
            refine wp_of e114 c114_25 (rw_istore_n (pc' := 26) (z := z1250) (L' := [(3, vI z1250), (0, .ref r0), (1, vI a1), (2, vI a2)]) rfl rfl rfl ?_)
            refine wp_of e114 c114_26 (rw_iload_n (pc' := 27) (z := z1250) rfl rfl ?_)
            refine wp_of e114 c114_27 (rw_if_eq (p1 := 36) (p2 := 30) (by decide) rfl ⟨Int.le_trans (by decide) b1251.1, Int.le_trans b1251.2 (by decide)⟩ (fun c1263 => ?_) (fun c1263 => ?_))
            · refine wp_of e114 c114_36 (rw_aload_n (pc' := 37) (v := .ref r0) rfl rfl rfl ?_)
              refine wp_of e114 c114_37 (rw_aload_n (pc' := 38) (v := .ref r0) rfl rfl rfl ?_)
              have k1264 : H1244 r0 3 = H r0 3 := (f1249 r0 3 _ g0 rfl)
              have q1265 : H1244 r0 3 = (ce : Int) := k1264.trans qce
              refine wp_of e114 c114_38 (xg_K (pc' := 41) lf_0_30 w1248 g0 sh_1 (by decide) (by decide) rfl q1265 rfl ?_)
              refine wp_of e114 c114_41 (rw_aload_n (pc' := 42) (v := .ref r0) rfl rfl rfl ?_)
              have k1266 : H1244 r0 6 = H r0 6 := (f1249 r0 6 _ g0 rfl)
              have q1267 : H1244 r0 6 = (cu : Int) := k1266.trans qcu
              refine wp_of e114 c114_42 (xg_K (pc' := 45) lf_0_51 w1248 g0 sh_1 (by decide) (by decide) rfl q1267 rfl ?_)
              refine wp_of e114 c114_45 (rw_iload_n (pc' := 46) (z := a1) rfl rfl ?_)
              refine wp_of e114 c114_46 (rw_iload_n (pc' := 47) (z := a2) rfl rfl ?_)
              refine wp_of e114 c114_47 (xc_V (pc' := 50) (r := ce) (as := [.ref cu, vI a1, vI a2]) (st := [.ref r0]) (lm_0_220) rfl rfl (Nat.le_of_ble_eq_true rfl) w1248 gce sh_12 (by decide) rfl (by decide) (s_115 w1248 gce gcu ⟨by omega, by omega⟩ ⟨i2.1, i2.2⟩) (fun R1268 T1269 H1270 p1271 => ?_))
              obtain ⟨e1272, e1274, z1275, e1273, b1276⟩ := p1271
              subst e1272
              subst e1273
              subst e1274
              show wp _ _ 114 50 [(3, vI z1250), (0, .ref r0), (1, vI a1), (2, vI a2)] [vI z1275, .ref r0] _ H1244 _
              refine wp_of e114 c114_50 (xc_V (pc' := 53) (r := r0) (as := [vI z1275]) (st := []) (lm_0_99) rfl rfl (Nat.le_of_ble_eq_true rfl) w1248 g0 sh_1 (by decide) rfl (by decide) (s_51 w1248 g0 ⟨b1276.1, b1276.2⟩) (fun R1277 T1278 H1279 p1280 => ?_))
              obtain ⟨e1281, w1283, f1284, z1285, e1282, b1286⟩ := p1280
              subst e1281
              subst e1282
              have f1287 := f1262.tr f1284 rfl
              show wp _ _ 114 53 [(3, vI z1250), (0, .ref r0), (1, vI a1), (2, vI a2)] [vI z1285] _ H1279 _
              have h1288 : CEN T H1279 ce e d := (CEN_fr w1248 gce f1284 rfl a1256)
              exact wp_ireturn e114 c114_53 rfl ⟨rfl, w1283, f1287, z1285, rfl, ⟨b1286.1, b1286.2⟩, (h1288)⟩
            · exfalso
              omega
          · have f1289 := f0.tr f1249 rfl
            show wp _ _ 114 25 [(0, .ref r0), (1, vI a1), (2, vI a2)] [vI z1250] _ H1244 _
            refine wp_of e114 c114_25 (rw_istore_n (pc' := 26) (z := z1250) (L' := [(3, vI z1250), (0, .ref r0), (1, vI a1), (2, vI a2)]) rfl rfl rfl ?_)
            refine wp_of e114 c114_26 (rw_iload_n (pc' := 27) (z := z1250) rfl rfl ?_)
            refine wp_of e114 c114_27 (rw_if_eq (p1 := 36) (p2 := 30) (by decide) rfl ⟨Int.le_trans (by decide) b1251.1, Int.le_trans b1251.2 (by decide)⟩ (fun c1290 => ?_) (fun c1290 => ?_))
            · exfalso
              omega
            · refine wp_of e114 c114_30 (rw_aload_n (pc' := 31) (v := .ref r0) rfl rfl rfl ?_)
              refine wp_of e114 c114_31 (rw_iload_n (pc' := 32) (z := z1250) rfl rfl ?_)
              refine wp_of e114 c114_32 (xc_V (pc' := 35) (r := r0) (as := [vI z1250]) (st := []) (lm_0_70) rfl rfl (Nat.le_of_ble_eq_true rfl) w1248 g0 sh_1 (by decide) rfl (by decide) (s_12 w1248 g0 ⟨Int.le_trans (by decide) b1251.1, Int.le_trans b1251.2 (by decide)⟩) (fun R1291 T1292 H1293 p1294 => ?_))
              obtain ⟨e1295, w1297, f1298, z1299, e1296, b1300⟩ := p1294
              subst e1295
              subst e1296
              have f1301 := f1289.tr f1298 rfl
              show wp _ _ 114 35 [(3, vI z1250), (0, .ref r0), (1, vI a1), (2, vI a2)] [vI z1299] _ H1293 _
              have h1302 : CEN T H1293 ce e d := (CEN_fr w1248 gce f1298 rfl a1261)
              exact wp_ireturn e114 c114_35 rfl ⟨rfl, w1297, f1301, z1299, rfl, ⟨b1300.1, b1300.2⟩, (h1302)⟩
      · show wp _ _ 114 14 [(0, .ref r0), (1, vI a1), (2, vI a2)] [vI z1234, .ref r0] _ H _
        refine wp_of e114 c114_14 (rw_if_eq (p1 := 21) (p2 := 17) (by decide) rfl ⟨Int.le_trans (by decide) b1235.1, Int.le_trans b1235.2 (by decide)⟩ (fun c1303 => ?_) (fun c1303 => ?_))
        · refine wp_of e114 c114_21 (rw_iconst (pc' := 22) rfl ?_)
          refine wp_of e114 c114_22 (xc_V (pc' := 25) (r := r0) (as := [vI 0]) (st := []) (lm_0_174) rfl rfl (Nat.le_of_ble_eq_true rfl) hW g0 sh_1 (by decide) rfl (by decide) (u_83 (e := e) (d := d) (n := n) hW g0 ⟨by decide, by decide⟩ qcu gcu qwa gwa qce gce (by assumption) (by assumption) (by omega) (by omega) (by omega) hCU_cu hCEN_ce hHDR_ce) (fun R1304 T1305 H1306 p1307 => ?_))
          obtain ⟨e1308, w1310, f1311, z1312, e1309, b1313, p1314⟩ := p1307
          subst e1308
          subst e1309
          rcases p1314 with ⟨a1315, a1316, a1317, a1318, a1319, a1320⟩ | ⟨a1321, a1322, a1323⟩
          · have f1324 := f0.tr f1311 rfl
            show wp _ _ 114 25 [(0, .ref r0), (1, vI a1), (2, vI a2)] [vI z1312] _ H1306 _
            refine wp_of e114 c114_25 (rw_istore_n (pc' := 26) (z := z1312) (L' := [(3, vI z1312), (0, .ref r0), (1, vI a1), (2, vI a2)]) rfl rfl rfl ?_)
            refine wp_of e114 c114_26 (rw_iload_n (pc' := 27) (z := z1312) rfl rfl ?_)
            refine wp_of e114 c114_27 (rw_if_eq (p1 := 36) (p2 := 30) (by decide) rfl ⟨Int.le_trans (by decide) b1313.1, Int.le_trans b1313.2 (by decide)⟩ (fun c1325 => ?_) (fun c1325 => ?_))
            · refine wp_of e114 c114_36 (rw_aload_n (pc' := 37) (v := .ref r0) rfl rfl rfl ?_)
              refine wp_of e114 c114_37 (rw_aload_n (pc' := 38) (v := .ref r0) rfl rfl rfl ?_)
              have k1326 : H1306 r0 3 = H r0 3 := (f1311 r0 3 _ g0 rfl)
              have q1327 : H1306 r0 3 = (ce : Int) := k1326.trans qce
              refine wp_of e114 c114_38 (xg_K (pc' := 41) lf_0_30 w1310 g0 sh_1 (by decide) (by decide) rfl q1327 rfl ?_)
              refine wp_of e114 c114_41 (rw_aload_n (pc' := 42) (v := .ref r0) rfl rfl rfl ?_)
              have k1328 : H1306 r0 6 = H r0 6 := (f1311 r0 6 _ g0 rfl)
              have q1329 : H1306 r0 6 = (cu : Int) := k1328.trans qcu
              refine wp_of e114 c114_42 (xg_K (pc' := 45) lf_0_51 w1310 g0 sh_1 (by decide) (by decide) rfl q1329 rfl ?_)
              refine wp_of e114 c114_45 (rw_iload_n (pc' := 46) (z := a1) rfl rfl ?_)
              refine wp_of e114 c114_46 (rw_iload_n (pc' := 47) (z := a2) rfl rfl ?_)
              refine wp_of e114 c114_47 (xc_V (pc' := 50) (r := ce) (as := [.ref cu, vI a1, vI a2]) (st := [.ref r0]) (lm_0_220) rfl rfl (Nat.le_of_ble_eq_true rfl) w1310 gce sh_12 (by decide) rfl (by decide) (s_115 w1310 gce gcu ⟨by omega, by omega⟩ ⟨i2.1, i2.2⟩) (fun R1330 T1331 H1332 p1333 => ?_))
              obtain ⟨e1334, e1336, z1337, e1335, b1338⟩ := p1333
              subst e1334
              subst e1335
              subst e1336
              show wp _ _ 114 50 [(3, vI z1312), (0, .ref r0), (1, vI a1), (2, vI a2)] [vI z1337, .ref r0] _ H1306 _
              refine wp_of e114 c114_50 (xc_V (pc' := 53) (r := r0) (as := [vI z1337]) (st := []) (lm_0_99) rfl rfl (Nat.le_of_ble_eq_true rfl) w1310 g0 sh_1 (by decide) rfl (by decide) (s_51 w1310 g0 ⟨b1338.1, b1338.2⟩) (fun R1339 T1340 H1341 p1342 => ?_))
              obtain ⟨e1343, w1345, f1346, z1347, e1344, b1348⟩ := p1342
              subst e1343
              subst e1344
              have f1349 := f1324.tr f1346 rfl
              show wp _ _ 114 53 [(3, vI z1312), (0, .ref r0), (1, vI a1), (2, vI a2)] [vI z1347] _ H1341 _
              have h1350 : CEN T H1341 ce e d := (CEN_fr w1310 gce f1346 rfl a1318)
              exact wp_ireturn e114 c114_53 rfl ⟨rfl, w1345, f1349, z1347, rfl, ⟨b1348.1, b1348.2⟩, (h1350)⟩
            · exfalso
              omega
          · have f1351 := f0.tr f1311 rfl
            show wp _ _ 114 25 [(0, .ref r0), (1, vI a1), (2, vI a2)] [vI z1312] _ H1306 _
            refine wp_of e114 c114_25 (rw_istore_n (pc' := 26) (z := z1312) (L' := [(3, vI z1312), (0, .ref r0), (1, vI a1), (2, vI a2)]) rfl rfl rfl ?_)
            refine wp_of e114 c114_26 (rw_iload_n (pc' := 27) (z := z1312) rfl rfl ?_)
            refine wp_of e114 c114_27 (rw_if_eq (p1 := 36) (p2 := 30) (by decide) rfl ⟨Int.le_trans (by decide) b1313.1, Int.le_trans b1313.2 (by decide)⟩ (fun c1352 => ?_) (fun c1352 => ?_))
            · exfalso
              omega
            · refine wp_of e114 c114_30 (rw_aload_n (pc' := 31) (v := .ref r0) rfl rfl rfl ?_)
              refine wp_of e114 c114_31 (rw_iload_n (pc' := 32) (z := z1312) rfl rfl ?_)
              refine wp_of e114 c114_32 (xc_V (pc' := 35) (r := r0) (as := [vI z1312]) (st := []) (lm_0_70) rfl rfl (Nat.le_of_ble_eq_true rfl) w1310 g0 sh_1 (by decide) rfl (by decide) (s_12 w1310 g0 ⟨Int.le_trans (by decide) b1313.1, Int.le_trans b1313.2 (by decide)⟩) (fun R1353 T1354 H1355 p1356 => ?_))
              obtain ⟨e1357, w1359, f1360, z1361, e1358, b1362⟩ := p1356
              subst e1357
              subst e1358
              have f1363 := f1351.tr f1360 rfl
              show wp _ _ 114 35 [(3, vI z1312), (0, .ref r0), (1, vI a1), (2, vI a2)] [vI z1361] _ H1355 _
              have h1364 : CEN T H1355 ce e d := (CEN_fr w1310 gce f1360 rfl a1323)
              exact wp_ireturn e114 c114_35 rfl ⟨rfl, w1359, f1363, z1361, rfl, ⟨b1362.1, b1362.2⟩, (h1364)⟩
        · exfalso
          omega
  · show wp _ _ 114 6 [(0, .ref r0), (1, vI a1), (2, vI a2)] [vI z1219, .ref r0] _ H _
    refine wp_of e114 c114_6 (rw_if_eq (p1 := 21) (p2 := 9) (by decide) rfl ⟨Int.le_trans (by decide) b1220.1, Int.le_trans b1220.2 (by decide)⟩ (fun c1365 => ?_) (fun c1365 => ?_))
    · refine wp_of e114 c114_21 (rw_iconst (pc' := 22) rfl ?_)
      refine wp_of e114 c114_22 (xc_V (pc' := 25) (r := r0) (as := [vI 0]) (st := []) (lm_0_174) rfl rfl (Nat.le_of_ble_eq_true rfl) hW g0 sh_1 (by decide) rfl (by decide) (u_83 (e := e) (d := d) (n := n) hW g0 ⟨by decide, by decide⟩ qcu gcu qwa gwa qce gce (by assumption) (by assumption) (by omega) (by omega) (by omega) hCU_cu hCEN_ce hHDR_ce) (fun R1366 T1367 H1368 p1369 => ?_))
      obtain ⟨e1370, w1372, f1373, z1374, e1371, b1375, p1376⟩ := p1369
      subst e1370
      subst e1371
      rcases p1376 with ⟨a1377, a1378, a1379, a1380, a1381, a1382⟩ | ⟨a1383, a1384, a1385⟩
      · have f1386 := f0.tr f1373 rfl
        show wp _ _ 114 25 [(0, .ref r0), (1, vI a1), (2, vI a2)] [vI z1374] _ H1368 _
        refine wp_of e114 c114_25 (rw_istore_n (pc' := 26) (z := z1374) (L' := [(3, vI z1374), (0, .ref r0), (1, vI a1), (2, vI a2)]) rfl rfl rfl ?_)
        refine wp_of e114 c114_26 (rw_iload_n (pc' := 27) (z := z1374) rfl rfl ?_)
        refine wp_of e114 c114_27 (rw_if_eq (p1 := 36) (p2 := 30) (by decide) rfl ⟨Int.le_trans (by decide) b1375.1, Int.le_trans b1375.2 (by decide)⟩ (fun c1387 => ?_) (fun c1387 => ?_))
        · refine wp_of e114 c114_36 (rw_aload_n (pc' := 37) (v := .ref r0) rfl rfl rfl ?_)
          refine wp_of e114 c114_37 (rw_aload_n (pc' := 38) (v := .ref r0) rfl rfl rfl ?_)
          have k1388 : H1368 r0 3 = H r0 3 := (f1373 r0 3 _ g0 rfl)
          have q1389 : H1368 r0 3 = (ce : Int) := k1388.trans qce
          refine wp_of e114 c114_38 (xg_K (pc' := 41) lf_0_30 w1372 g0 sh_1 (by decide) (by decide) rfl q1389 rfl ?_)
          refine wp_of e114 c114_41 (rw_aload_n (pc' := 42) (v := .ref r0) rfl rfl rfl ?_)
          have k1390 : H1368 r0 6 = H r0 6 := (f1373 r0 6 _ g0 rfl)
          have q1391 : H1368 r0 6 = (cu : Int) := k1390.trans qcu
          refine wp_of e114 c114_42 (xg_K (pc' := 45) lf_0_51 w1372 g0 sh_1 (by decide) (by decide) rfl q1391 rfl ?_)
          refine wp_of e114 c114_45 (rw_iload_n (pc' := 46) (z := a1) rfl rfl ?_)
          refine wp_of e114 c114_46 (rw_iload_n (pc' := 47) (z := a2) rfl rfl ?_)
          refine wp_of e114 c114_47 (xc_V (pc' := 50) (r := ce) (as := [.ref cu, vI a1, vI a2]) (st := [.ref r0]) (lm_0_220) rfl rfl (Nat.le_of_ble_eq_true rfl) w1372 gce sh_12 (by decide) rfl (by decide) (s_115 w1372 gce gcu ⟨by omega, by omega⟩ ⟨i2.1, i2.2⟩) (fun R1392 T1393 H1394 p1395 => ?_))
          obtain ⟨e1396, e1398, z1399, e1397, b1400⟩ := p1395
          subst e1396
          subst e1397
          subst e1398
          show wp _ _ 114 50 [(3, vI z1374), (0, .ref r0), (1, vI a1), (2, vI a2)] [vI z1399, .ref r0] _ H1368 _
          refine wp_of e114 c114_50 (xc_V (pc' := 53) (r := r0) (as := [vI z1399]) (st := []) (lm_0_99) rfl rfl (Nat.le_of_ble_eq_true rfl) w1372 g0 sh_1 (by decide) rfl (by decide) (s_51 w1372 g0 ⟨b1400.1, b1400.2⟩) (fun R1401 T1402 H1403 p1404 => ?_))
          obtain ⟨e1405, w1407, f1408, z1409, e1406, b1410⟩ := p1404
          subst e1405
          subst e1406
          have f1411 := f1386.tr f1408 rfl
          show wp _ _ 114 53 [(3, vI z1374), (0, .ref r0), (1, vI a1), (2, vI a2)] [vI z1409] _ H1403 _
          have h1412 : CEN T H1403 ce e d := (CEN_fr w1372 gce f1408 rfl a1380)
          exact wp_ireturn e114 c114_53 rfl ⟨rfl, w1407, f1411, z1409, rfl, ⟨b1410.1, b1410.2⟩, (h1412)⟩
        · exfalso
          omega
      · have f1413 := f0.tr f1373 rfl
        show wp _ _ 114 25 [(0, .ref r0), (1, vI a1), (2, vI a2)] [vI z1374] _ H1368 _
        refine wp_of e114 c114_25 (rw_istore_n (pc' := 26) (z := z1374) (L' := [(3, vI z1374), (0, .ref r0), (1, vI a1), (2, vI a2)]) rfl rfl rfl ?_)
        refine wp_of e114 c114_26 (rw_iload_n (pc' := 27) (z := z1374) rfl rfl ?_)
        refine wp_of e114 c114_27 (rw_if_eq (p1 := 36) (p2 := 30) (by decide) rfl ⟨Int.le_trans (by decide) b1375.1, Int.le_trans b1375.2 (by decide)⟩ (fun c1414 => ?_) (fun c1414 => ?_))
        · exfalso
          omega
        · refine wp_of e114 c114_30 (rw_aload_n (pc' := 31) (v := .ref r0) rfl rfl rfl ?_)
          refine wp_of e114 c114_31 (rw_iload_n (pc' := 32) (z := z1374) rfl rfl ?_)
          refine wp_of e114 c114_32 (xc_V (pc' := 35) (r := r0) (as := [vI z1374]) (st := []) (lm_0_70) rfl rfl (Nat.le_of_ble_eq_true rfl) w1372 g0 sh_1 (by decide) rfl (by decide) (s_12 w1372 g0 ⟨Int.le_trans (by decide) b1375.1, Int.le_trans b1375.2 (by decide)⟩) (fun R1415 T1416 H1417 p1418 => ?_))
          obtain ⟨e1419, w1421, f1422, z1423, e1420, b1424⟩ := p1418
          subst e1419
          subst e1420
          have f1425 := f1413.tr f1422 rfl
          show wp _ _ 114 35 [(3, vI z1374), (0, .ref r0), (1, vI a1), (2, vI a2)] [vI z1423] _ H1417 _
          have h1426 : CEN T H1417 ce e d := (CEN_fr w1372 gce f1422 rfl a1385)
          exact wp_ireturn e114 c114_35 rfl ⟨rfl, w1421, f1425, z1423, rfl, ⟨b1424.1, b1424.2⟩, (h1426)⟩
    · exfalso
      omega
/-! StrikeAwake.bed(IZ)I  -/
abbrev uq_117 (r0 : Nat) (a1 : Int) (a2 : Int) (cu : Nat) (wa : Nat) (ce : Nat) (e : xD) (d : xD) (n : Int) (T : wq_T) (H : wq_H) : Option Value → wq_T → wq_H → Prop := fun r T' H' => T = T' ∧ WT T H' ∧ wfr [(12, 5), (12, 6), (12, 7), (12, 8), (12, 9), (1, 10), (6, 5), (8, 999), (10, 999), (15, 999), (9, 999), (18, 999), (19, 999), (7, 999), (11, 999), (17, 999), (13, 999)] T H H' ∧ ∃ z : Int, some (vI z) = r ∧ ((-2147483648) ≤ z ∧ z ≤ 2147483647) ∧ ((CEN T H' ce e d))
set_option maxHeartbeats 4000000 in
theorem u_117 {kt : Nat → Option mc_E} {T : wq_T} {H : wq_H} {r0 : Nat} {a1 : Int} {a2 : Int} {cu : Nat} {wa : Nat} {ce : Nat} {e : xD} {d : xD} {n : Int} (hW : WT T H) (g0 : T.2.2.2 r0 = some 1) (i1 : (-2147483648) ≤ a1 ∧ a1 ≤ 2147483647) (i2 : 0 ≤ a2 ∧ a2 ≤ 1) (qcu : H r0 6 = (cu : Int)) (gcu : T.2.2.2 cu = some 27) (qwa : H r0 2 = (wa : Int)) (gwa : T.2.2.2 wa = some 6) (qce : H r0 3 = (ce : Int)) (gce : T.2.2.2 ce = some 12) (p0 : ∀ i, i ≠ 13 → e i = d i) (p1 : XW d) (p2 : e 0 3 = d 0 3) (p3 : e 0 0 = d 0 0) (p4 : H r0 8 = 0 ∨ n = xlots d) (p5 : H r0 8 ≠ 0 ∨ (d 0 3 = 0 ∧ d 0 0 = 0)) (hCU_cu : CU T H cu e d n) (hCEN_ce : CEN T H ce e d) (hHDR_ce : HDR T H ce ) : wpc kt 7 117 [.ref r0, vI a1, vI a2] T H (uq_117 r0 a1 a2 cu wa ce e d n T H) := by
  refine wp_enter e117 (Nat.le_of_ble_eq_true rfl) rfl ?_
  have f0 : wfr [(12, 5), (12, 6), (12, 7), (12, 8), (12, 9), (1, 10), (6, 5), (8, 999), (10, 999), (15, 999), (9, 999), (18, 999), (19, 999), (7, 999), (11, 999), (17, 999), (13, 999)] T H H := wfr.rf
  show wp _ _ 117 0 [(0, .ref r0), (1, vI a1), (2, vI a2)] [] _ H _
  have u1153 := CU_k hCU_cu
  have b1154 : 0 ≤ H r0 8 ∧ H r0 8 ≤ 1 := hW.box g0 (n := 13) rfl (by decide) rfl
  have _c7 : d 0 0 ≤ 24 := p1.2.1.2.1
  refine wp_of e117 c117_0 (rw_aload_n (pc' := 1) (v := .ref r0) rfl rfl rfl ?_)
  refine wp_of e117 c117_1 (rw_aload_n (pc' := 2) (v := .ref r0) rfl rfl rfl ?_)
  refine wp_of e117 c117_2 (rw_iload_n (pc' := 3) (z := a1) rfl rfl ?_)
  refine wp_of e117 c117_3 (xc_V (pc' := 6) (r := r0) (as := [vI a1]) (st := [.ref r0]) (lm_0_105) rfl rfl (Nat.le_of_ble_eq_true rfl) hW g0 sh_1 (by decide) rfl (by decide) (u_55  hW g0 ⟨i1.1, i1.2⟩ qcu gcu) (fun R1155 T1156 H1157 p1158 => ?_))
  obtain ⟨e1159, e1161, z1162, e1160, b1163, p1164⟩ := p1158
  subst e1159
  subst e1160
  subst e1161
  rcases p1164 with ⟨a1165, a1166⟩ | ⟨a1167, a1168⟩
  · show wp _ _ 117 6 [(0, .ref r0), (1, vI a1), (2, vI a2)] [vI z1162, .ref r0] _ H _
    refine wp_of e117 c117_6 (xc_V (pc' := 9) (r := r0) (as := [vI z1162]) (st := []) (lm_0_198) rfl rfl (Nat.le_of_ble_eq_true rfl) hW g0 sh_1 (by decide) rfl (by decide) (u_102 (e := e) (d := d) (n := n) hW g0 ⟨b1163.1, b1163.2⟩ qcu gcu qwa gwa qce gce (by assumption) (by assumption) (by omega) (by omega) (by omega) hCU_cu hCEN_ce hHDR_ce) (fun R1169 T1170 H1171 p1172 => ?_))
    obtain ⟨e1173, w1175, f1176, z1177, e1174, b1178, p1179⟩ := p1172
    subst e1173
    subst e1174
    rcases p1179 with ⟨a1180, a1181, a1182, a1183, a1184, a1185, a1186⟩ | ⟨a1187, a1188, a1189⟩
    · have f1190 := f0.tr f1176 rfl
      show wp _ _ 117 9 [(0, .ref r0), (1, vI a1), (2, vI a2)] [vI z1177] _ H1171 _
      refine wp_of e117 c117_9 (rw_istore_n (pc' := 10) (z := z1177) (L' := [(3, vI z1177), (0, .ref r0), (1, vI a1), (2, vI a2)]) rfl rfl rfl ?_)
      refine wp_of e117 c117_10 (rw_iload_n (pc' := 11) (z := z1177) rfl rfl ?_)
      refine wp_of e117 c117_11 (rw_if_eq (p1 := 20) (p2 := 14) (by decide) rfl ⟨Int.le_trans (by decide) b1178.1, Int.le_trans b1178.2 (by decide)⟩ (fun c1191 => ?_) (fun c1191 => ?_))
      · refine wp_of e117 c117_20 (rw_aload_n (pc' := 21) (v := .ref r0) rfl rfl rfl ?_)
        refine wp_of e117 c117_21 (rw_aload_n (pc' := 22) (v := .ref r0) rfl rfl rfl ?_)
        have k1192 : H1171 r0 3 = H r0 3 := (f1176 r0 3 _ g0 rfl)
        have q1193 : H1171 r0 3 = (ce : Int) := k1192.trans qce
        refine wp_of e117 c117_22 (xg_K (pc' := 25) lf_0_30 w1175 g0 sh_1 (by decide) (by decide) rfl q1193 rfl ?_)
        refine wp_of e117 c117_25 (rw_aload_n (pc' := 26) (v := .ref r0) rfl rfl rfl ?_)
        have k1194 : H1171 r0 6 = H r0 6 := (f1176 r0 6 _ g0 rfl)
        have q1195 : H1171 r0 6 = (cu : Int) := k1194.trans qcu
        refine wp_of e117 c117_26 (xg_K (pc' := 29) lf_0_51 w1175 g0 sh_1 (by decide) (by decide) rfl q1195 rfl ?_)
        refine wp_of e117 c117_29 (xg_R (pc' := 32) lf_0_109 w1175 gcu sh_27 (by decide) (by decide) ty_27_0 rfl rfl (fun r1196 q1197 g1198 => ?_))
        refine wp_of e117 c117_32 (rw_iload_n (pc' := 33) (z := a1) rfl rfl ?_)
        refine wp_of e117 c117_33 (xa_R (pc' := 34) (by decide) w1175 g1198 sh_28 (by decide) (ty_28 _) (by omega) (by omega) rfl (fun r1199 q1200 g1201 => ?_))
        refine wp_of e117 c117_34 (xg_R (pc' := 37) lf_0_125 w1175 g1201 sh_35 (by decide) (by decide) ty_35_0 rfl rfl (fun r1202 q1203 g1204 => ?_))
        refine wp_of e117 c117_37 (rw_iload_n (pc' := 38) (z := a1) rfl rfl ?_)
        refine wp_of e117 c117_38 (rw_iload_n (pc' := 39) (z := a2) rfl rfl ?_)
        refine wp_of e117 c117_39 (xc_V (pc' := 42) (r := ce) (as := [.ref r1202, vI a1, vI a2]) (st := [.ref r0]) (lm_0_223) rfl rfl (Nat.le_of_ble_eq_true rfl) w1175 gce sh_12 (by decide) rfl (by decide) (s_118_b w1175 gce g1204 ⟨by omega, by omega⟩ ⟨i2.1, i2.2⟩) (fun R1205 T1206 H1207 p1208 => ?_))
        obtain ⟨e1209, e1211, z1212, e1210, b1213⟩ := p1208
        subst e1209
        subst e1210
        subst e1211
        show wp _ _ 117 42 [(3, vI z1177), (0, .ref r0), (1, vI a1), (2, vI a2)] [vI z1212, .ref r0] _ H1171 _
        refine wp_of e117 c117_42 (xc_V (pc' := 45) (r := r0) (as := [vI z1212]) (st := []) (lm_0_99) rfl rfl (Nat.le_of_ble_eq_true rfl) w1175 g0 sh_1 (by decide) rfl (by decide) (s_51 w1175 g0 ⟨b1213.1, b1213.2⟩) (fun R1214 T1215 H1216 p1217 => ?_))
        obtain ⟨e1218, w1220, f1221, z1222, e1219, b1223⟩ := p1217
        subst e1218
        subst e1219
        have f1224 := f1190.tr f1221 rfl
        show wp _ _ 117 45 [(3, vI z1177), (0, .ref r0), (1, vI a1), (2, vI a2)] [vI z1222] _ H1216 _
        have h1225 : CEN T H1216 ce e d := (CEN_fr w1175 gce f1221 rfl a1184)
        exact wp_ireturn e117 c117_45 rfl ⟨rfl, w1220, f1224, z1222, rfl, ⟨b1223.1, b1223.2⟩, (h1225)⟩
      · exfalso
        omega
    · have f1226 := f0.tr f1176 rfl
      show wp _ _ 117 9 [(0, .ref r0), (1, vI a1), (2, vI a2)] [vI z1177] _ H1171 _
      refine wp_of e117 c117_9 (rw_istore_n (pc' := 10) (z := z1177) (L' := [(3, vI z1177), (0, .ref r0), (1, vI a1), (2, vI a2)]) rfl rfl rfl ?_)
      refine wp_of e117 c117_10 (rw_iload_n (pc' := 11) (z := z1177) rfl rfl ?_)
      refine wp_of e117 c117_11 (rw_if_eq (p1 := 20) (p2 := 14) (by decide) rfl ⟨Int.le_trans (by decide) b1178.1, Int.le_trans b1178.2 (by decide)⟩ (fun c1227 => ?_) (fun c1227 => ?_))
      · exfalso
        omega
      · refine wp_of e117 c117_14 (rw_aload_n (pc' := 15) (v := .ref r0) rfl rfl rfl ?_)
        refine wp_of e117 c117_15 (rw_iload_n (pc' := 16) (z := z1177) rfl rfl ?_)
        refine wp_of e117 c117_16 (xc_V (pc' := 19) (r := r0) (as := [vI z1177]) (st := []) (lm_0_70) rfl rfl (Nat.le_of_ble_eq_true rfl) w1175 g0 sh_1 (by decide) rfl (by decide) (s_12 w1175 g0 ⟨Int.le_trans (by decide) b1178.1, Int.le_trans b1178.2 (by decide)⟩) (fun R1228 T1229 H1230 p1231 => ?_))
        obtain ⟨e1232, w1234, f1235, z1236, e1233, b1237⟩ := p1231
        subst e1232
        subst e1233
        have f1238 := f1226.tr f1235 rfl
        show wp _ _ 117 19 [(3, vI z1177), (0, .ref r0), (1, vI a1), (2, vI a2)] [vI z1236] _ H1230 _
        have h1239 : CEN T H1230 ce e d := (CEN_fr w1175 gce f1235 rfl a1189)
        exact wp_ireturn e117 c117_19 rfl ⟨rfl, w1234, f1238, z1236, rfl, ⟨b1237.1, b1237.2⟩, (h1239)⟩
  · show wp _ _ 117 6 [(0, .ref r0), (1, vI a1), (2, vI a2)] [vI z1162, .ref r0] _ H _
    refine wp_of e117 c117_6 (xc_V (pc' := 9) (r := r0) (as := [vI z1162]) (st := []) (lm_0_198) rfl rfl (Nat.le_of_ble_eq_true rfl) hW g0 sh_1 (by decide) rfl (by decide) (u_102 (e := e) (d := d) (n := n) hW g0 ⟨b1163.1, b1163.2⟩ qcu gcu qwa gwa qce gce (by assumption) (by assumption) (by omega) (by omega) (by omega) hCU_cu hCEN_ce hHDR_ce) (fun R1240 T1241 H1242 p1243 => ?_))
    obtain ⟨e1244, w1246, f1247, z1248, e1245, b1249, p1250⟩ := p1243
    subst e1244
    subst e1245
    rcases p1250 with ⟨a1251, a1252, a1253, a1254, a1255, a1256, a1257⟩ | ⟨a1258, a1259, a1260⟩
    · have f1261 := f0.tr f1247 rfl
      show wp _ _ 117 9 [(0, .ref r0), (1, vI a1), (2, vI a2)] [vI z1248] _ H1242 _
      refine wp_of e117 c117_9 (rw_istore_n (pc' := 10) (z := z1248) (L' := [(3, vI z1248), (0, .ref r0), (1, vI a1), (2, vI a2)]) rfl rfl rfl ?_)
      refine wp_of e117 c117_10 (rw_iload_n (pc' := 11) (z := z1248) rfl rfl ?_)
      refine wp_of e117 c117_11 (rw_if_eq (p1 := 20) (p2 := 14) (by decide) rfl ⟨Int.le_trans (by decide) b1249.1, Int.le_trans b1249.2 (by decide)⟩ (fun c1262 => ?_) (fun c1262 => ?_))
      · refine wp_of e117 c117_20 (rw_aload_n (pc' := 21) (v := .ref r0) rfl rfl rfl ?_)
        refine wp_of e117 c117_21 (rw_aload_n (pc' := 22) (v := .ref r0) rfl rfl rfl ?_)
        have k1263 : H1242 r0 3 = H r0 3 := (f1247 r0 3 _ g0 rfl)
        have q1264 : H1242 r0 3 = (ce : Int) := k1263.trans qce
        refine wp_of e117 c117_22 (xg_K (pc' := 25) lf_0_30 w1246 g0 sh_1 (by decide) (by decide) rfl q1264 rfl ?_)
        refine wp_of e117 c117_25 (rw_aload_n (pc' := 26) (v := .ref r0) rfl rfl rfl ?_)
        have k1265 : H1242 r0 6 = H r0 6 := (f1247 r0 6 _ g0 rfl)
        have q1266 : H1242 r0 6 = (cu : Int) := k1265.trans qcu
        refine wp_of e117 c117_26 (xg_K (pc' := 29) lf_0_51 w1246 g0 sh_1 (by decide) (by decide) rfl q1266 rfl ?_)
        refine wp_of e117 c117_29 (xg_R (pc' := 32) lf_0_109 w1246 gcu sh_27 (by decide) (by decide) ty_27_0 rfl rfl (fun r1267 q1268 g1269 => ?_))
        refine wp_of e117 c117_32 (rw_iload_n (pc' := 33) (z := a1) rfl rfl ?_)
        refine wp_of e117 c117_33 (xa_R (pc' := 34) (by decide) w1246 g1269 sh_28 (by decide) (ty_28 _) (by omega) (by omega) rfl (fun r1270 q1271 g1272 => ?_))
        refine wp_of e117 c117_34 (xg_R (pc' := 37) lf_0_125 w1246 g1272 sh_35 (by decide) (by decide) ty_35_0 rfl rfl (fun r1273 q1274 g1275 => ?_))
        refine wp_of e117 c117_37 (rw_iload_n (pc' := 38) (z := a1) rfl rfl ?_)
        refine wp_of e117 c117_38 (rw_iload_n (pc' := 39) (z := a2) rfl rfl ?_)
        refine wp_of e117 c117_39 (xc_V (pc' := 42) (r := ce) (as := [.ref r1273, vI a1, vI a2]) (st := [.ref r0]) (lm_0_223) rfl rfl (Nat.le_of_ble_eq_true rfl) w1246 gce sh_12 (by decide) rfl (by decide) (s_118_b w1246 gce g1275 ⟨by omega, by omega⟩ ⟨i2.1, i2.2⟩) (fun R1276 T1277 H1278 p1279 => ?_))
        obtain ⟨e1280, e1282, z1283, e1281, b1284⟩ := p1279
        subst e1280
        subst e1281
        subst e1282
        show wp _ _ 117 42 [(3, vI z1248), (0, .ref r0), (1, vI a1), (2, vI a2)] [vI z1283, .ref r0] _ H1242 _
        refine wp_of e117 c117_42 (xc_V (pc' := 45) (r := r0) (as := [vI z1283]) (st := []) (lm_0_99) rfl rfl (Nat.le_of_ble_eq_true rfl) w1246 g0 sh_1 (by decide) rfl (by decide) (s_51 w1246 g0 ⟨b1284.1, b1284.2⟩) (fun R1285 T1286 H1287 p1288 => ?_))
        obtain ⟨e1289, w1291, f1292, z1293, e1290, b1294⟩ := p1288
        subst e1289
        subst e1290
        have f1295 := f1261.tr f1292 rfl
        show wp _ _ 117 45 [(3, vI z1248), (0, .ref r0), (1, vI a1), (2, vI a2)] [vI z1293] _ H1287 _
        have h1296 : CEN T H1287 ce e d := (CEN_fr w1246 gce f1292 rfl a1255)
        exact wp_ireturn e117 c117_45 rfl ⟨rfl, w1291, f1295, z1293, rfl, ⟨b1294.1, b1294.2⟩, (h1296)⟩
      · exfalso
        omega
    · have f1297 := f0.tr f1247 rfl
      show wp _ _ 117 9 [(0, .ref r0), (1, vI a1), (2, vI a2)] [vI z1248] _ H1242 _
      refine wp_of e117 c117_9 (rw_istore_n (pc' := 10) (z := z1248) (L' := [(3, vI z1248), (0, .ref r0), (1, vI a1), (2, vI a2)]) rfl rfl rfl ?_)
      refine wp_of e117 c117_10 (rw_iload_n (pc' := 11) (z := z1248) rfl rfl ?_)
      refine wp_of e117 c117_11 (rw_if_eq (p1 := 20) (p2 := 14) (by decide) rfl ⟨Int.le_trans (by decide) b1249.1, Int.le_trans b1249.2 (by decide)⟩ (fun c1298 => ?_) (fun c1298 => ?_))
      · exfalso
        omega
      · refine wp_of e117 c117_14 (rw_aload_n (pc' := 15) (v := .ref r0) rfl rfl rfl ?_)
        refine wp_of e117 c117_15 (rw_iload_n (pc' := 16) (z := z1248) rfl rfl ?_)
        refine wp_of e117 c117_16 (xc_V (pc' := 19) (r := r0) (as := [vI z1248]) (st := []) (lm_0_70) rfl rfl (Nat.le_of_ble_eq_true rfl) w1246 g0 sh_1 (by decide) rfl (by decide) (s_12 w1246 g0 ⟨Int.le_trans (by decide) b1249.1, Int.le_trans b1249.2 (by decide)⟩) (fun R1299 T1300 H1301 p1302 => ?_))
        obtain ⟨e1303, w1305, f1306, z1307, e1304, b1308⟩ := p1302
        subst e1303
        subst e1304
        have f1309 := f1297.tr f1306 rfl
        show wp _ _ 117 19 [(3, vI z1248), (0, .ref r0), (1, vI a1), (2, vI a2)] [vI z1307] _ H1301 _
        have h1310 : CEN T H1301 ce e d := (CEN_fr w1246 gce f1306 rfl a1260)
        exact wp_ireturn e117 c117_19 rfl ⟨rfl, w1305, f1309, z1307, rfl, ⟨b1308.1, b1308.2⟩, (h1310)⟩
/-! StrikeAwake.sleeps(IZ)I  -/
abbrev uq_119 (r0 : Nat) (a1 : Int) (a2 : Int) (cu : Nat) (wa : Nat) (ce : Nat) (e : xD) (d : xD) (n : Int) (T : wq_T) (H : wq_H) : Option Value → wq_T → wq_H → Prop := fun r T' H' => T = T' ∧ WT T H' ∧ wfr [(12, 5), (12, 6), (12, 7), (12, 8), (12, 9), (1, 10), (6, 5), (8, 999), (10, 999), (15, 999), (9, 999), (18, 999), (19, 999), (7, 999), (11, 999), (17, 999), (13, 999)] T H H' ∧ ∃ z : Int, some (vI z) = r ∧ ((-2147483648) ≤ z ∧ z ≤ 2147483647) ∧ ((CEN T H' ce e d))
set_option maxHeartbeats 4000000 in
theorem u_119 {kt : Nat → Option mc_E} {T : wq_T} {H : wq_H} {r0 : Nat} {a1 : Int} {a2 : Int} {cu : Nat} {wa : Nat} {ce : Nat} {e : xD} {d : xD} {n : Int} (hW : WT T H) (g0 : T.2.2.2 r0 = some 1) (i1 : (-2147483648) ≤ a1 ∧ a1 ≤ 2147483647) (i2 : 0 ≤ a2 ∧ a2 ≤ 1) (qcu : H r0 6 = (cu : Int)) (gcu : T.2.2.2 cu = some 27) (qwa : H r0 2 = (wa : Int)) (gwa : T.2.2.2 wa = some 6) (qce : H r0 3 = (ce : Int)) (gce : T.2.2.2 ce = some 12) (p0 : ∀ i, i ≠ 13 → e i = d i) (p1 : XW d) (p2 : e 0 3 = d 0 3) (p3 : e 0 0 = d 0 0) (p4 : H r0 8 = 0 ∨ n = xlots d) (p5 : H r0 8 ≠ 0 ∨ (d 0 3 = 0 ∧ d 0 0 = 0)) (hCU_cu : CU T H cu e d n) (hCEN_ce : CEN T H ce e d) (hHDR_ce : HDR T H ce ) : wpc kt 7 119 [.ref r0, vI a1, vI a2] T H (uq_119 r0 a1 a2 cu wa ce e d n T H) := by
  refine wp_enter e119 (Nat.le_of_ble_eq_true rfl) rfl ?_
  have f0 : wfr [(12, 5), (12, 6), (12, 7), (12, 8), (12, 9), (1, 10), (6, 5), (8, 999), (10, 999), (15, 999), (9, 999), (18, 999), (19, 999), (7, 999), (11, 999), (17, 999), (13, 999)] T H H := wfr.rf
  show wp _ _ 119 0 [(0, .ref r0), (1, vI a1), (2, vI a2)] [] _ H _
  have u1153 := CU_k hCU_cu
  have b1154 : 0 ≤ H r0 8 ∧ H r0 8 ≤ 1 := hW.box g0 (n := 13) rfl (by decide) rfl
  have _c7 : d 0 0 ≤ 24 := p1.2.1.2.1
  refine wp_of e119 c119_0 (rw_aload_n (pc' := 1) (v := .ref r0) rfl rfl rfl ?_)
  refine wp_of e119 c119_1 (rw_aload_n (pc' := 2) (v := .ref r0) rfl rfl rfl ?_)
  refine wp_of e119 c119_2 (rw_iload_n (pc' := 3) (z := a1) rfl rfl ?_)
  refine wp_of e119 c119_3 (xc_V (pc' := 6) (r := r0) (as := [vI a1]) (st := [.ref r0]) (lm_0_105) rfl rfl (Nat.le_of_ble_eq_true rfl) hW g0 sh_1 (by decide) rfl (by decide) (u_55  hW g0 ⟨i1.1, i1.2⟩ qcu gcu) (fun R1155 T1156 H1157 p1158 => ?_))
  obtain ⟨e1159, e1161, z1162, e1160, b1163, p1164⟩ := p1158
  subst e1159
  subst e1160
  subst e1161
  rcases p1164 with ⟨a1165, a1166⟩ | ⟨a1167, a1168⟩
  · show wp _ _ 119 6 [(0, .ref r0), (1, vI a1), (2, vI a2)] [vI z1162, .ref r0] _ H _
    refine wp_of e119 c119_6 (xc_V (pc' := 9) (r := r0) (as := [vI z1162]) (st := []) (lm_0_198) rfl rfl (Nat.le_of_ble_eq_true rfl) hW g0 sh_1 (by decide) rfl (by decide) (u_102 (e := e) (d := d) (n := n) hW g0 ⟨b1163.1, b1163.2⟩ qcu gcu qwa gwa qce gce (by assumption) (by assumption) (by omega) (by omega) (by omega) hCU_cu hCEN_ce hHDR_ce) (fun R1169 T1170 H1171 p1172 => ?_))
    obtain ⟨e1173, w1175, f1176, z1177, e1174, b1178, p1179⟩ := p1172
    subst e1173
    subst e1174
    rcases p1179 with ⟨a1180, a1181, a1182, a1183, a1184, a1185, a1186⟩ | ⟨a1187, a1188, a1189⟩
    · have f1190 := f0.tr f1176 rfl
      show wp _ _ 119 9 [(0, .ref r0), (1, vI a1), (2, vI a2)] [vI z1177] _ H1171 _
      refine wp_of e119 c119_9 (rw_istore_n (pc' := 10) (z := z1177) (L' := [(3, vI z1177), (0, .ref r0), (1, vI a1), (2, vI a2)]) rfl rfl rfl ?_)
      refine wp_of e119 c119_10 (rw_iload_n (pc' := 11) (z := z1177) rfl rfl ?_)
      refine wp_of e119 c119_11 (rw_if_eq (p1 := 20) (p2 := 14) (by decide) rfl ⟨Int.le_trans (by decide) b1178.1, Int.le_trans b1178.2 (by decide)⟩ (fun c1191 => ?_) (fun c1191 => ?_))
      · refine wp_of e119 c119_20 (rw_aload_n (pc' := 21) (v := .ref r0) rfl rfl rfl ?_)
        refine wp_of e119 c119_21 (rw_aload_n (pc' := 22) (v := .ref r0) rfl rfl rfl ?_)
        have k1192 : H1171 r0 3 = H r0 3 := (f1176 r0 3 _ g0 rfl)
        have q1193 : H1171 r0 3 = (ce : Int) := k1192.trans qce
        refine wp_of e119 c119_22 (xg_K (pc' := 25) lf_0_30 w1175 g0 sh_1 (by decide) (by decide) rfl q1193 rfl ?_)
        refine wp_of e119 c119_25 (rw_aload_n (pc' := 26) (v := .ref r0) rfl rfl rfl ?_)
        have k1194 : H1171 r0 6 = H r0 6 := (f1176 r0 6 _ g0 rfl)
        have q1195 : H1171 r0 6 = (cu : Int) := k1194.trans qcu
        refine wp_of e119 c119_26 (xg_K (pc' := 29) lf_0_51 w1175 g0 sh_1 (by decide) (by decide) rfl q1195 rfl ?_)
        refine wp_of e119 c119_29 (xg_R (pc' := 32) lf_0_109 w1175 gcu sh_27 (by decide) (by decide) ty_27_0 rfl rfl (fun r1196 q1197 g1198 => ?_))
        refine wp_of e119 c119_32 (rw_iload_n (pc' := 33) (z := a1) rfl rfl ?_)
        refine wp_of e119 c119_33 (xa_R (pc' := 34) (by decide) w1175 g1198 sh_28 (by decide) (ty_28 _) (by omega) (by omega) rfl (fun r1199 q1200 g1201 => ?_))
        refine wp_of e119 c119_34 (xg_R (pc' := 37) lf_0_129 w1175 g1201 sh_35 (by decide) (by decide) ty_35_1 rfl rfl (fun r1202 q1203 g1204 => ?_))
        refine wp_of e119 c119_37 (rw_iload_n (pc' := 38) (z := a1) rfl rfl ?_)
        refine wp_of e119 c119_38 (rw_iload_n (pc' := 39) (z := a2) rfl rfl ?_)
        refine wp_of e119 c119_39 (xc_V (pc' := 42) (r := ce) (as := [.ref r1202, vI a1, vI a2]) (st := [.ref r0]) (lm_0_223) rfl rfl (Nat.le_of_ble_eq_true rfl) w1175 gce sh_12 (by decide) rfl (by decide) (s_118_s w1175 gce g1204 ⟨by omega, by omega⟩ ⟨i2.1, i2.2⟩) (fun R1205 T1206 H1207 p1208 => ?_))
        obtain ⟨e1209, e1211, z1212, e1210, b1213⟩ := p1208
        subst e1209
        subst e1210
        subst e1211
        show wp _ _ 119 42 [(3, vI z1177), (0, .ref r0), (1, vI a1), (2, vI a2)] [vI z1212, .ref r0] _ H1171 _
        refine wp_of e119 c119_42 (xc_V (pc' := 45) (r := r0) (as := [vI z1212]) (st := []) (lm_0_99) rfl rfl (Nat.le_of_ble_eq_true rfl) w1175 g0 sh_1 (by decide) rfl (by decide) (s_51 w1175 g0 ⟨b1213.1, b1213.2⟩) (fun R1214 T1215 H1216 p1217 => ?_))
        obtain ⟨e1218, w1220, f1221, z1222, e1219, b1223⟩ := p1217
        subst e1218
        subst e1219
        have f1224 := f1190.tr f1221 rfl
        show wp _ _ 119 45 [(3, vI z1177), (0, .ref r0), (1, vI a1), (2, vI a2)] [vI z1222] _ H1216 _
        have h1225 : CEN T H1216 ce e d := (CEN_fr w1175 gce f1221 rfl a1184)
        exact wp_ireturn e119 c119_45 rfl ⟨rfl, w1220, f1224, z1222, rfl, ⟨b1223.1, b1223.2⟩, (h1225)⟩
      · exfalso
        omega
    · have f1226 := f0.tr f1176 rfl
      show wp _ _ 119 9 [(0, .ref r0), (1, vI a1), (2, vI a2)] [vI z1177] _ H1171 _
      refine wp_of e119 c119_9 (rw_istore_n (pc' := 10) (z := z1177) (L' := [(3, vI z1177), (0, .ref r0), (1, vI a1), (2, vI a2)]) rfl rfl rfl ?_)
      refine wp_of e119 c119_10 (rw_iload_n (pc' := 11) (z := z1177) rfl rfl ?_)
      refine wp_of e119 c119_11 (rw_if_eq (p1 := 20) (p2 := 14) (by decide) rfl ⟨Int.le_trans (by decide) b1178.1, Int.le_trans b1178.2 (by decide)⟩ (fun c1227 => ?_) (fun c1227 => ?_))
      · exfalso
        omega
      · refine wp_of e119 c119_14 (rw_aload_n (pc' := 15) (v := .ref r0) rfl rfl rfl ?_)
        refine wp_of e119 c119_15 (rw_iload_n (pc' := 16) (z := z1177) rfl rfl ?_)
        refine wp_of e119 c119_16 (xc_V (pc' := 19) (r := r0) (as := [vI z1177]) (st := []) (lm_0_70) rfl rfl (Nat.le_of_ble_eq_true rfl) w1175 g0 sh_1 (by decide) rfl (by decide) (s_12 w1175 g0 ⟨Int.le_trans (by decide) b1178.1, Int.le_trans b1178.2 (by decide)⟩) (fun R1228 T1229 H1230 p1231 => ?_))
        obtain ⟨e1232, w1234, f1235, z1236, e1233, b1237⟩ := p1231
        subst e1232
        subst e1233
        have f1238 := f1226.tr f1235 rfl
        show wp _ _ 119 19 [(3, vI z1177), (0, .ref r0), (1, vI a1), (2, vI a2)] [vI z1236] _ H1230 _
        have h1239 : CEN T H1230 ce e d := (CEN_fr w1175 gce f1235 rfl a1189)
        exact wp_ireturn e119 c119_19 rfl ⟨rfl, w1234, f1238, z1236, rfl, ⟨b1237.1, b1237.2⟩, (h1239)⟩
  · show wp _ _ 119 6 [(0, .ref r0), (1, vI a1), (2, vI a2)] [vI z1162, .ref r0] _ H _
    refine wp_of e119 c119_6 (xc_V (pc' := 9) (r := r0) (as := [vI z1162]) (st := []) (lm_0_198) rfl rfl (Nat.le_of_ble_eq_true rfl) hW g0 sh_1 (by decide) rfl (by decide) (u_102 (e := e) (d := d) (n := n) hW g0 ⟨b1163.1, b1163.2⟩ qcu gcu qwa gwa qce gce (by assumption) (by assumption) (by omega) (by omega) (by omega) hCU_cu hCEN_ce hHDR_ce) (fun R1240 T1241 H1242 p1243 => ?_))
    obtain ⟨e1244, w1246, f1247, z1248, e1245, b1249, p1250⟩ := p1243
    subst e1244
    subst e1245
    rcases p1250 with ⟨a1251, a1252, a1253, a1254, a1255, a1256, a1257⟩ | ⟨a1258, a1259, a1260⟩
    · have f1261 := f0.tr f1247 rfl
      show wp _ _ 119 9 [(0, .ref r0), (1, vI a1), (2, vI a2)] [vI z1248] _ H1242 _
      refine wp_of e119 c119_9 (rw_istore_n (pc' := 10) (z := z1248) (L' := [(3, vI z1248), (0, .ref r0), (1, vI a1), (2, vI a2)]) rfl rfl rfl ?_)
      refine wp_of e119 c119_10 (rw_iload_n (pc' := 11) (z := z1248) rfl rfl ?_)
      refine wp_of e119 c119_11 (rw_if_eq (p1 := 20) (p2 := 14) (by decide) rfl ⟨Int.le_trans (by decide) b1249.1, Int.le_trans b1249.2 (by decide)⟩ (fun c1262 => ?_) (fun c1262 => ?_))
      · refine wp_of e119 c119_20 (rw_aload_n (pc' := 21) (v := .ref r0) rfl rfl rfl ?_)
        refine wp_of e119 c119_21 (rw_aload_n (pc' := 22) (v := .ref r0) rfl rfl rfl ?_)
        have k1263 : H1242 r0 3 = H r0 3 := (f1247 r0 3 _ g0 rfl)
        have q1264 : H1242 r0 3 = (ce : Int) := k1263.trans qce
        refine wp_of e119 c119_22 (xg_K (pc' := 25) lf_0_30 w1246 g0 sh_1 (by decide) (by decide) rfl q1264 rfl ?_)
        refine wp_of e119 c119_25 (rw_aload_n (pc' := 26) (v := .ref r0) rfl rfl rfl ?_)
        have k1265 : H1242 r0 6 = H r0 6 := (f1247 r0 6 _ g0 rfl)
        have q1266 : H1242 r0 6 = (cu : Int) := k1265.trans qcu
        refine wp_of e119 c119_26 (xg_K (pc' := 29) lf_0_51 w1246 g0 sh_1 (by decide) (by decide) rfl q1266 rfl ?_)
        refine wp_of e119 c119_29 (xg_R (pc' := 32) lf_0_109 w1246 gcu sh_27 (by decide) (by decide) ty_27_0 rfl rfl (fun r1267 q1268 g1269 => ?_))
        refine wp_of e119 c119_32 (rw_iload_n (pc' := 33) (z := a1) rfl rfl ?_)
        refine wp_of e119 c119_33 (xa_R (pc' := 34) (by decide) w1246 g1269 sh_28 (by decide) (ty_28 _) (by omega) (by omega) rfl (fun r1270 q1271 g1272 => ?_))
        refine wp_of e119 c119_34 (xg_R (pc' := 37) lf_0_129 w1246 g1272 sh_35 (by decide) (by decide) ty_35_1 rfl rfl (fun r1273 q1274 g1275 => ?_))
        refine wp_of e119 c119_37 (rw_iload_n (pc' := 38) (z := a1) rfl rfl ?_)
        refine wp_of e119 c119_38 (rw_iload_n (pc' := 39) (z := a2) rfl rfl ?_)
        refine wp_of e119 c119_39 (xc_V (pc' := 42) (r := ce) (as := [.ref r1273, vI a1, vI a2]) (st := [.ref r0]) (lm_0_223) rfl rfl (Nat.le_of_ble_eq_true rfl) w1246 gce sh_12 (by decide) rfl (by decide) (s_118_s w1246 gce g1275 ⟨by omega, by omega⟩ ⟨i2.1, i2.2⟩) (fun R1276 T1277 H1278 p1279 => ?_))
        obtain ⟨e1280, e1282, z1283, e1281, b1284⟩ := p1279
        subst e1280
        subst e1281
        subst e1282
        show wp _ _ 119 42 [(3, vI z1248), (0, .ref r0), (1, vI a1), (2, vI a2)] [vI z1283, .ref r0] _ H1242 _
        refine wp_of e119 c119_42 (xc_V (pc' := 45) (r := r0) (as := [vI z1283]) (st := []) (lm_0_99) rfl rfl (Nat.le_of_ble_eq_true rfl) w1246 g0 sh_1 (by decide) rfl (by decide) (s_51 w1246 g0 ⟨b1284.1, b1284.2⟩) (fun R1285 T1286 H1287 p1288 => ?_))
        obtain ⟨e1289, w1291, f1292, z1293, e1290, b1294⟩ := p1288
        subst e1289
        subst e1290
        have f1295 := f1261.tr f1292 rfl
        show wp _ _ 119 45 [(3, vI z1248), (0, .ref r0), (1, vI a1), (2, vI a2)] [vI z1293] _ H1287 _
        have h1296 : CEN T H1287 ce e d := (CEN_fr w1246 gce f1292 rfl a1255)
        exact wp_ireturn e119 c119_45 rfl ⟨rfl, w1291, f1295, z1293, rfl, ⟨b1294.1, b1294.2⟩, (h1296)⟩
      · exfalso
        omega
    · have f1297 := f0.tr f1247 rfl
      show wp _ _ 119 9 [(0, .ref r0), (1, vI a1), (2, vI a2)] [vI z1248] _ H1242 _
      refine wp_of e119 c119_9 (rw_istore_n (pc' := 10) (z := z1248) (L' := [(3, vI z1248), (0, .ref r0), (1, vI a1), (2, vI a2)]) rfl rfl rfl ?_)
      refine wp_of e119 c119_10 (rw_iload_n (pc' := 11) (z := z1248) rfl rfl ?_)
      refine wp_of e119 c119_11 (rw_if_eq (p1 := 20) (p2 := 14) (by decide) rfl ⟨Int.le_trans (by decide) b1249.1, Int.le_trans b1249.2 (by decide)⟩ (fun c1298 => ?_) (fun c1298 => ?_))
      · exfalso
        omega
      · refine wp_of e119 c119_14 (rw_aload_n (pc' := 15) (v := .ref r0) rfl rfl rfl ?_)
        refine wp_of e119 c119_15 (rw_iload_n (pc' := 16) (z := z1248) rfl rfl ?_)
        refine wp_of e119 c119_16 (xc_V (pc' := 19) (r := r0) (as := [vI z1248]) (st := []) (lm_0_70) rfl rfl (Nat.le_of_ble_eq_true rfl) w1246 g0 sh_1 (by decide) rfl (by decide) (s_12 w1246 g0 ⟨Int.le_trans (by decide) b1249.1, Int.le_trans b1249.2 (by decide)⟩) (fun R1299 T1300 H1301 p1302 => ?_))
        obtain ⟨e1303, w1305, f1306, z1307, e1304, b1308⟩ := p1302
        subst e1303
        subst e1304
        have f1309 := f1297.tr f1306 rfl
        show wp _ _ 119 19 [(3, vI z1248), (0, .ref r0), (1, vI a1), (2, vI a2)] [vI z1307] _ H1301 _
        have h1310 : CEN T H1301 ce e d := (CEN_fr w1246 gce f1306 rfl a1260)
        exact wp_ireturn e119 c119_19 rfl ⟨rfl, w1305, f1309, z1307, rfl, ⟨b1308.1, b1308.2⟩, (h1310)⟩
/-! StrikeAwake.ask()I  -/
abbrev uq_120 (r0 : Nat) (cu : Nat) (wa : Nat) (ce : Nat) (e : xD) (d : xD) (n : Int) (T : wq_T) (H : wq_H) : Option Value → wq_T → wq_H → Prop := fun r T' H' => T = T' ∧ WT T H' ∧ wfr [(20, 4), (12, 5), (12, 6), (12, 7), (12, 8), (12, 9), (1, 10), (6, 5), (8, 999), (10, 999), (15, 999), (22, 999), (9, 999), (18, 999), (23, 999), (19, 999), (21, 999), (7, 999), (11, 999), (24, 999), (17, 999), (13, 999)] T H H' ∧ ∃ z : Int, some (vI z) = r ∧ ((-2147483648) ≤ z ∧ z ≤ 2147483647) ∧ ((CEN T H' ce e d))
set_option maxHeartbeats 4000000 in
theorem u_120 {kt : Nat → Option mc_E} {T : wq_T} {H : wq_H} {r0 : Nat} {cu : Nat} {wa : Nat} {ce : Nat} {e : xD} {d : xD} {n : Int} (hW : WT T H) (g0 : T.2.2.2 r0 = some 1) (qcu : H r0 6 = (cu : Int)) (gcu : T.2.2.2 cu = some 27) (qwa : H r0 2 = (wa : Int)) (gwa : T.2.2.2 wa = some 6) (qce : H r0 3 = (ce : Int)) (gce : T.2.2.2 ce = some 12) (p0 : ∀ i, i ≠ 13 → e i = d i) (p1 : XW d) (p2 : e 0 3 = d 0 3) (p3 : e 0 0 = d 0 0) (p4 : H r0 8 = 0 ∨ n = xlots d) (p5 : H r0 8 ≠ 0 ∨ (d 0 3 = 0 ∧ d 0 0 = 0)) (hCU_cu : CU T H cu e d n) (hCEN_ce : CEN T H ce e d) (hHDR_ce : HDR T H ce ) : wpc kt 7 120 [.ref r0] T H (uq_120 r0 cu wa ce e d n T H) := by
  refine wp_enter e120 (Nat.le_of_ble_eq_true rfl) rfl ?_
  have f0 : wfr [(20, 4), (12, 5), (12, 6), (12, 7), (12, 8), (12, 9), (1, 10), (6, 5), (8, 999), (10, 999), (15, 999), (22, 999), (9, 999), (18, 999), (23, 999), (19, 999), (21, 999), (7, 999), (11, 999), (24, 999), (17, 999), (13, 999)] T H H := wfr.rf
  show wp _ _ 120 0 [(0, .ref r0)] [] _ H _
  have u1063 := CU_k hCU_cu
  have b1064 : 0 ≤ H r0 8 ∧ H r0 8 ≤ 1 := hW.box g0 (n := 13) rfl (by decide) rfl
  have _c7 : d 0 0 ≤ 24 := p1.2.1.2.1
  refine wp_of e120 c120_0 (rw_aload_n (pc' := 1) (v := .ref r0) rfl rfl rfl ?_)
  refine wp_of e120 c120_1 (rw_aload_n (pc' := 2) (v := .ref r0) rfl rfl rfl ?_)
  refine wp_of e120 c120_2 (xg_I (pc' := 5) lf_0_58 hW g0 sh_1 (by decide) (by decide) ty_1_8 rfl rfl (fun b1065 b1066 => ?_))
  refine wp_of e120 c120_5 (xc_V (pc' := 8) (r := r0) (as := [vI (H r0 8)]) (st := []) (lm_0_227) rfl rfl (Nat.le_of_ble_eq_true rfl) hW g0 sh_1 (by decide) rfl (by decide) (u_121 (e := e) (d := d) (n := n) hW g0 ⟨b1065, b1066⟩ qcu gcu qwa gwa qce gce (by assumption) (by assumption) (by omega) (by omega) (by omega) hCU_cu hCEN_ce hHDR_ce) (fun R1067 T1068 H1069 p1070 => ?_))
  obtain ⟨e1071, w1073, f1074, z1075, e1072, b1076, p1077⟩ := p1070
  subst e1071
  subst e1072
  rcases p1077 with ⟨a1078, a1079, a1080⟩ | ⟨a1081, a1082⟩
  · have f1083 := f0.tr f1074 rfl
    show wp _ _ 120 8 [(0, .ref r0)] [vI z1075] _ H1069 _
    refine wp_of e120 c120_8 (rw_istore_n (pc' := 9) (z := z1075) (L' := [(1, vI z1075), (0, .ref r0)]) rfl rfl rfl ?_)
    refine wp_of e120 c120_9 (rw_iload_n (pc' := 10) (z := z1075) rfl rfl ?_)
    refine wp_of e120 c120_10 (rw_if_eq (p1 := 19) (p2 := 13) (by decide) rfl ⟨Int.le_trans (by decide) b1076.1, Int.le_trans b1076.2 (by decide)⟩ (fun c1084 => ?_) (fun c1084 => ?_))
    · refine wp_of e120 c120_19 (rw_aload_n (pc' := 20) (v := .ref r0) rfl rfl rfl ?_)
      refine wp_of e120 c120_20 (rw_aload_n (pc' := 21) (v := .ref r0) rfl rfl rfl ?_)
      refine wp_of e120 c120_21 (xg_R (pc' := 24) lf_0_37 w1073 g0 sh_1 (by decide) (by decide) ty_1_4 rfl rfl (fun r1085 q1086 g1087 => ?_))
      refine wp_of e120 c120_24 (rw_aload_n (pc' := 25) (v := .ref r0) rfl rfl rfl ?_)
      have k1088 : H1069 r0 6 = H r0 6 := (f1074 r0 6 _ g0 rfl)
      have q1089 : H1069 r0 6 = (cu : Int) := k1088.trans qcu
      refine wp_of e120 c120_25 (xg_K (pc' := 28) lf_0_51 w1073 g0 sh_1 (by decide) (by decide) rfl q1089 rfl ?_)
      refine wp_of e120 c120_28 (rw_aload_n (pc' := 29) (v := .ref r0) rfl rfl rfl ?_)
      have k1090 : H1069 r0 3 = H r0 3 := (f1074 r0 3 _ g0 rfl)
      have q1091 : H1069 r0 3 = (ce : Int) := k1090.trans qce
      refine wp_of e120 c120_29 (xg_K (pc' := 32) lf_0_30 w1073 g0 sh_1 (by decide) (by decide) rfl q1091 rfl ?_)
      refine wp_of e120 c120_32 (xc_V (pc' := 35) (r := r1085) (as := [.ref cu, .ref ce]) (st := [.ref r0]) (lm_0_230) rfl rfl (Nat.le_of_ble_eq_true rfl) w1073 g1087 sh_20 (by decide) rfl (by decide) (s_122 w1073 g1087 gcu gce) (fun R1092 T1093 H1094 p1095 => ?_))
      obtain ⟨e1096, w1098, f1099, z1100, e1097, b1101⟩ := p1095
      subst e1096
      subst e1097
      have f1102 := f1083.tr f1099 rfl
      show wp _ _ 120 35 [(1, vI z1075), (0, .ref r0)] [vI z1100, .ref r0] _ H1094 _
      refine wp_of e120 c120_35 (xc_V (pc' := 38) (r := r0) (as := [vI z1100]) (st := []) (lm_0_99) rfl rfl (Nat.le_of_ble_eq_true rfl) w1098 g0 sh_1 (by decide) rfl (by decide) (s_51 w1098 g0 ⟨b1101.1, b1101.2⟩) (fun R1103 T1104 H1105 p1106 => ?_))
      obtain ⟨e1107, w1109, f1110, z1111, e1108, b1112⟩ := p1106
      subst e1107
      subst e1108
      have f1113 := f1102.tr f1110 rfl
      show wp _ _ 120 38 [(1, vI z1075), (0, .ref r0)] [vI z1111] _ H1105 _
      have h1114 : CEN T H1105 ce e d := (CEN_fr w1098 gce f1110 rfl (CEN_fr w1073 gce f1099 rfl a1080))
      exact wp_ireturn e120 c120_38 rfl ⟨rfl, w1109, f1113, z1111, rfl, ⟨b1112.1, b1112.2⟩, (h1114)⟩
    · exfalso
      omega
  · have f1115 := f0.tr f1074 rfl
    show wp _ _ 120 8 [(0, .ref r0)] [vI z1075] _ H1069 _
    refine wp_of e120 c120_8 (rw_istore_n (pc' := 9) (z := z1075) (L' := [(1, vI z1075), (0, .ref r0)]) rfl rfl rfl ?_)
    refine wp_of e120 c120_9 (rw_iload_n (pc' := 10) (z := z1075) rfl rfl ?_)
    refine wp_of e120 c120_10 (rw_if_eq (p1 := 19) (p2 := 13) (by decide) rfl ⟨Int.le_trans (by decide) b1076.1, Int.le_trans b1076.2 (by decide)⟩ (fun c1116 => ?_) (fun c1116 => ?_))
    · exfalso
      omega
    · refine wp_of e120 c120_13 (rw_aload_n (pc' := 14) (v := .ref r0) rfl rfl rfl ?_)
      refine wp_of e120 c120_14 (rw_iload_n (pc' := 15) (z := z1075) rfl rfl ?_)
      refine wp_of e120 c120_15 (xc_V (pc' := 18) (r := r0) (as := [vI z1075]) (st := []) (lm_0_70) rfl rfl (Nat.le_of_ble_eq_true rfl) w1073 g0 sh_1 (by decide) rfl (by decide) (s_12 w1073 g0 ⟨Int.le_trans (by decide) b1076.1, Int.le_trans b1076.2 (by decide)⟩) (fun R1117 T1118 H1119 p1120 => ?_))
      obtain ⟨e1121, w1123, f1124, z1125, e1122, b1126⟩ := p1120
      subst e1121
      subst e1122
      have f1127 := f1115.tr f1124 rfl
      show wp _ _ 120 18 [(1, vI z1075), (0, .ref r0)] [vI z1125] _ H1119 _
      have h1128 : CEN T H1119 ce e d := (CEN_fr w1073 gce f1124 rfl a1082)
      exact wp_ireturn e120 c120_18 rfl ⟨rfl, w1123, f1127, z1125, rfl, ⟨b1126.1, b1126.2⟩, (h1128)⟩
/-! StrikeAwake.askFor(I)I  -/
abbrev uq_130 (r0 : Nat) (a1 : Int) (cu : Nat) (wa : Nat) (ce : Nat) (e : xD) (d : xD) (n : Int) (T : wq_T) (H : wq_H) : Option Value → wq_T → wq_H → Prop := fun r T' H' => T = T' ∧ WT T H' ∧ wfr [(20, 4), (12, 5), (12, 6), (12, 7), (12, 8), (12, 9), (1, 10), (6, 5), (8, 999), (10, 999), (15, 999), (22, 999), (9, 999), (18, 999), (23, 999), (19, 999), (21, 999), (7, 999), (11, 999), (24, 999), (17, 999), (13, 999)] T H H' ∧ ∃ z : Int, some (vI z) = r ∧ ((-2147483648) ≤ z ∧ z ≤ 2147483647) ∧ ((CEN T H' ce e d))
set_option maxHeartbeats 4000000 in
theorem u_130 {kt : Nat → Option mc_E} {T : wq_T} {H : wq_H} {r0 : Nat} {a1 : Int} {cu : Nat} {wa : Nat} {ce : Nat} {e : xD} {d : xD} {n : Int} (hW : WT T H) (g0 : T.2.2.2 r0 = some 1) (i1 : (-2147483648) ≤ a1 ∧ a1 ≤ 2147483647) (qcu : H r0 6 = (cu : Int)) (gcu : T.2.2.2 cu = some 27) (qwa : H r0 2 = (wa : Int)) (gwa : T.2.2.2 wa = some 6) (qce : H r0 3 = (ce : Int)) (gce : T.2.2.2 ce = some 12) (p0 : ∀ i, i ≠ 13 → e i = d i) (p1 : XW d) (p2 : e 0 3 = d 0 3) (p3 : e 0 0 = d 0 0) (p4 : H r0 8 = 0 ∨ n = xlots d) (p5 : H r0 8 ≠ 0 ∨ (d 0 3 = 0 ∧ d 0 0 = 0)) (hCU_cu : CU T H cu e d n) (hCEN_ce : CEN T H ce e d) (hHDR_ce : HDR T H ce ) : wpc kt 7 130 [.ref r0, vI a1] T H (uq_130 r0 a1 cu wa ce e d n T H) := by
  refine wp_enter e130 (Nat.le_of_ble_eq_true rfl) rfl ?_
  have f0 : wfr [(20, 4), (12, 5), (12, 6), (12, 7), (12, 8), (12, 9), (1, 10), (6, 5), (8, 999), (10, 999), (15, 999), (22, 999), (9, 999), (18, 999), (23, 999), (19, 999), (21, 999), (7, 999), (11, 999), (24, 999), (17, 999), (13, 999)] T H H := wfr.rf
  show wp _ _ 130 0 [(0, .ref r0), (1, vI a1)] [] _ H _
  have u1135 := CU_k hCU_cu
  have b1136 : 0 ≤ H r0 8 ∧ H r0 8 ≤ 1 := hW.box g0 (n := 13) rfl (by decide) rfl
  have _c7 : d 0 0 ≤ 24 := p1.2.1.2.1
  refine wp_of e130 c130_0 (rw_aload_n (pc' := 1) (v := .ref r0) rfl rfl rfl ?_)
  refine wp_of e130 c130_1 (rw_aload_n (pc' := 2) (v := .ref r0) rfl rfl rfl ?_)
  refine wp_of e130 c130_2 (rw_iload_n (pc' := 3) (z := a1) rfl rfl ?_)
  refine wp_of e130 c130_3 (xc_V (pc' := 6) (r := r0) (as := [vI a1]) (st := [.ref r0]) (lm_0_132) rfl rfl (Nat.le_of_ble_eq_true rfl) hW g0 sh_1 (by decide) rfl (by decide) (u_60  hW g0 ⟨i1.1, i1.2⟩ qcu gcu) (fun R1137 T1138 H1139 p1140 => ?_))
  obtain ⟨e1141, e1143, z1144, e1142, b1145, p1146⟩ := p1140
  subst e1141
  subst e1142
  subst e1143
  rcases p1146 with ⟨a1147, a1148⟩ | ⟨a1149, a1150⟩
  · show wp _ _ 130 6 [(0, .ref r0), (1, vI a1)] [vI z1144, .ref r0] _ H _
    refine wp_of e130 c130_6 (xc_V (pc' := 9) (r := r0) (as := [vI z1144]) (st := []) (lm_0_227) rfl rfl (Nat.le_of_ble_eq_true rfl) hW g0 sh_1 (by decide) rfl (by decide) (u_121 (e := e) (d := d) (n := n) hW g0 ⟨b1145.1, b1145.2⟩ qcu gcu qwa gwa qce gce (by assumption) (by assumption) (by omega) (by omega) (by omega) hCU_cu hCEN_ce hHDR_ce) (fun R1151 T1152 H1153 p1154 => ?_))
    obtain ⟨e1155, w1157, f1158, z1159, e1156, b1160, p1161⟩ := p1154
    subst e1155
    subst e1156
    rcases p1161 with ⟨a1162, a1163, a1164⟩ | ⟨a1165, a1166⟩
    · have f1167 := f0.tr f1158 rfl
      show wp _ _ 130 9 [(0, .ref r0), (1, vI a1)] [vI z1159] _ H1153 _
      refine wp_of e130 c130_9 (rw_istore_n (pc' := 10) (z := z1159) (L' := [(2, vI z1159), (0, .ref r0), (1, vI a1)]) rfl rfl rfl ?_)
      refine wp_of e130 c130_10 (rw_iload_n (pc' := 11) (z := z1159) rfl rfl ?_)
      refine wp_of e130 c130_11 (rw_if_eq (p1 := 20) (p2 := 14) (by decide) rfl ⟨Int.le_trans (by decide) b1160.1, Int.le_trans b1160.2 (by decide)⟩ (fun c1168 => ?_) (fun c1168 => ?_))
      · refine wp_of e130 c130_20 (rw_aload_n (pc' := 21) (v := .ref r0) rfl rfl rfl ?_)
        refine wp_of e130 c130_21 (rw_aload_n (pc' := 22) (v := .ref r0) rfl rfl rfl ?_)
        refine wp_of e130 c130_22 (xg_R (pc' := 25) lf_0_37 w1157 g0 sh_1 (by decide) (by decide) ty_1_4 rfl rfl (fun r1169 q1170 g1171 => ?_))
        refine wp_of e130 c130_25 (rw_aload_n (pc' := 26) (v := .ref r0) rfl rfl rfl ?_)
        have k1172 : H1153 r0 6 = H r0 6 := (f1158 r0 6 _ g0 rfl)
        have q1173 : H1153 r0 6 = (cu : Int) := k1172.trans qcu
        refine wp_of e130 c130_26 (xg_K (pc' := 29) lf_0_51 w1157 g0 sh_1 (by decide) (by decide) rfl q1173 rfl ?_)
        refine wp_of e130 c130_29 (rw_aload_n (pc' := 30) (v := .ref r0) rfl rfl rfl ?_)
        have k1174 : H1153 r0 3 = H r0 3 := (f1158 r0 3 _ g0 rfl)
        have q1175 : H1153 r0 3 = (ce : Int) := k1174.trans qce
        refine wp_of e130 c130_30 (xg_K (pc' := 33) lf_0_30 w1157 g0 sh_1 (by decide) (by decide) rfl q1175 rfl ?_)
        refine wp_of e130 c130_33 (rw_iload_n (pc' := 34) (z := a1) rfl rfl ?_)
        refine wp_of e130 c130_34 (xc_V (pc' := 37) (r := r1169) (as := [.ref cu, .ref ce, vI a1]) (st := [.ref r0]) (lm_0_234) rfl rfl (Nat.le_of_ble_eq_true rfl) w1157 g1171 sh_20 (by decide) rfl (by decide) (s_131 w1157 g1171 gcu gce ⟨i1.1, i1.2⟩) (fun R1176 T1177 H1178 p1179 => ?_))
        obtain ⟨e1180, w1182, f1183, z1184, e1181, b1185⟩ := p1179
        subst e1180
        subst e1181
        have f1186 := f1167.tr f1183 rfl
        show wp _ _ 130 37 [(2, vI z1159), (0, .ref r0), (1, vI a1)] [vI z1184, .ref r0] _ H1178 _
        refine wp_of e130 c130_37 (xc_V (pc' := 40) (r := r0) (as := [vI z1184]) (st := []) (lm_0_99) rfl rfl (Nat.le_of_ble_eq_true rfl) w1182 g0 sh_1 (by decide) rfl (by decide) (s_51 w1182 g0 ⟨b1185.1, b1185.2⟩) (fun R1187 T1188 H1189 p1190 => ?_))
        obtain ⟨e1191, w1193, f1194, z1195, e1192, b1196⟩ := p1190
        subst e1191
        subst e1192
        have f1197 := f1186.tr f1194 rfl
        show wp _ _ 130 40 [(2, vI z1159), (0, .ref r0), (1, vI a1)] [vI z1195] _ H1189 _
        have h1198 : CEN T H1189 ce e d := (CEN_fr w1182 gce f1194 rfl (CEN_fr w1157 gce f1183 rfl a1164))
        exact wp_ireturn e130 c130_40 rfl ⟨rfl, w1193, f1197, z1195, rfl, ⟨b1196.1, b1196.2⟩, (h1198)⟩
      · exfalso
        omega
    · have f1199 := f0.tr f1158 rfl
      show wp _ _ 130 9 [(0, .ref r0), (1, vI a1)] [vI z1159] _ H1153 _
      refine wp_of e130 c130_9 (rw_istore_n (pc' := 10) (z := z1159) (L' := [(2, vI z1159), (0, .ref r0), (1, vI a1)]) rfl rfl rfl ?_)
      refine wp_of e130 c130_10 (rw_iload_n (pc' := 11) (z := z1159) rfl rfl ?_)
      refine wp_of e130 c130_11 (rw_if_eq (p1 := 20) (p2 := 14) (by decide) rfl ⟨Int.le_trans (by decide) b1160.1, Int.le_trans b1160.2 (by decide)⟩ (fun c1200 => ?_) (fun c1200 => ?_))
      · exfalso
        omega
      · refine wp_of e130 c130_14 (rw_aload_n (pc' := 15) (v := .ref r0) rfl rfl rfl ?_)
        refine wp_of e130 c130_15 (rw_iload_n (pc' := 16) (z := z1159) rfl rfl ?_)
        refine wp_of e130 c130_16 (xc_V (pc' := 19) (r := r0) (as := [vI z1159]) (st := []) (lm_0_70) rfl rfl (Nat.le_of_ble_eq_true rfl) w1157 g0 sh_1 (by decide) rfl (by decide) (s_12 w1157 g0 ⟨Int.le_trans (by decide) b1160.1, Int.le_trans b1160.2 (by decide)⟩) (fun R1201 T1202 H1203 p1204 => ?_))
        obtain ⟨e1205, w1207, f1208, z1209, e1206, b1210⟩ := p1204
        subst e1205
        subst e1206
        have f1211 := f1199.tr f1208 rfl
        show wp _ _ 130 19 [(2, vI z1159), (0, .ref r0), (1, vI a1)] [vI z1209] _ H1203 _
        have h1212 : CEN T H1203 ce e d := (CEN_fr w1157 gce f1208 rfl a1166)
        exact wp_ireturn e130 c130_19 rfl ⟨rfl, w1207, f1211, z1209, rfl, ⟨b1210.1, b1210.2⟩, (h1212)⟩
  · show wp _ _ 130 6 [(0, .ref r0), (1, vI a1)] [vI z1144, .ref r0] _ H _
    refine wp_of e130 c130_6 (xc_V (pc' := 9) (r := r0) (as := [vI z1144]) (st := []) (lm_0_227) rfl rfl (Nat.le_of_ble_eq_true rfl) hW g0 sh_1 (by decide) rfl (by decide) (u_121 (e := e) (d := d) (n := n) hW g0 ⟨b1145.1, b1145.2⟩ qcu gcu qwa gwa qce gce (by assumption) (by assumption) (by omega) (by omega) (by omega) hCU_cu hCEN_ce hHDR_ce) (fun R1213 T1214 H1215 p1216 => ?_))
    obtain ⟨e1217, w1219, f1220, z1221, e1218, b1222, p1223⟩ := p1216
    subst e1217
    subst e1218
    rcases p1223 with ⟨a1224, a1225, a1226⟩ | ⟨a1227, a1228⟩
    · have f1229 := f0.tr f1220 rfl
      show wp _ _ 130 9 [(0, .ref r0), (1, vI a1)] [vI z1221] _ H1215 _
      refine wp_of e130 c130_9 (rw_istore_n (pc' := 10) (z := z1221) (L' := [(2, vI z1221), (0, .ref r0), (1, vI a1)]) rfl rfl rfl ?_)
      refine wp_of e130 c130_10 (rw_iload_n (pc' := 11) (z := z1221) rfl rfl ?_)
      refine wp_of e130 c130_11 (rw_if_eq (p1 := 20) (p2 := 14) (by decide) rfl ⟨Int.le_trans (by decide) b1222.1, Int.le_trans b1222.2 (by decide)⟩ (fun c1230 => ?_) (fun c1230 => ?_))
      · refine wp_of e130 c130_20 (rw_aload_n (pc' := 21) (v := .ref r0) rfl rfl rfl ?_)
        refine wp_of e130 c130_21 (rw_aload_n (pc' := 22) (v := .ref r0) rfl rfl rfl ?_)
        refine wp_of e130 c130_22 (xg_R (pc' := 25) lf_0_37 w1219 g0 sh_1 (by decide) (by decide) ty_1_4 rfl rfl (fun r1231 q1232 g1233 => ?_))
        refine wp_of e130 c130_25 (rw_aload_n (pc' := 26) (v := .ref r0) rfl rfl rfl ?_)
        have k1234 : H1215 r0 6 = H r0 6 := (f1220 r0 6 _ g0 rfl)
        have q1235 : H1215 r0 6 = (cu : Int) := k1234.trans qcu
        refine wp_of e130 c130_26 (xg_K (pc' := 29) lf_0_51 w1219 g0 sh_1 (by decide) (by decide) rfl q1235 rfl ?_)
        refine wp_of e130 c130_29 (rw_aload_n (pc' := 30) (v := .ref r0) rfl rfl rfl ?_)
        have k1236 : H1215 r0 3 = H r0 3 := (f1220 r0 3 _ g0 rfl)
        have q1237 : H1215 r0 3 = (ce : Int) := k1236.trans qce
        refine wp_of e130 c130_30 (xg_K (pc' := 33) lf_0_30 w1219 g0 sh_1 (by decide) (by decide) rfl q1237 rfl ?_)
        refine wp_of e130 c130_33 (rw_iload_n (pc' := 34) (z := a1) rfl rfl ?_)
        refine wp_of e130 c130_34 (xc_V (pc' := 37) (r := r1231) (as := [.ref cu, .ref ce, vI a1]) (st := [.ref r0]) (lm_0_234) rfl rfl (Nat.le_of_ble_eq_true rfl) w1219 g1233 sh_20 (by decide) rfl (by decide) (s_131 w1219 g1233 gcu gce ⟨i1.1, i1.2⟩) (fun R1238 T1239 H1240 p1241 => ?_))
        obtain ⟨e1242, w1244, f1245, z1246, e1243, b1247⟩ := p1241
        subst e1242
        subst e1243
        have f1248 := f1229.tr f1245 rfl
        show wp _ _ 130 37 [(2, vI z1221), (0, .ref r0), (1, vI a1)] [vI z1246, .ref r0] _ H1240 _
        refine wp_of e130 c130_37 (xc_V (pc' := 40) (r := r0) (as := [vI z1246]) (st := []) (lm_0_99) rfl rfl (Nat.le_of_ble_eq_true rfl) w1244 g0 sh_1 (by decide) rfl (by decide) (s_51 w1244 g0 ⟨b1247.1, b1247.2⟩) (fun R1249 T1250 H1251 p1252 => ?_))
        obtain ⟨e1253, w1255, f1256, z1257, e1254, b1258⟩ := p1252
        subst e1253
        subst e1254
        have f1259 := f1248.tr f1256 rfl
        show wp _ _ 130 40 [(2, vI z1221), (0, .ref r0), (1, vI a1)] [vI z1257] _ H1251 _
        have h1260 : CEN T H1251 ce e d := (CEN_fr w1244 gce f1256 rfl (CEN_fr w1219 gce f1245 rfl a1226))
        exact wp_ireturn e130 c130_40 rfl ⟨rfl, w1255, f1259, z1257, rfl, ⟨b1258.1, b1258.2⟩, (h1260)⟩
      · exfalso
        omega
    · have f1261 := f0.tr f1220 rfl
      show wp _ _ 130 9 [(0, .ref r0), (1, vI a1)] [vI z1221] _ H1215 _
      refine wp_of e130 c130_9 (rw_istore_n (pc' := 10) (z := z1221) (L' := [(2, vI z1221), (0, .ref r0), (1, vI a1)]) rfl rfl rfl ?_)
      refine wp_of e130 c130_10 (rw_iload_n (pc' := 11) (z := z1221) rfl rfl ?_)
      refine wp_of e130 c130_11 (rw_if_eq (p1 := 20) (p2 := 14) (by decide) rfl ⟨Int.le_trans (by decide) b1222.1, Int.le_trans b1222.2 (by decide)⟩ (fun c1262 => ?_) (fun c1262 => ?_))
      · exfalso
        omega
      · refine wp_of e130 c130_14 (rw_aload_n (pc' := 15) (v := .ref r0) rfl rfl rfl ?_)
        refine wp_of e130 c130_15 (rw_iload_n (pc' := 16) (z := z1221) rfl rfl ?_)
        refine wp_of e130 c130_16 (xc_V (pc' := 19) (r := r0) (as := [vI z1221]) (st := []) (lm_0_70) rfl rfl (Nat.le_of_ble_eq_true rfl) w1219 g0 sh_1 (by decide) rfl (by decide) (s_12 w1219 g0 ⟨Int.le_trans (by decide) b1222.1, Int.le_trans b1222.2 (by decide)⟩) (fun R1263 T1264 H1265 p1266 => ?_))
        obtain ⟨e1267, w1269, f1270, z1271, e1268, b1272⟩ := p1266
        subst e1267
        subst e1268
        have f1273 := f1261.tr f1270 rfl
        show wp _ _ 130 19 [(2, vI z1221), (0, .ref r0), (1, vI a1)] [vI z1271] _ H1265 _
        have h1274 : CEN T H1265 ce e d := (CEN_fr w1219 gce f1270 rfl a1228)
        exact wp_ireturn e130 c130_19 rfl ⟨rfl, w1269, f1273, z1271, rfl, ⟨b1272.1, b1272.2⟩, (h1274)⟩
/-! StrikeAwake.lie(I)I  -/
abbrev uq_132 (r0 : Nat) (a1 : Int) (cu : Nat) (wa : Nat) (ce : Nat) (e : xD) (d : xD) (n : Int) (T : wq_T) (H : wq_H) : Option Value → wq_T → wq_H → Prop := fun r T' H' => T = T' ∧ WT T H' ∧ wfr [(12, 5), (12, 6), (12, 7), (12, 8), (12, 9), (1, 10), (6, 5), (8, 999), (10, 999), (15, 999), (9, 999), (18, 999), (19, 999), (7, 999), (11, 999), (17, 999), (13, 999)] T H H' ∧ ∃ z : Int, some (vI z) = r ∧ ((-2147483648) ≤ z ∧ z ≤ 2147483647) ∧ ((CEN T H' ce e d))
set_option maxHeartbeats 4000000 in
theorem u_132 {kt : Nat → Option mc_E} {T : wq_T} {H : wq_H} {r0 : Nat} {a1 : Int} {cu : Nat} {wa : Nat} {ce : Nat} {e : xD} {d : xD} {n : Int} (hW : WT T H) (g0 : T.2.2.2 r0 = some 1) (i1 : (-2147483648) ≤ a1 ∧ a1 ≤ 2147483647) (qcu : H r0 6 = (cu : Int)) (gcu : T.2.2.2 cu = some 27) (qwa : H r0 2 = (wa : Int)) (gwa : T.2.2.2 wa = some 6) (qce : H r0 3 = (ce : Int)) (gce : T.2.2.2 ce = some 12) (p0 : ∀ i, i ≠ 13 → e i = d i) (p1 : XW d) (p2 : e 0 3 = d 0 3) (p3 : e 0 0 = d 0 0) (p4 : H r0 8 = 0 ∨ n = xlots d) (p5 : H r0 8 ≠ 0 ∨ (d 0 3 = 0 ∧ d 0 0 = 0)) (hCU_cu : CU T H cu e d n) (hCEN_ce : CEN T H ce e d) (hHDR_ce : HDR T H ce ) : wpc kt 6 132 [.ref r0, vI a1] T H (uq_132 r0 a1 cu wa ce e d n T H) := by
  refine wp_enter e132 (Nat.le_of_ble_eq_true rfl) rfl ?_
  have f0 : wfr [(12, 5), (12, 6), (12, 7), (12, 8), (12, 9), (1, 10), (6, 5), (8, 999), (10, 999), (15, 999), (9, 999), (18, 999), (19, 999), (7, 999), (11, 999), (17, 999), (13, 999)] T H H := wfr.rf
  show wp _ _ 132 0 [(0, .ref r0), (1, vI a1)] [] _ H _
  have u1157 := CU_k hCU_cu
  have b1158 : 0 ≤ H r0 8 ∧ H r0 8 ≤ 1 := hW.box g0 (n := 13) rfl (by decide) rfl
  have _c7 : d 0 0 ≤ 24 := p1.2.1.2.1
  have _xc := p1.2.1
  unfold XC at _xc
  have _e6 : e 0 6 = d 0 6 := by rw [p0 0 (by decide)]
  have _t6 : d 0 3 ≤ 0 → d 0 6 ≤ 0 := fun q => by
    by_cases c : 0 < d 0 6
    · have h := p1.2.2.2.2.2.1 0 c
      unfold xwB at h
      omega
    · omega
  refine wp_of e132 c132_0 (rw_aload_n (pc' := 1) (v := .ref r0) rfl rfl rfl ?_)
  refine wp_of e132 c132_1 (rw_aload_n (pc' := 2) (v := .ref r0) rfl rfl rfl ?_)
  refine wp_of e132 c132_2 (rw_iload_n (pc' := 3) (z := a1) rfl rfl ?_)
  refine wp_of e132 c132_3 (xc_V (pc' := 6) (r := r0) (as := [vI a1]) (st := [.ref r0]) (lm_0_238) rfl rfl (Nat.le_of_ble_eq_true rfl) hW g0 sh_1 (by decide) rfl (by decide) (u_133  hW g0 ⟨i1.1, i1.2⟩ qcu gcu) (fun R1159 T1160 H1161 p1162 => ?_))
  obtain ⟨e1163, e1165, z1166, e1164, b1167, p1168⟩ := p1162
  subst e1163
  subst e1164
  subst e1165
  rcases p1168 with ⟨a1169, a1170⟩ | ⟨a1171, a1172⟩
  · show wp _ _ 132 6 [(0, .ref r0), (1, vI a1)] [vI z1166, .ref r0] _ H _
    refine wp_of e132 c132_6 (xc_V (pc' := 9) (r := r0) (as := [vI z1166]) (st := []) (lm_0_174) rfl rfl (Nat.le_of_ble_eq_true rfl) hW g0 sh_1 (by decide) rfl (by decide) (u_83 (e := e) (d := d) (n := n) hW g0 ⟨b1167.1, b1167.2⟩ qcu gcu qwa gwa qce gce (by assumption) (by assumption) (by omega) (by omega) (by omega) hCU_cu hCEN_ce hHDR_ce) (fun R1173 T1174 H1175 p1176 => ?_))
    obtain ⟨e1177, w1179, f1180, z1181, e1178, b1182, p1183⟩ := p1176
    subst e1177
    subst e1178
    rcases p1183 with ⟨a1184, a1185, a1186, a1187, a1188, a1189⟩ | ⟨a1190, a1191, a1192⟩
    · have f1193 := f0.tr f1180 rfl
      show wp _ _ 132 9 [(0, .ref r0), (1, vI a1)] [vI z1181] _ H1175 _
      refine wp_of e132 c132_9 (rw_istore_n (pc' := 10) (z := z1181) (L' := [(2, vI z1181), (0, .ref r0), (1, vI a1)]) rfl rfl rfl ?_)
      refine wp_of e132 c132_10 (rw_iload_n (pc' := 11) (z := z1181) rfl rfl ?_)
      refine wp_of e132 c132_11 (rw_if_eq (p1 := 20) (p2 := 14) (by decide) rfl ⟨Int.le_trans (by decide) b1182.1, Int.le_trans b1182.2 (by decide)⟩ (fun c1194 => ?_) (fun c1194 => ?_))
      · refine wp_of e132 c132_20 (rw_aload_n (pc' := 21) (v := .ref r0) rfl rfl rfl ?_)
        refine wp_of e132 c132_21 (rw_aload_n (pc' := 22) (v := .ref r0) rfl rfl rfl ?_)
        have k1195 : H1175 r0 3 = H r0 3 := (f1180 r0 3 _ g0 rfl)
        have q1196 : H1175 r0 3 = (ce : Int) := k1195.trans qce
        refine wp_of e132 c132_22 (xg_K (pc' := 25) lf_0_30 w1179 g0 sh_1 (by decide) (by decide) rfl q1196 rfl ?_)
        refine wp_of e132 c132_25 (rw_aload_n (pc' := 26) (v := .ref r0) rfl rfl rfl ?_)
        have k1197 : H1175 r0 6 = H r0 6 := (f1180 r0 6 _ g0 rfl)
        have q1198 : H1175 r0 6 = (cu : Int) := k1197.trans qcu
        refine wp_of e132 c132_26 (xg_K (pc' := 29) lf_0_51 w1179 g0 sh_1 (by decide) (by decide) rfl q1198 rfl ?_)
        refine wp_of e132 c132_29 (rw_iload_n (pc' := 30) (z := a1) rfl rfl ?_)
        refine wp_of e132 c132_30 (xc_V (pc' := 33) (r := ce) (as := [.ref cu, vI a1]) (st := [.ref r0]) (lm_0_241) rfl rfl (Nat.le_of_ble_eq_true rfl) w1179 gce sh_12 (by decide) rfl (by decide) (s_134 w1179 gce gcu ⟨by omega, by omega⟩) (fun R1199 T1200 H1201 p1202 => ?_))
        obtain ⟨e1203, e1205, z1206, e1204, b1207⟩ := p1202
        subst e1203
        subst e1204
        subst e1205
        show wp _ _ 132 33 [(2, vI z1181), (0, .ref r0), (1, vI a1)] [vI z1206, .ref r0] _ H1175 _
        refine wp_of e132 c132_33 (rw_if_eq (p1 := 40) (p2 := 36) (by decide) rfl ⟨Int.le_trans (by decide) b1207.1, Int.le_trans b1207.2 (by decide)⟩ (fun c1208 => ?_) (fun c1208 => ?_))
        · refine wp_of e132 c132_40 (rw_iconst (pc' := 41) rfl ?_)
          refine wp_of e132 c132_41 (xc_V (pc' := 44) (r := r0) (as := [vI 1]) (st := []) (lm_0_99) rfl rfl (Nat.le_of_ble_eq_true rfl) w1179 g0 sh_1 (by decide) rfl (by decide) (s_51 w1179 g0 ⟨by decide, by decide⟩) (fun R1209 T1210 H1211 p1212 => ?_))
          obtain ⟨e1213, w1215, f1216, z1217, e1214, b1218⟩ := p1212
          subst e1213
          subst e1214
          have f1219 := f1193.tr f1216 rfl
          show wp _ _ 132 44 [(2, vI z1181), (0, .ref r0), (1, vI a1)] [vI z1217] _ H1211 _
          have h1220 : CEN T H1211 ce e d := (CEN_fr w1179 gce f1216 rfl a1187)
          exact wp_ireturn e132 c132_44 rfl ⟨rfl, w1215, f1219, z1217, rfl, ⟨b1218.1, b1218.2⟩, (h1220)⟩
        · refine wp_of e132 c132_36 (rw_iconst (pc' := 37) rfl ?_)
          refine wp_of e132 c132_37 (rw_goto (p1 := 41) (by decide) ?_)
          refine wp_of e132 c132_41 (xc_V (pc' := 44) (r := r0) (as := [vI 0]) (st := []) (lm_0_99) rfl rfl (Nat.le_of_ble_eq_true rfl) w1179 g0 sh_1 (by decide) rfl (by decide) (s_51 w1179 g0 ⟨by decide, by decide⟩) (fun R1221 T1222 H1223 p1224 => ?_))
          obtain ⟨e1225, w1227, f1228, z1229, e1226, b1230⟩ := p1224
          subst e1225
          subst e1226
          have f1231 := f1193.tr f1228 rfl
          show wp _ _ 132 44 [(2, vI z1181), (0, .ref r0), (1, vI a1)] [vI z1229] _ H1223 _
          have h1232 : CEN T H1223 ce e d := (CEN_fr w1179 gce f1228 rfl a1187)
          exact wp_ireturn e132 c132_44 rfl ⟨rfl, w1227, f1231, z1229, rfl, ⟨b1230.1, b1230.2⟩, (h1232)⟩
      · exfalso
        omega
    · have f1233 := f0.tr f1180 rfl
      show wp _ _ 132 9 [(0, .ref r0), (1, vI a1)] [vI z1181] _ H1175 _
      refine wp_of e132 c132_9 (rw_istore_n (pc' := 10) (z := z1181) (L' := [(2, vI z1181), (0, .ref r0), (1, vI a1)]) rfl rfl rfl ?_)
      refine wp_of e132 c132_10 (rw_iload_n (pc' := 11) (z := z1181) rfl rfl ?_)
      refine wp_of e132 c132_11 (rw_if_eq (p1 := 20) (p2 := 14) (by decide) rfl ⟨Int.le_trans (by decide) b1182.1, Int.le_trans b1182.2 (by decide)⟩ (fun c1234 => ?_) (fun c1234 => ?_))
      · exfalso
        omega
      · refine wp_of e132 c132_14 (rw_aload_n (pc' := 15) (v := .ref r0) rfl rfl rfl ?_)
        refine wp_of e132 c132_15 (rw_iload_n (pc' := 16) (z := z1181) rfl rfl ?_)
        refine wp_of e132 c132_16 (xc_V (pc' := 19) (r := r0) (as := [vI z1181]) (st := []) (lm_0_70) rfl rfl (Nat.le_of_ble_eq_true rfl) w1179 g0 sh_1 (by decide) rfl (by decide) (s_12 w1179 g0 ⟨Int.le_trans (by decide) b1182.1, Int.le_trans b1182.2 (by decide)⟩) (fun R1235 T1236 H1237 p1238 => ?_))
        obtain ⟨e1239, w1241, f1242, z1243, e1240, b1244⟩ := p1238
        subst e1239
        subst e1240
        have f1245 := f1233.tr f1242 rfl
        show wp _ _ 132 19 [(2, vI z1181), (0, .ref r0), (1, vI a1)] [vI z1243] _ H1237 _
        have h1246 : CEN T H1237 ce e d := (CEN_fr w1179 gce f1242 rfl a1192)
        exact wp_ireturn e132 c132_19 rfl ⟨rfl, w1241, f1245, z1243, rfl, ⟨b1244.1, b1244.2⟩, (h1246)⟩
  · show wp _ _ 132 6 [(0, .ref r0), (1, vI a1)] [vI z1166, .ref r0] _ H _
    refine wp_of e132 c132_6 (xc_V (pc' := 9) (r := r0) (as := [vI z1166]) (st := []) (lm_0_174) rfl rfl (Nat.le_of_ble_eq_true rfl) hW g0 sh_1 (by decide) rfl (by decide) (u_83 (e := e) (d := d) (n := n) hW g0 ⟨b1167.1, b1167.2⟩ qcu gcu qwa gwa qce gce (by assumption) (by assumption) (by omega) (by omega) (by omega) hCU_cu hCEN_ce hHDR_ce) (fun R1247 T1248 H1249 p1250 => ?_))
    obtain ⟨e1251, w1253, f1254, z1255, e1252, b1256, p1257⟩ := p1250
    subst e1251
    subst e1252
    rcases p1257 with ⟨a1258, a1259, a1260, a1261, a1262, a1263⟩ | ⟨a1264, a1265, a1266⟩
    · have f1267 := f0.tr f1254 rfl
      show wp _ _ 132 9 [(0, .ref r0), (1, vI a1)] [vI z1255] _ H1249 _
      refine wp_of e132 c132_9 (rw_istore_n (pc' := 10) (z := z1255) (L' := [(2, vI z1255), (0, .ref r0), (1, vI a1)]) rfl rfl rfl ?_)
      refine wp_of e132 c132_10 (rw_iload_n (pc' := 11) (z := z1255) rfl rfl ?_)
      refine wp_of e132 c132_11 (rw_if_eq (p1 := 20) (p2 := 14) (by decide) rfl ⟨Int.le_trans (by decide) b1256.1, Int.le_trans b1256.2 (by decide)⟩ (fun c1268 => ?_) (fun c1268 => ?_))
      · refine wp_of e132 c132_20 (rw_aload_n (pc' := 21) (v := .ref r0) rfl rfl rfl ?_)
        refine wp_of e132 c132_21 (rw_aload_n (pc' := 22) (v := .ref r0) rfl rfl rfl ?_)
        have k1269 : H1249 r0 3 = H r0 3 := (f1254 r0 3 _ g0 rfl)
        have q1270 : H1249 r0 3 = (ce : Int) := k1269.trans qce
        refine wp_of e132 c132_22 (xg_K (pc' := 25) lf_0_30 w1253 g0 sh_1 (by decide) (by decide) rfl q1270 rfl ?_)
        refine wp_of e132 c132_25 (rw_aload_n (pc' := 26) (v := .ref r0) rfl rfl rfl ?_)
        have k1271 : H1249 r0 6 = H r0 6 := (f1254 r0 6 _ g0 rfl)
        have q1272 : H1249 r0 6 = (cu : Int) := k1271.trans qcu
        refine wp_of e132 c132_26 (xg_K (pc' := 29) lf_0_51 w1253 g0 sh_1 (by decide) (by decide) rfl q1272 rfl ?_)
        refine wp_of e132 c132_29 (rw_iload_n (pc' := 30) (z := a1) rfl rfl ?_)
        refine wp_of e132 c132_30 (xc_V (pc' := 33) (r := ce) (as := [.ref cu, vI a1]) (st := [.ref r0]) (lm_0_241) rfl rfl (Nat.le_of_ble_eq_true rfl) w1253 gce sh_12 (by decide) rfl (by decide) (s_134 w1253 gce gcu ⟨by omega, by omega⟩) (fun R1273 T1274 H1275 p1276 => ?_))
        obtain ⟨e1277, e1279, z1280, e1278, b1281⟩ := p1276
        subst e1277
        subst e1278
        subst e1279
        show wp _ _ 132 33 [(2, vI z1255), (0, .ref r0), (1, vI a1)] [vI z1280, .ref r0] _ H1249 _
        refine wp_of e132 c132_33 (rw_if_eq (p1 := 40) (p2 := 36) (by decide) rfl ⟨Int.le_trans (by decide) b1281.1, Int.le_trans b1281.2 (by decide)⟩ (fun c1282 => ?_) (fun c1282 => ?_))
        · refine wp_of e132 c132_40 (rw_iconst (pc' := 41) rfl ?_)
          refine wp_of e132 c132_41 (xc_V (pc' := 44) (r := r0) (as := [vI 1]) (st := []) (lm_0_99) rfl rfl (Nat.le_of_ble_eq_true rfl) w1253 g0 sh_1 (by decide) rfl (by decide) (s_51 w1253 g0 ⟨by decide, by decide⟩) (fun R1283 T1284 H1285 p1286 => ?_))
          obtain ⟨e1287, w1289, f1290, z1291, e1288, b1292⟩ := p1286
          subst e1287
          subst e1288
          have f1293 := f1267.tr f1290 rfl
          show wp _ _ 132 44 [(2, vI z1255), (0, .ref r0), (1, vI a1)] [vI z1291] _ H1285 _
          have h1294 : CEN T H1285 ce e d := (CEN_fr w1253 gce f1290 rfl a1261)
          exact wp_ireturn e132 c132_44 rfl ⟨rfl, w1289, f1293, z1291, rfl, ⟨b1292.1, b1292.2⟩, (h1294)⟩
        · refine wp_of e132 c132_36 (rw_iconst (pc' := 37) rfl ?_)
          refine wp_of e132 c132_37 (rw_goto (p1 := 41) (by decide) ?_)
          refine wp_of e132 c132_41 (xc_V (pc' := 44) (r := r0) (as := [vI 0]) (st := []) (lm_0_99) rfl rfl (Nat.le_of_ble_eq_true rfl) w1253 g0 sh_1 (by decide) rfl (by decide) (s_51 w1253 g0 ⟨by decide, by decide⟩) (fun R1295 T1296 H1297 p1298 => ?_))
          obtain ⟨e1299, w1301, f1302, z1303, e1300, b1304⟩ := p1298
          subst e1299
          subst e1300
          have f1305 := f1267.tr f1302 rfl
          show wp _ _ 132 44 [(2, vI z1255), (0, .ref r0), (1, vI a1)] [vI z1303] _ H1297 _
          have h1306 : CEN T H1297 ce e d := (CEN_fr w1253 gce f1302 rfl a1261)
          exact wp_ireturn e132 c132_44 rfl ⟨rfl, w1301, f1305, z1303, rfl, ⟨b1304.1, b1304.2⟩, (h1306)⟩
      · exfalso
        omega
    · have f1307 := f0.tr f1254 rfl
      show wp _ _ 132 9 [(0, .ref r0), (1, vI a1)] [vI z1255] _ H1249 _
      refine wp_of e132 c132_9 (rw_istore_n (pc' := 10) (z := z1255) (L' := [(2, vI z1255), (0, .ref r0), (1, vI a1)]) rfl rfl rfl ?_)
      refine wp_of e132 c132_10 (rw_iload_n (pc' := 11) (z := z1255) rfl rfl ?_)
      refine wp_of e132 c132_11 (rw_if_eq (p1 := 20) (p2 := 14) (by decide) rfl ⟨Int.le_trans (by decide) b1256.1, Int.le_trans b1256.2 (by decide)⟩ (fun c1308 => ?_) (fun c1308 => ?_))
      · exfalso
        omega
      · refine wp_of e132 c132_14 (rw_aload_n (pc' := 15) (v := .ref r0) rfl rfl rfl ?_)
        refine wp_of e132 c132_15 (rw_iload_n (pc' := 16) (z := z1255) rfl rfl ?_)
        refine wp_of e132 c132_16 (xc_V (pc' := 19) (r := r0) (as := [vI z1255]) (st := []) (lm_0_70) rfl rfl (Nat.le_of_ble_eq_true rfl) w1253 g0 sh_1 (by decide) rfl (by decide) (s_12 w1253 g0 ⟨Int.le_trans (by decide) b1256.1, Int.le_trans b1256.2 (by decide)⟩) (fun R1309 T1310 H1311 p1312 => ?_))
        obtain ⟨e1313, w1315, f1316, z1317, e1314, b1318⟩ := p1312
        subst e1313
        subst e1314
        have f1319 := f1307.tr f1316 rfl
        show wp _ _ 132 19 [(2, vI z1255), (0, .ref r0), (1, vI a1)] [vI z1317] _ H1311 _
        have h1320 : CEN T H1311 ce e d := (CEN_fr w1253 gce f1316 rfl a1266)
        exact wp_ireturn e132 c132_19 rfl ⟨rfl, w1315, f1319, z1317, rfl, ⟨b1318.1, b1318.2⟩, (h1320)⟩
/-! StrikeAwake.bars(I)I  -/
abbrev uq_135 (r0 : Nat) (a1 : Int) (cu : Nat) (wa : Nat) (ce : Nat) (e : xD) (d : xD) (n : Int) (T : wq_T) (H : wq_H) : Option Value → wq_T → wq_H → Prop := fun r T' H' => T = T' ∧ WT T H' ∧ wfr [(1, 10), (6, 5), (8, 999), (10, 999), (9, 999), (7, 999), (11, 999)] T H H' ∧ ∃ z : Int, some (vI z) = r ∧ ((-2147483648) ≤ z ∧ z ≤ 2147483647) ∧ ((CEN T H' ce e d))
set_option maxHeartbeats 4000000 in
theorem u_135 {kt : Nat → Option mc_E} {T : wq_T} {H : wq_H} {r0 : Nat} {a1 : Int} {cu : Nat} {wa : Nat} {ce : Nat} {e : xD} {d : xD} {n : Int} (hW : WT T H) (g0 : T.2.2.2 r0 = some 1) (i1 : (-2147483648) ≤ a1 ∧ a1 ≤ 2147483647) (qcu : H r0 6 = (cu : Int)) (gcu : T.2.2.2 cu = some 27) (qwa : H r0 2 = (wa : Int)) (gwa : T.2.2.2 wa = some 6) (qce : H r0 3 = (ce : Int)) (gce : T.2.2.2 ce = some 12) (p0 : ∀ i, i ≠ 13 → e i = d i) (p1 : XW d) (p2 : e 0 3 = d 0 3) (p3 : e 0 0 = d 0 0) (p4 : H r0 8 = 0 ∨ n = xlots d) (p5 : H r0 8 ≠ 0 ∨ (d 0 3 = 0 ∧ d 0 0 = 0)) (hCU_cu : CU T H cu e d n) (hCEN_ce : CEN T H ce e d) (hHDR_ce : HDR T H ce ) : wpc kt 5 135 [.ref r0, vI a1] T H (uq_135 r0 a1 cu wa ce e d n T H) := by
  refine wp_enter e135 (Nat.le_of_ble_eq_true rfl) rfl ?_
  have f0 : wfr [(1, 10), (6, 5), (8, 999), (10, 999), (9, 999), (7, 999), (11, 999)] T H H := wfr.rf
  show wp _ _ 135 0 [(0, .ref r0), (1, vI a1)] [] _ H _
  have u1064 := CU_k hCU_cu
  have b1065 : 0 ≤ H r0 8 ∧ H r0 8 ≤ 1 := hW.box g0 (n := 13) rfl (by decide) rfl
  have _c7 : d 0 0 ≤ 24 := p1.2.1.2.1
  refine wp_of e135 c135_0 (rw_aload_n (pc' := 1) (v := .ref r0) rfl rfl rfl ?_)
  refine wp_of e135 c135_1 (rw_aload_n (pc' := 2) (v := .ref r0) rfl rfl rfl ?_)
  refine wp_of e135 c135_2 (rw_iload_n (pc' := 3) (z := a1) rfl rfl ?_)
  refine wp_of e135 c135_3 (xc_V (pc' := 6) (r := r0) (as := [vI a1]) (st := [.ref r0]) (lm_0_238) rfl rfl (Nat.le_of_ble_eq_true rfl) hW g0 sh_1 (by decide) rfl (by decide) (s_133 hW g0 ⟨i1.1, i1.2⟩) (fun R1066 T1067 H1068 p1069 => ?_))
  obtain ⟨e1070, e1072, z1074, e1071, b1075, p1073⟩ := p1069
  subst e1070
  subst e1071
  subst e1072
  show wp _ _ 135 6 [(0, .ref r0), (1, vI a1)] [vI z1074, .ref r0] _ H _
  refine wp_of e135 c135_6 (xc_V (pc' := 9) (r := r0) (as := [vI z1074]) (st := []) (lm_0_245) rfl rfl (Nat.le_of_ble_eq_true rfl) hW g0 sh_1 (by decide) rfl (by decide) (u_84 (e := e) (d := d) (n := n) hW g0 ⟨b1075.1, b1075.2⟩ qcu gcu hCU_cu) (fun R1076 T1077 H1078 p1079 => ?_))
  obtain ⟨e1080, e1082, z1083, e1081, b1084, p1085⟩ := p1079
  subst e1080
  subst e1081
  subst e1082
  rcases p1085 with ⟨a1086, a1087, a1088⟩ | ⟨a1089, a1090⟩
  · show wp _ _ 135 9 [(0, .ref r0), (1, vI a1)] [vI z1083] _ H _
    refine wp_of e135 c135_9 (rw_istore_n (pc' := 10) (z := z1083) (L' := [(2, vI z1083), (0, .ref r0), (1, vI a1)]) rfl rfl rfl ?_)
    refine wp_of e135 c135_10 (rw_iload_n (pc' := 11) (z := z1083) rfl rfl ?_)
    refine wp_of e135 c135_11 (rw_if_eq (p1 := 20) (p2 := 14) (by decide) rfl ⟨Int.le_trans (by decide) b1084.1, Int.le_trans b1084.2 (by decide)⟩ (fun c1091 => ?_) (fun c1091 => ?_))
    · refine wp_of e135 c135_20 (rw_aload_n (pc' := 21) (v := .ref r0) rfl rfl rfl ?_)
      refine wp_of e135 c135_21 (rw_aload_n (pc' := 22) (v := .ref r0) rfl rfl rfl ?_)
      refine wp_of e135 c135_22 (xg_R (pc' := 25) lf_0_44 hW g0 sh_1 (by decide) (by decide) ty_1_5 rfl rfl (fun r1092 q1093 g1094 => ?_))
      refine wp_of e135 c135_25 (rw_aload_n (pc' := 26) (v := .ref r0) rfl rfl rfl ?_)
      refine wp_of e135 c135_26 (xg_K (pc' := 29) lf_0_51 hW g0 sh_1 (by decide) (by decide) rfl qcu rfl ?_)
      refine wp_of e135 c135_29 (rw_aload_n (pc' := 30) (v := .ref r0) rfl rfl rfl ?_)
      refine wp_of e135 c135_30 (xg_K (pc' := 33) lf_0_23 hW g0 sh_1 (by decide) (by decide) rfl qwa rfl ?_)
      refine wp_of e135 c135_33 (rw_iload_n (pc' := 34) (z := a1) rfl rfl ?_)
      refine wp_of e135 c135_34 (xc_V (pc' := 37) (r := r1092) (as := [.ref cu, .ref wa, vI a1]) (st := [.ref r0]) (lm_0_248) rfl rfl (Nat.le_of_ble_eq_true rfl) hW g1094 sh_25 (by decide) rfl (by decide) (s_136 hW g1094 gcu gwa ⟨by omega, by omega⟩) (fun R1095 T1096 H1097 p1098 => ?_))
      obtain ⟨e1099, w1101, f1102, z1103, e1100, b1104⟩ := p1098
      subst e1099
      subst e1100
      have f1105 := f0.tr f1102 rfl
      show wp _ _ 135 37 [(2, vI z1083), (0, .ref r0), (1, vI a1)] [vI z1103, .ref r0] _ H1097 _
      refine wp_of e135 c135_37 (xc_V (pc' := 40) (r := r0) (as := [vI z1103]) (st := []) (lm_0_99) rfl rfl (Nat.le_of_ble_eq_true rfl) w1101 g0 sh_1 (by decide) rfl (by decide) (s_51 w1101 g0 ⟨b1104.1, b1104.2⟩) (fun R1106 T1107 H1108 p1109 => ?_))
      obtain ⟨e1110, w1112, f1113, z1114, e1111, b1115⟩ := p1109
      subst e1110
      subst e1111
      have f1116 := f1105.tr f1113 rfl
      show wp _ _ 135 40 [(2, vI z1083), (0, .ref r0), (1, vI a1)] [vI z1114] _ H1108 _
      have h1117 : CEN T H1108 ce e d := (CEN_fr w1101 gce f1113 rfl (CEN_fr hW gce f1102 rfl hCEN_ce))
      exact wp_ireturn e135 c135_40 rfl ⟨rfl, w1112, f1116, z1114, rfl, ⟨b1115.1, b1115.2⟩, (h1117)⟩
    · exfalso
      omega
  · show wp _ _ 135 9 [(0, .ref r0), (1, vI a1)] [vI z1083] _ H _
    refine wp_of e135 c135_9 (rw_istore_n (pc' := 10) (z := z1083) (L' := [(2, vI z1083), (0, .ref r0), (1, vI a1)]) rfl rfl rfl ?_)
    refine wp_of e135 c135_10 (rw_iload_n (pc' := 11) (z := z1083) rfl rfl ?_)
    refine wp_of e135 c135_11 (rw_if_eq (p1 := 20) (p2 := 14) (by decide) rfl ⟨Int.le_trans (by decide) b1084.1, Int.le_trans b1084.2 (by decide)⟩ (fun c1118 => ?_) (fun c1118 => ?_))
    · exfalso
      omega
    · refine wp_of e135 c135_14 (rw_aload_n (pc' := 15) (v := .ref r0) rfl rfl rfl ?_)
      refine wp_of e135 c135_15 (rw_iload_n (pc' := 16) (z := z1083) rfl rfl ?_)
      refine wp_of e135 c135_16 (xc_V (pc' := 19) (r := r0) (as := [vI z1083]) (st := []) (lm_0_70) rfl rfl (Nat.le_of_ble_eq_true rfl) hW g0 sh_1 (by decide) rfl (by decide) (s_12 hW g0 ⟨Int.le_trans (by decide) b1084.1, Int.le_trans b1084.2 (by decide)⟩) (fun R1119 T1120 H1121 p1122 => ?_))
      obtain ⟨e1123, w1125, f1126, z1127, e1124, b1128⟩ := p1122
      subst e1123
      subst e1124
      have f1129 := f0.tr f1126 rfl
      show wp _ _ 135 19 [(2, vI z1083), (0, .ref r0), (1, vI a1)] [vI z1127] _ H1121 _
      have h1130 : CEN T H1121 ce e d := (CEN_fr hW gce f1126 rfl hCEN_ce)
      exact wp_ireturn e135 c135_19 rfl ⟨rfl, w1125, f1129, z1127, rfl, ⟨b1128.1, b1128.2⟩, (h1130)⟩
/-! StrikeAwake.proof()I  -/
abbrev uq_137 (r0 : Nat) (cu : Nat) (wa : Nat) (ce : Nat) (e : xD) (d : xD) (n : Int) (T : wq_T) (H : wq_H) : Option Value → wq_T → wq_H → Prop := fun r T' H' => T = T' ∧ WT T H' ∧ wfr [(12, 5), (12, 6), (12, 7), (12, 8), (12, 9), (25, 1), (25, 2), (1, 10), (6, 5), (8, 999), (10, 999), (26, 999), (15, 999), (9, 999), (18, 999), (19, 999), (7, 999), (11, 999), (17, 999), (13, 999)] T H H' ∧ ∃ z : Int, some (vI z) = r ∧ ((-2147483648) ≤ z ∧ z ≤ 2147483647) ∧ ((CEN T H' ce e d))
set_option maxHeartbeats 4000000 in
theorem u_137 {kt : Nat → Option mc_E} {T : wq_T} {H : wq_H} {r0 : Nat} {cu : Nat} {wa : Nat} {ce : Nat} {e : xD} {d : xD} {n : Int} (hW : WT T H) (g0 : T.2.2.2 r0 = some 1) (qcu : H r0 6 = (cu : Int)) (gcu : T.2.2.2 cu = some 27) (qwa : H r0 2 = (wa : Int)) (gwa : T.2.2.2 wa = some 6) (qce : H r0 3 = (ce : Int)) (gce : T.2.2.2 ce = some 12) (p0 : ∀ i, i ≠ 13 → e i = d i) (p1 : XW d) (p2 : e 0 3 = d 0 3) (p3 : e 0 0 = d 0 0) (p4 : H r0 8 = 0 ∨ n = xlots d) (p5 : H r0 8 ≠ 0 ∨ (d 0 3 = 0 ∧ d 0 0 = 0)) (hCU_cu : CU T H cu e d n) (hCEN_ce : CEN T H ce e d) (hHDR_ce : HDR T H ce ) : wpc kt 6 137 [.ref r0] T H (uq_137 r0 cu wa ce e d n T H) := by
  refine wp_enter e137 (Nat.le_of_ble_eq_true rfl) rfl ?_
  have f0 : wfr [(12, 5), (12, 6), (12, 7), (12, 8), (12, 9), (25, 1), (25, 2), (1, 10), (6, 5), (8, 999), (10, 999), (26, 999), (15, 999), (9, 999), (18, 999), (19, 999), (7, 999), (11, 999), (17, 999), (13, 999)] T H H := wfr.rf
  show wp _ _ 137 0 [(0, .ref r0)] [] _ H _
  have u1089 := CU_k hCU_cu
  have b1090 : 0 ≤ H r0 8 ∧ H r0 8 ≤ 1 := hW.box g0 (n := 13) rfl (by decide) rfl
  have _c7 : d 0 0 ≤ 24 := p1.2.1.2.1
  refine wp_of e137 c137_0 (rw_aload_n (pc' := 1) (v := .ref r0) rfl rfl rfl ?_)
  refine wp_of e137 c137_1 (xg_I (pc' := 4) lf_0_58 hW g0 sh_1 (by decide) (by decide) ty_1_8 rfl rfl (fun b1091 b1092 => ?_))
  refine wp_of e137 c137_4 (rw_if_ne (p1 := 13) (p2 := 7) (by decide) rfl ⟨Int.le_trans (by decide) b1091, Int.le_trans b1092 (by decide)⟩ (fun c1093 => ?_) (fun c1093 => ?_))
  · refine wp_of e137 c137_13 (rw_aload_n (pc' := 14) (v := .ref r0) rfl rfl rfl ?_)
    refine wp_of e137 c137_14 (xg_K (pc' := 17) lf_0_51 hW g0 sh_1 (by decide) (by decide) rfl qcu rfl ?_)
    refine wp_of e137 c137_17 (xg_L (pc' := 20) lf_0_141 hW gcu sh_27 (by decide) (by decide) ty_27_18 rfl rfl (fun b1094 b1095 => ?_))
    refine wp_of e137 c137_20 (rw_ldc2 (pc' := 23) (z := 5000) rfl rfl rfl ?_)
    refine wp_of e137 c137_23 (rw_lcmp (pc' := 24) rfl ⟨b1094, b1095⟩ ⟨by decide, by decide⟩ ?_)
    have b1096 := wq_cmp_b (H cu 18) 5000
    refine wp_of e137 c137_24 (rw_if_le (p1 := 33) (p2 := 27) (by decide) rfl ⟨by omega, by omega⟩ (fun c1097 => ?_) (fun c1097 => ?_))
    · refine wp_of e137 c137_33 (rw_aload_n (pc' := 34) (v := .ref r0) rfl rfl rfl ?_)
      refine wp_of e137 c137_34 (xg_K (pc' := 37) lf_0_30 hW g0 sh_1 (by decide) (by decide) rfl qce rfl ?_)
      refine wp_of e137 c137_37 (rw_aload_n (pc' := 38) (v := .ref r0) rfl rfl rfl ?_)
      refine wp_of e137 c137_38 (xg_K (pc' := 41) lf_0_51 hW g0 sh_1 (by decide) (by decide) rfl qcu rfl ?_)
      refine wp_of e137 c137_41 (rw_aload_n (pc' := 42) (v := .ref r0) rfl rfl rfl ?_)
      refine wp_of e137 c137_42 (xg_K (pc' := 45) lf_0_23 hW g0 sh_1 (by decide) (by decide) rfl qwa rfl ?_)
      refine wp_of e137 c137_45 (xc_V (pc' := 48) (r := ce) (as := [.ref cu, .ref wa]) (st := []) (lm_0_254) rfl rfl (Nat.le_of_ble_eq_true rfl) hW gce sh_12 (by decide) rfl (by decide) (u_85 (e := e) (d := d) (n := n) hW gce gcu gwa (by assumption) (by assumption) (by omega) (by omega) (by omega) (by omega) hCU_cu hCEN_ce hHDR_ce) (fun R1098 T1099 H1100 p1101 => ?_))
      obtain ⟨e1102, w1104, f1105, e1103, p1106⟩ := p1101
      subst e1102
      subst e1103
      obtain ⟨a1107, a1108, a1109, a1110⟩ := p1106
      have f1111 := f0.tr f1105 rfl
      show wp _ _ 137 48 [(0, .ref r0)] [] _ H1100 _
      refine wp_of e137 c137_48 (rw_aload_n (pc' := 49) (v := .ref r0) rfl rfl rfl ?_)
      have k1112 : H1100 r0 3 = H r0 3 := (f1105 r0 3 _ g0 rfl)
      have q1113 : H1100 r0 3 = (ce : Int) := k1112.trans qce
      refine wp_of e137 c137_49 (xg_K (pc' := 52) lf_0_30 w1104 g0 sh_1 (by decide) (by decide) rfl q1113 rfl ?_)
      refine wp_of e137 c137_52 (xg_I (pc' := 55) lf_0_177 w1104 gce sh_12 (by decide) (by decide) ty_12_5 rfl rfl (fun b1114 b1115 => ?_))
      refine wp_of e137 c137_55 (rw_if_le (p1 := 64) (p2 := 58) (by decide) rfl ⟨b1114, b1115⟩ (fun c1116 => ?_) (fun c1116 => ?_))
      · refine wp_of e137 c137_64 (rw_aload_n (pc' := 65) (v := .ref r0) rfl rfl rfl ?_)
        refine wp_of e137 c137_65 (rw_aload_n (pc' := 66) (v := .ref r0) rfl rfl rfl ?_)
        refine wp_of e137 c137_66 (xg_R (pc' := 69) lf_0_44 w1104 g0 sh_1 (by decide) (by decide) ty_1_5 rfl rfl (fun r1117 q1118 g1119 => ?_))
        refine wp_of e137 c137_69 (rw_aload_n (pc' := 70) (v := .ref r0) rfl rfl rfl ?_)
        have k1120 : H1100 r0 6 = H r0 6 := (f1105 r0 6 _ g0 rfl)
        have q1121 : H1100 r0 6 = (cu : Int) := k1120.trans qcu
        refine wp_of e137 c137_70 (xg_K (pc' := 73) lf_0_51 w1104 g0 sh_1 (by decide) (by decide) rfl q1121 rfl ?_)
        refine wp_of e137 c137_73 (rw_aload_n (pc' := 74) (v := .ref r0) rfl rfl rfl ?_)
        have k1122 : H1100 r0 2 = H r0 2 := (f1105 r0 2 _ g0 rfl)
        have q1123 : H1100 r0 2 = (wa : Int) := k1122.trans qwa
        refine wp_of e137 c137_74 (xg_K (pc' := 77) lf_0_23 w1104 g0 sh_1 (by decide) (by decide) rfl q1123 rfl ?_)
        refine wp_of e137 c137_77 (xc_V (pc' := 80) (r := r1117) (as := [.ref cu, .ref wa]) (st := [.ref r0]) (lm_0_258) rfl rfl (Nat.le_of_ble_eq_true rfl) w1104 g1119 sh_25 (by decide) rfl (by decide) (s_138 w1104 g1119 gcu gwa) (fun R1124 T1125 H1126 p1127 => ?_))
        obtain ⟨e1128, w1130, f1131, z1132, e1129, b1133⟩ := p1127
        subst e1128
        subst e1129
        have f1134 := f1111.tr f1131 rfl
        show wp _ _ 137 80 [(0, .ref r0)] [vI z1132, .ref r0] _ H1126 _
        refine wp_of e137 c137_80 (xc_V (pc' := 83) (r := r0) (as := [vI z1132]) (st := []) (lm_0_99) rfl rfl (Nat.le_of_ble_eq_true rfl) w1130 g0 sh_1 (by decide) rfl (by decide) (s_51 w1130 g0 ⟨b1133.1, b1133.2⟩) (fun R1135 T1136 H1137 p1138 => ?_))
        obtain ⟨e1139, w1141, f1142, z1143, e1140, b1144⟩ := p1138
        subst e1139
        subst e1140
        have f1145 := f1134.tr f1142 rfl
        show wp _ _ 137 83 [(0, .ref r0)] [vI z1143] _ H1137 _
        have h1146 : CEN T H1137 ce e d := (CEN_fr w1130 gce f1142 rfl (CEN_fr w1104 gce f1131 rfl a1110))
        exact wp_ireturn e137 c137_83 rfl ⟨rfl, w1141, f1145, z1143, rfl, ⟨b1144.1, b1144.2⟩, (h1146)⟩
      · refine wp_of e137 c137_58 (rw_aload_n (pc' := 59) (v := .ref r0) rfl rfl rfl ?_)
        refine wp_of e137 c137_59 (rw_iconst (pc' := 60) rfl ?_)
        refine wp_of e137 c137_60 (xc_V (pc' := 63) (r := r0) (as := [vI 5]) (st := []) (lm_0_70) rfl rfl (Nat.le_of_ble_eq_true rfl) w1104 g0 sh_1 (by decide) rfl (by decide) (s_12 w1104 g0 ⟨by decide, by decide⟩) (fun R1147 T1148 H1149 p1150 => ?_))
        obtain ⟨e1151, w1153, f1154, z1155, e1152, b1156⟩ := p1150
        subst e1151
        subst e1152
        have f1157 := f1111.tr f1154 rfl
        show wp _ _ 137 63 [(0, .ref r0)] [vI z1155] _ H1149 _
        have h1158 : CEN T H1149 ce e d := (CEN_fr w1104 gce f1154 rfl a1110)
        exact wp_ireturn e137 c137_63 rfl ⟨rfl, w1153, f1157, z1155, rfl, ⟨b1156.1, b1156.2⟩, (h1158)⟩
    · refine wp_of e137 c137_27 (rw_aload_n (pc' := 28) (v := .ref r0) rfl rfl rfl ?_)
      refine wp_of e137 c137_28 (rw_iconst (pc' := 29) rfl ?_)
      refine wp_of e137 c137_29 (xc_V (pc' := 32) (r := r0) (as := [vI 3]) (st := []) (lm_0_70) rfl rfl (Nat.le_of_ble_eq_true rfl) hW g0 sh_1 (by decide) rfl (by decide) (s_12 hW g0 ⟨by decide, by decide⟩) (fun R1159 T1160 H1161 p1162 => ?_))
      obtain ⟨e1163, w1165, f1166, z1167, e1164, b1168⟩ := p1162
      subst e1163
      subst e1164
      have f1169 := f0.tr f1166 rfl
      show wp _ _ 137 32 [(0, .ref r0)] [vI z1167] _ H1161 _
      have h1170 : CEN T H1161 ce e d := (CEN_fr hW gce f1166 rfl hCEN_ce)
      exact wp_ireturn e137 c137_32 rfl ⟨rfl, w1165, f1169, z1167, rfl, ⟨b1168.1, b1168.2⟩, (h1170)⟩
  · refine wp_of e137 c137_7 (rw_aload_n (pc' := 8) (v := .ref r0) rfl rfl rfl ?_)
    refine wp_of e137 c137_8 (rw_iconst (pc' := 9) rfl ?_)
    refine wp_of e137 c137_9 (xc_V (pc' := 12) (r := r0) (as := [vI 1]) (st := []) (lm_0_70) rfl rfl (Nat.le_of_ble_eq_true rfl) hW g0 sh_1 (by decide) rfl (by decide) (s_12 hW g0 ⟨by decide, by decide⟩) (fun R1171 T1172 H1173 p1174 => ?_))
    obtain ⟨e1175, w1177, f1178, z1179, e1176, b1180⟩ := p1174
    subst e1175
    subst e1176
    have f1181 := f0.tr f1178 rfl
    show wp _ _ 137 12 [(0, .ref r0)] [vI z1179] _ H1173 _
    have h1182 : CEN T H1173 ce e d := (CEN_fr hW gce f1178 rfl hCEN_ce)
    exact wp_ireturn e137 c137_12 rfl ⟨rfl, w1177, f1181, z1179, rfl, ⟨b1180.1, b1180.2⟩, (h1182)⟩
/-! StrikeAwake.part(IZ)I  -/
abbrev uq_146 (r0 : Nat) (a1 : Int) (a2 : Int) (cu : Nat) (wa : Nat) (ce : Nat) (e : xD) (d : xD) (n : Int) (T : wq_T) (H : wq_H) : Option Value → wq_T → wq_H → Prop := fun r T' H' => T = T' ∧ WT T H' ∧ wfr [(12, 5), (12, 6), (12, 7), (12, 8), (12, 9), (1, 10), (6, 5), (8, 999), (10, 999), (15, 999), (9, 999), (18, 999), (19, 999), (7, 999), (11, 999), (17, 999), (13, 999)] T H H' ∧ ∃ z : Int, some (vI z) = r ∧ ((-2147483648) ≤ z ∧ z ≤ 2147483647) ∧ ((CEN T H' ce e d))
set_option maxHeartbeats 4000000 in
theorem u_146 {kt : Nat → Option mc_E} {T : wq_T} {H : wq_H} {r0 : Nat} {a1 : Int} {a2 : Int} {cu : Nat} {wa : Nat} {ce : Nat} {e : xD} {d : xD} {n : Int} (hW : WT T H) (g0 : T.2.2.2 r0 = some 1) (i1 : (-2147483648) ≤ a1 ∧ a1 ≤ 2147483647) (i2 : 0 ≤ a2 ∧ a2 ≤ 1) (qcu : H r0 6 = (cu : Int)) (gcu : T.2.2.2 cu = some 27) (qwa : H r0 2 = (wa : Int)) (gwa : T.2.2.2 wa = some 6) (qce : H r0 3 = (ce : Int)) (gce : T.2.2.2 ce = some 12) (p0 : ∀ i, i ≠ 13 → e i = d i) (p1 : XW d) (p2 : e 0 3 = d 0 3) (p3 : e 0 0 = d 0 0) (p4 : H r0 8 = 0 ∨ n = xlots d) (p5 : H r0 8 ≠ 0 ∨ (d 0 3 = 0 ∧ d 0 0 = 0)) (hCU_cu : CU T H cu e d n) (hCEN_ce : CEN T H ce e d) (hHDR_ce : HDR T H ce ) : wpc kt 7 146 [.ref r0, vI a1, vI a2] T H (uq_146 r0 a1 a2 cu wa ce e d n T H) := by
  refine wp_enter e146 (Nat.le_of_ble_eq_true rfl) rfl ?_
  have f0 : wfr [(12, 5), (12, 6), (12, 7), (12, 8), (12, 9), (1, 10), (6, 5), (8, 999), (10, 999), (15, 999), (9, 999), (18, 999), (19, 999), (7, 999), (11, 999), (17, 999), (13, 999)] T H H := wfr.rf
  show wp _ _ 146 0 [(0, .ref r0), (1, vI a1), (2, vI a2)] [] _ H _
  have u1278 := CU_k hCU_cu
  have b1279 : 0 ≤ H r0 8 ∧ H r0 8 ≤ 1 := hW.box g0 (n := 13) rfl (by decide) rfl
  have _c7 : d 0 0 ≤ 24 := p1.2.1.2.1
  refine wp_of e146 c146_0 (rw_aload_n (pc' := 1) (v := .ref r0) rfl rfl rfl ?_)
  refine wp_of e146 c146_1 (rw_aload_n (pc' := 2) (v := .ref r0) rfl rfl rfl ?_)
  refine wp_of e146 c146_2 (rw_iload_n (pc' := 3) (z := a1) rfl rfl ?_)
  refine wp_of e146 c146_3 (xc_V (pc' := 6) (r := r0) (as := [vI a1]) (st := [.ref r0]) (lm_0_132) rfl rfl (Nat.le_of_ble_eq_true rfl) hW g0 sh_1 (by decide) rfl (by decide) (u_60  hW g0 ⟨i1.1, i1.2⟩ qcu gcu) (fun R1280 T1281 H1282 p1283 => ?_))
  obtain ⟨e1284, e1286, z1287, e1285, b1288, p1289⟩ := p1283
  subst e1284
  subst e1285
  subst e1286
  rcases p1289 with ⟨a1290, a1291⟩ | ⟨a1292, a1293⟩
  · show wp _ _ 146 6 [(0, .ref r0), (1, vI a1), (2, vI a2)] [vI z1287, .ref r0] _ H _
    refine wp_of e146 c146_6 (rw_if_eq (p1 := 25) (p2 := 9) (by decide) rfl ⟨Int.le_trans (by decide) b1288.1, Int.le_trans b1288.2 (by decide)⟩ (fun c1294 => ?_) (fun c1294 => ?_))
    · exfalso
      omega
    · refine wp_of e146 c146_9 (rw_aload_n (pc' := 10) (v := .ref r0) rfl rfl rfl ?_)
      refine wp_of e146 c146_10 (xg_K (pc' := 13) lf_0_51 hW g0 sh_1 (by decide) (by decide) rfl qcu rfl ?_)
      refine wp_of e146 c146_13 (xg_R (pc' := 16) lf_0_262 hW gcu sh_27 (by decide) (by decide) ty_27_1 rfl rfl (fun r1295 q1296 g1297 => ?_))
      refine wp_of e146 c146_16 (rw_iload_n (pc' := 17) (z := a1) rfl rfl ?_)
      refine wp_of e146 c146_17 (xa_I (so := 0) (pc' := 18) hW g1297 sh_29 (by decide) (ty_29 _) (by omega) (by omega) rfl (fun b1298 b1299 => ?_))
      refine wp_of e146 c146_18 (rw_if_lt (p1 := 25) (p2 := 21) (by decide) rfl ⟨b1298, b1299⟩ (fun c1300 => ?_) (fun c1300 => ?_))
      · refine wp_of e146 c146_25 (rw_iconst (pc' := 26) rfl ?_)
        refine wp_of e146 c146_26 (xc_V (pc' := 29) (r := r0) (as := [vI 0]) (st := []) (lm_0_198) rfl rfl (Nat.le_of_ble_eq_true rfl) hW g0 sh_1 (by decide) rfl (by decide) (u_102 (e := e) (d := d) (n := n) hW g0 ⟨by decide, by decide⟩ qcu gcu qwa gwa qce gce (by assumption) (by assumption) (by omega) (by omega) (by omega) hCU_cu hCEN_ce hHDR_ce) (fun R1301 T1302 H1303 p1304 => ?_))
        obtain ⟨e1305, w1307, f1308, z1309, e1306, b1310, p1311⟩ := p1304
        subst e1305
        subst e1306
        rcases p1311 with ⟨a1312, a1313, a1314, a1315, a1316, a1317, a1318⟩ | ⟨a1319, a1320, a1321⟩
        · have f1322 := f0.tr f1308 rfl
          show wp _ _ 146 29 [(0, .ref r0), (1, vI a1), (2, vI a2)] [vI z1309] _ H1303 _
          refine wp_of e146 c146_29 (rw_istore_n (pc' := 30) (z := z1309) (L' := [(3, vI z1309), (0, .ref r0), (1, vI a1), (2, vI a2)]) rfl rfl rfl ?_)
          refine wp_of e146 c146_30 (rw_iload_n (pc' := 31) (z := z1309) rfl rfl ?_)
          refine wp_of e146 c146_31 (rw_if_eq (p1 := 43) (p2 := 34) (by decide) rfl ⟨Int.le_trans (by decide) b1310.1, Int.le_trans b1310.2 (by decide)⟩ (fun c1323 => ?_) (fun c1323 => ?_))
          · refine wp_of e146 c146_43 (rw_iload_n (pc' := 44) (z := a2) rfl rfl ?_)
            refine wp_of e146 c146_44 (rw_if_eq (p1 := 59) (p2 := 47) (by decide) rfl ⟨Int.le_trans (by decide) i2.1, Int.le_trans i2.2 (by decide)⟩ (fun c1324 => ?_) (fun c1324 => ?_))
            · refine wp_of e146 c146_59 (rw_aload_n (pc' := 60) (v := .ref r0) rfl rfl rfl ?_)
              have k1325 : H1303 r0 3 = H r0 3 := (f1308 r0 3 _ g0 rfl)
              have q1326 : H1303 r0 3 = (ce : Int) := k1325.trans qce
              refine wp_of e146 c146_60 (xg_K (pc' := 63) lf_0_30 w1307 g0 sh_1 (by decide) (by decide) rfl q1326 rfl ?_)
              refine wp_of e146 c146_63 (xg_R (pc' := 66) lf_0_268 w1307 gce sh_12 (by decide) (by decide) ty_12_4 rfl rfl (fun r1327 q1328 g1329 => ?_))
              refine wp_of e146 c146_66 (rw_iload_n (pc' := 67) (z := a1) rfl rfl ?_)
              refine wp_of e146 c146_67 (xa_I (so := 0) (pc' := 68) w1307 g1329 sh_19 (by decide) (ty_19 _) (by omega) (by omega) rfl (fun b1330 b1331 => ?_))
              refine wp_of e146 c146_68 (rw_istore (pc' := 70) (z := H1303 r1327 (a1.toNat)) (L' := [(4, vI (H1303 r1327 (a1.toNat))), (3, vI z1309), (0, .ref r0), (1, vI a1), (2, vI a2)]) rfl rfl rfl ?_)
              refine wp_of e146 c146_70 (rw_aload_n (pc' := 71) (v := .ref r0) rfl rfl rfl ?_)
              refine wp_of e146 c146_71 (rw_aload_n (pc' := 72) (v := .ref r0) rfl rfl rfl ?_)
              have k1332 : H1303 r0 6 = H r0 6 := (f1308 r0 6 _ g0 rfl)
              have q1333 : H1303 r0 6 = (cu : Int) := k1332.trans qcu
              refine wp_of e146 c146_72 (xg_K (pc' := 75) lf_0_51 w1307 g0 sh_1 (by decide) (by decide) rfl q1333 rfl ?_)
              have k1334 : H1303 cu 1 = H cu 1 := (f1308 cu 1 _ gcu rfl)
              have q1335 : H1303 cu 1 = (r1295 : Int) := k1334.trans q1296
              refine wp_of e146 c146_75 (xg_K (pc' := 78) lf_0_262 w1307 gcu sh_27 (by decide) (by decide) rfl q1335 rfl ?_)
              refine wp_of e146 c146_78 (rw_iload_n (pc' := 79) (z := a1) rfl rfl ?_)
              have k1336 : H1303 r1295 (a1.toNat) = H r1295 (a1.toNat) := (f1308 r1295 (a1.toNat) _ g1297 rfl)
              refine wp_of e146 c146_79 (xa_I (so := 0) (pc' := 80) w1307 g1297 sh_29 (by decide) (ty_29 _) (by omega) (by omega) rfl (fun b1337 b1338 => ?_))
              refine wp_of e146 c146_80 (rw_iload (pc' := 82) (z := H1303 r1327 (a1.toNat)) rfl rfl ?_)
              refine wp_of e146 c146_82 (rw_isubw (pc' := 83) rfl ?_)
              obtain ⟨v1339, e1340⟩ : ∃ x : Int, x = wq_w ((H1303 r1295 (a1.toNat)) - (H1303 r1327 (a1.toNat))) := ⟨_, rfl⟩
              rw [← e1340]
              have b1341 : -2147483648 ≤ v1339 ∧ v1339 ≤ 2147483647 := by
                rw [e1340]
                exact wI_w _
              have b1342 : (-2147483648 ≤ (H1303 r1295 (a1.toNat)) - (H1303 r1327 (a1.toNat)) ∧ (H1303 r1295 (a1.toNat)) - (H1303 r1327 (a1.toNat)) ≤ 2147483647) → v1339 = (H1303 r1295 (a1.toNat)) - (H1303 r1327 (a1.toNat)) := fun h => by rw [e1340]; exact wq_w_id h
              refine wp_of e146 c146_83 (xc_V (pc' := 86) (r := r0) (as := [vI v1339]) (st := []) (lm_0_99) rfl rfl (Nat.le_of_ble_eq_true rfl) w1307 g0 sh_1 (by decide) rfl (by decide) (s_51 w1307 g0 ⟨b1341.1, b1341.2⟩) (fun R1343 T1344 H1345 p1346 => ?_))
              obtain ⟨e1347, w1349, f1350, z1351, e1348, b1352⟩ := p1346
              subst e1347
              subst e1348
              have f1353 := f1322.tr f1350 rfl
              show wp _ _ 146 86 [(4, vI (H1303 r1327 (a1.toNat))), (3, vI z1309), (0, .ref r0), (1, vI a1), (2, vI a2)] [vI z1351] _ H1345 _
              have h1354 : CEN T H1345 ce e d := (CEN_fr w1307 gce f1350 rfl a1316)
              exact wp_ireturn e146 c146_86 rfl ⟨rfl, w1349, f1353, z1351, rfl, ⟨b1352.1, b1352.2⟩, (h1354)⟩
            · refine wp_of e146 c146_47 (rw_aload_n (pc' := 48) (v := .ref r0) rfl rfl rfl ?_)
              have k1355 : H1303 r0 3 = H r0 3 := (f1308 r0 3 _ g0 rfl)
              have q1356 : H1303 r0 3 = (ce : Int) := k1355.trans qce
              refine wp_of e146 c146_48 (xg_K (pc' := 51) lf_0_30 w1307 g0 sh_1 (by decide) (by decide) rfl q1356 rfl ?_)
              refine wp_of e146 c146_51 (xg_R (pc' := 54) lf_0_265 w1307 gce sh_12 (by decide) (by decide) ty_12_3 rfl rfl (fun r1357 q1358 g1359 => ?_))
              refine wp_of e146 c146_54 (rw_iload_n (pc' := 55) (z := a1) rfl rfl ?_)
              refine wp_of e146 c146_55 (xa_I (so := 0) (pc' := 56) w1307 g1359 sh_18 (by decide) (ty_18 _) (by omega) (by omega) rfl (fun b1360 b1361 => ?_))
              refine wp_of e146 c146_56 (rw_goto (p1 := 68) (by decide) ?_)
              refine wp_of e146 c146_68 (rw_istore (pc' := 70) (z := H1303 r1357 (a1.toNat)) (L' := [(4, vI (H1303 r1357 (a1.toNat))), (3, vI z1309), (0, .ref r0), (1, vI a1), (2, vI a2)]) rfl rfl rfl ?_)
              refine wp_of e146 c146_70 (rw_aload_n (pc' := 71) (v := .ref r0) rfl rfl rfl ?_)
              refine wp_of e146 c146_71 (rw_aload_n (pc' := 72) (v := .ref r0) rfl rfl rfl ?_)
              have k1362 : H1303 r0 6 = H r0 6 := (f1308 r0 6 _ g0 rfl)
              have q1363 : H1303 r0 6 = (cu : Int) := k1362.trans qcu
              refine wp_of e146 c146_72 (xg_K (pc' := 75) lf_0_51 w1307 g0 sh_1 (by decide) (by decide) rfl q1363 rfl ?_)
              have k1364 : H1303 cu 1 = H cu 1 := (f1308 cu 1 _ gcu rfl)
              have q1365 : H1303 cu 1 = (r1295 : Int) := k1364.trans q1296
              refine wp_of e146 c146_75 (xg_K (pc' := 78) lf_0_262 w1307 gcu sh_27 (by decide) (by decide) rfl q1365 rfl ?_)
              refine wp_of e146 c146_78 (rw_iload_n (pc' := 79) (z := a1) rfl rfl ?_)
              have k1366 : H1303 r1295 (a1.toNat) = H r1295 (a1.toNat) := (f1308 r1295 (a1.toNat) _ g1297 rfl)
              refine wp_of e146 c146_79 (xa_I (so := 0) (pc' := 80) w1307 g1297 sh_29 (by decide) (ty_29 _) (by omega) (by omega) rfl (fun b1367 b1368 => ?_))
              refine wp_of e146 c146_80 (rw_iload (pc' := 82) (z := H1303 r1357 (a1.toNat)) rfl rfl ?_)
              refine wp_of e146 c146_82 (rw_isubw (pc' := 83) rfl ?_)
              obtain ⟨v1369, e1370⟩ : ∃ x : Int, x = wq_w ((H1303 r1295 (a1.toNat)) - (H1303 r1357 (a1.toNat))) := ⟨_, rfl⟩
              rw [← e1370]
              have b1371 : -2147483648 ≤ v1369 ∧ v1369 ≤ 2147483647 := by
                rw [e1370]
                exact wI_w _
              have b1372 : (-2147483648 ≤ (H1303 r1295 (a1.toNat)) - (H1303 r1357 (a1.toNat)) ∧ (H1303 r1295 (a1.toNat)) - (H1303 r1357 (a1.toNat)) ≤ 2147483647) → v1369 = (H1303 r1295 (a1.toNat)) - (H1303 r1357 (a1.toNat)) := fun h => by rw [e1370]; exact wq_w_id h
              refine wp_of e146 c146_83 (xc_V (pc' := 86) (r := r0) (as := [vI v1369]) (st := []) (lm_0_99) rfl rfl (Nat.le_of_ble_eq_true rfl) w1307 g0 sh_1 (by decide) rfl (by decide) (s_51 w1307 g0 ⟨b1371.1, b1371.2⟩) (fun R1373 T1374 H1375 p1376 => ?_))
              obtain ⟨e1377, w1379, f1380, z1381, e1378, b1382⟩ := p1376
              subst e1377
              subst e1378
              have f1383 := f1322.tr f1380 rfl
              show wp _ _ 146 86 [(4, vI (H1303 r1357 (a1.toNat))), (3, vI z1309), (0, .ref r0), (1, vI a1), (2, vI a2)] [vI z1381] _ H1375 _
              have h1384 : CEN T H1375 ce e d := (CEN_fr w1307 gce f1380 rfl a1316)
              exact wp_ireturn e146 c146_86 rfl ⟨rfl, w1379, f1383, z1381, rfl, ⟨b1382.1, b1382.2⟩, (h1384)⟩
          · exfalso
            omega
        · have f1385 := f0.tr f1308 rfl
          show wp _ _ 146 29 [(0, .ref r0), (1, vI a1), (2, vI a2)] [vI z1309] _ H1303 _
          refine wp_of e146 c146_29 (rw_istore_n (pc' := 30) (z := z1309) (L' := [(3, vI z1309), (0, .ref r0), (1, vI a1), (2, vI a2)]) rfl rfl rfl ?_)
          refine wp_of e146 c146_30 (rw_iload_n (pc' := 31) (z := z1309) rfl rfl ?_)
          refine wp_of e146 c146_31 (rw_if_eq (p1 := 43) (p2 := 34) (by decide) rfl ⟨Int.le_trans (by decide) b1310.1, Int.le_trans b1310.2 (by decide)⟩ (fun c1386 => ?_) (fun c1386 => ?_))
          · exfalso
            omega
          · refine wp_of e146 c146_34 (rw_aload_n (pc' := 35) (v := .ref r0) rfl rfl rfl ?_)
            refine wp_of e146 c146_35 (rw_iload_n (pc' := 36) (z := z1309) rfl rfl ?_)
            refine wp_of e146 c146_36 (xp_I (pc' := 39) lf_0_102 w1307 g0 sh_1 (by decide) (by decide) ty_1_10 rfl rfl (Int.le_trans (by decide) b1310.1) (Int.le_trans b1310.2 (by decide)) ⟨Int.le_trans (by decide) b1310.1, Int.le_trans b1310.2 (by decide)⟩ rfl (fun H1387 e1388 w1389 => ?_))
            have f1390 := f1385.put' e1388 g0 rfl
            have k1391 : H1387 r0 10 = z1309 := wq_u_s e1388
            refine wp_of e146 c146_39 (rw_sipush (pc' := 42) (z := -1000) rfl (by decide) ?_)
            have h1392 : CEN T H1387 ce e d := (CEN_fr w1307 gce ((wfr.rf (l := [(1, 10)])).put' e1388 g0 rfl) rfl a1321)
            exact wp_ireturn e146 c146_42 rfl ⟨rfl, w1389, f1390, -1000, rfl, ⟨by decide, by decide⟩, (h1392)⟩
      · refine wp_of e146 c146_21 (rw_iconst (pc' := 22) rfl ?_)
        refine wp_of e146 c146_22 (rw_goto (p1 := 26) (by decide) ?_)
        refine wp_of e146 c146_26 (xc_V (pc' := 29) (r := r0) (as := [vI 1]) (st := []) (lm_0_198) rfl rfl (Nat.le_of_ble_eq_true rfl) hW g0 sh_1 (by decide) rfl (by decide) (u_102 (e := e) (d := d) (n := n) hW g0 ⟨by decide, by decide⟩ qcu gcu qwa gwa qce gce (by assumption) (by assumption) (by omega) (by omega) (by omega) hCU_cu hCEN_ce hHDR_ce) (fun R1393 T1394 H1395 p1396 => ?_))
        obtain ⟨e1397, w1399, f1400, z1401, e1398, b1402, p1403⟩ := p1396
        subst e1397
        subst e1398
        rcases p1403 with ⟨a1404, a1405, a1406, a1407, a1408, a1409, a1410⟩ | ⟨a1411, a1412, a1413⟩
        · have f1414 := f0.tr f1400 rfl
          show wp _ _ 146 29 [(0, .ref r0), (1, vI a1), (2, vI a2)] [vI z1401] _ H1395 _
          refine wp_of e146 c146_29 (rw_istore_n (pc' := 30) (z := z1401) (L' := [(3, vI z1401), (0, .ref r0), (1, vI a1), (2, vI a2)]) rfl rfl rfl ?_)
          refine wp_of e146 c146_30 (rw_iload_n (pc' := 31) (z := z1401) rfl rfl ?_)
          refine wp_of e146 c146_31 (rw_if_eq (p1 := 43) (p2 := 34) (by decide) rfl ⟨Int.le_trans (by decide) b1402.1, Int.le_trans b1402.2 (by decide)⟩ (fun c1415 => ?_) (fun c1415 => ?_))
          · refine wp_of e146 c146_43 (rw_iload_n (pc' := 44) (z := a2) rfl rfl ?_)
            refine wp_of e146 c146_44 (rw_if_eq (p1 := 59) (p2 := 47) (by decide) rfl ⟨Int.le_trans (by decide) i2.1, Int.le_trans i2.2 (by decide)⟩ (fun c1416 => ?_) (fun c1416 => ?_))
            · refine wp_of e146 c146_59 (rw_aload_n (pc' := 60) (v := .ref r0) rfl rfl rfl ?_)
              have k1417 : H1395 r0 3 = H r0 3 := (f1400 r0 3 _ g0 rfl)
              have q1418 : H1395 r0 3 = (ce : Int) := k1417.trans qce
              refine wp_of e146 c146_60 (xg_K (pc' := 63) lf_0_30 w1399 g0 sh_1 (by decide) (by decide) rfl q1418 rfl ?_)
              refine wp_of e146 c146_63 (xg_R (pc' := 66) lf_0_268 w1399 gce sh_12 (by decide) (by decide) ty_12_4 rfl rfl (fun r1419 q1420 g1421 => ?_))
              refine wp_of e146 c146_66 (rw_iload_n (pc' := 67) (z := a1) rfl rfl ?_)
              refine wp_of e146 c146_67 (xa_I (so := 0) (pc' := 68) w1399 g1421 sh_19 (by decide) (ty_19 _) (by omega) (by omega) rfl (fun b1422 b1423 => ?_))
              refine wp_of e146 c146_68 (rw_istore (pc' := 70) (z := H1395 r1419 (a1.toNat)) (L' := [(4, vI (H1395 r1419 (a1.toNat))), (3, vI z1401), (0, .ref r0), (1, vI a1), (2, vI a2)]) rfl rfl rfl ?_)
              refine wp_of e146 c146_70 (rw_aload_n (pc' := 71) (v := .ref r0) rfl rfl rfl ?_)
              refine wp_of e146 c146_71 (rw_aload_n (pc' := 72) (v := .ref r0) rfl rfl rfl ?_)
              have k1424 : H1395 r0 6 = H r0 6 := (f1400 r0 6 _ g0 rfl)
              have q1425 : H1395 r0 6 = (cu : Int) := k1424.trans qcu
              refine wp_of e146 c146_72 (xg_K (pc' := 75) lf_0_51 w1399 g0 sh_1 (by decide) (by decide) rfl q1425 rfl ?_)
              have k1426 : H1395 cu 1 = H cu 1 := (f1400 cu 1 _ gcu rfl)
              have q1427 : H1395 cu 1 = (r1295 : Int) := k1426.trans q1296
              refine wp_of e146 c146_75 (xg_K (pc' := 78) lf_0_262 w1399 gcu sh_27 (by decide) (by decide) rfl q1427 rfl ?_)
              refine wp_of e146 c146_78 (rw_iload_n (pc' := 79) (z := a1) rfl rfl ?_)
              have k1428 : H1395 r1295 (a1.toNat) = H r1295 (a1.toNat) := (f1400 r1295 (a1.toNat) _ g1297 rfl)
              refine wp_of e146 c146_79 (xa_I (so := 0) (pc' := 80) w1399 g1297 sh_29 (by decide) (ty_29 _) (by omega) (by omega) rfl (fun b1429 b1430 => ?_))
              refine wp_of e146 c146_80 (rw_iload (pc' := 82) (z := H1395 r1419 (a1.toNat)) rfl rfl ?_)
              refine wp_of e146 c146_82 (rw_isubw (pc' := 83) rfl ?_)
              obtain ⟨v1431, e1432⟩ : ∃ x : Int, x = wq_w ((H1395 r1295 (a1.toNat)) - (H1395 r1419 (a1.toNat))) := ⟨_, rfl⟩
              rw [← e1432]
              have b1433 : -2147483648 ≤ v1431 ∧ v1431 ≤ 2147483647 := by
                rw [e1432]
                exact wI_w _
              have b1434 : (-2147483648 ≤ (H1395 r1295 (a1.toNat)) - (H1395 r1419 (a1.toNat)) ∧ (H1395 r1295 (a1.toNat)) - (H1395 r1419 (a1.toNat)) ≤ 2147483647) → v1431 = (H1395 r1295 (a1.toNat)) - (H1395 r1419 (a1.toNat)) := fun h => by rw [e1432]; exact wq_w_id h
              refine wp_of e146 c146_83 (xc_V (pc' := 86) (r := r0) (as := [vI v1431]) (st := []) (lm_0_99) rfl rfl (Nat.le_of_ble_eq_true rfl) w1399 g0 sh_1 (by decide) rfl (by decide) (s_51 w1399 g0 ⟨b1433.1, b1433.2⟩) (fun R1435 T1436 H1437 p1438 => ?_))
              obtain ⟨e1439, w1441, f1442, z1443, e1440, b1444⟩ := p1438
              subst e1439
              subst e1440
              have f1445 := f1414.tr f1442 rfl
              show wp _ _ 146 86 [(4, vI (H1395 r1419 (a1.toNat))), (3, vI z1401), (0, .ref r0), (1, vI a1), (2, vI a2)] [vI z1443] _ H1437 _
              have h1446 : CEN T H1437 ce e d := (CEN_fr w1399 gce f1442 rfl a1408)
              exact wp_ireturn e146 c146_86 rfl ⟨rfl, w1441, f1445, z1443, rfl, ⟨b1444.1, b1444.2⟩, (h1446)⟩
            · refine wp_of e146 c146_47 (rw_aload_n (pc' := 48) (v := .ref r0) rfl rfl rfl ?_)
              have k1447 : H1395 r0 3 = H r0 3 := (f1400 r0 3 _ g0 rfl)
              have q1448 : H1395 r0 3 = (ce : Int) := k1447.trans qce
              refine wp_of e146 c146_48 (xg_K (pc' := 51) lf_0_30 w1399 g0 sh_1 (by decide) (by decide) rfl q1448 rfl ?_)
              refine wp_of e146 c146_51 (xg_R (pc' := 54) lf_0_265 w1399 gce sh_12 (by decide) (by decide) ty_12_3 rfl rfl (fun r1449 q1450 g1451 => ?_))
              refine wp_of e146 c146_54 (rw_iload_n (pc' := 55) (z := a1) rfl rfl ?_)
              refine wp_of e146 c146_55 (xa_I (so := 0) (pc' := 56) w1399 g1451 sh_18 (by decide) (ty_18 _) (by omega) (by omega) rfl (fun b1452 b1453 => ?_))
              refine wp_of e146 c146_56 (rw_goto (p1 := 68) (by decide) ?_)
              refine wp_of e146 c146_68 (rw_istore (pc' := 70) (z := H1395 r1449 (a1.toNat)) (L' := [(4, vI (H1395 r1449 (a1.toNat))), (3, vI z1401), (0, .ref r0), (1, vI a1), (2, vI a2)]) rfl rfl rfl ?_)
              refine wp_of e146 c146_70 (rw_aload_n (pc' := 71) (v := .ref r0) rfl rfl rfl ?_)
              refine wp_of e146 c146_71 (rw_aload_n (pc' := 72) (v := .ref r0) rfl rfl rfl ?_)
              have k1454 : H1395 r0 6 = H r0 6 := (f1400 r0 6 _ g0 rfl)
              have q1455 : H1395 r0 6 = (cu : Int) := k1454.trans qcu
              refine wp_of e146 c146_72 (xg_K (pc' := 75) lf_0_51 w1399 g0 sh_1 (by decide) (by decide) rfl q1455 rfl ?_)
              have k1456 : H1395 cu 1 = H cu 1 := (f1400 cu 1 _ gcu rfl)
              have q1457 : H1395 cu 1 = (r1295 : Int) := k1456.trans q1296
              refine wp_of e146 c146_75 (xg_K (pc' := 78) lf_0_262 w1399 gcu sh_27 (by decide) (by decide) rfl q1457 rfl ?_)
              refine wp_of e146 c146_78 (rw_iload_n (pc' := 79) (z := a1) rfl rfl ?_)
              have k1458 : H1395 r1295 (a1.toNat) = H r1295 (a1.toNat) := (f1400 r1295 (a1.toNat) _ g1297 rfl)
              refine wp_of e146 c146_79 (xa_I (so := 0) (pc' := 80) w1399 g1297 sh_29 (by decide) (ty_29 _) (by omega) (by omega) rfl (fun b1459 b1460 => ?_))
              refine wp_of e146 c146_80 (rw_iload (pc' := 82) (z := H1395 r1449 (a1.toNat)) rfl rfl ?_)
              refine wp_of e146 c146_82 (rw_isubw (pc' := 83) rfl ?_)
              obtain ⟨v1461, e1462⟩ : ∃ x : Int, x = wq_w ((H1395 r1295 (a1.toNat)) - (H1395 r1449 (a1.toNat))) := ⟨_, rfl⟩
              rw [← e1462]
              have b1463 : -2147483648 ≤ v1461 ∧ v1461 ≤ 2147483647 := by
                rw [e1462]
                exact wI_w _
              have b1464 : (-2147483648 ≤ (H1395 r1295 (a1.toNat)) - (H1395 r1449 (a1.toNat)) ∧ (H1395 r1295 (a1.toNat)) - (H1395 r1449 (a1.toNat)) ≤ 2147483647) → v1461 = (H1395 r1295 (a1.toNat)) - (H1395 r1449 (a1.toNat)) := fun h => by rw [e1462]; exact wq_w_id h
              refine wp_of e146 c146_83 (xc_V (pc' := 86) (r := r0) (as := [vI v1461]) (st := []) (lm_0_99) rfl rfl (Nat.le_of_ble_eq_true rfl) w1399 g0 sh_1 (by decide) rfl (by decide) (s_51 w1399 g0 ⟨b1463.1, b1463.2⟩) (fun R1465 T1466 H1467 p1468 => ?_))
              obtain ⟨e1469, w1471, f1472, z1473, e1470, b1474⟩ := p1468
              subst e1469
              subst e1470
              have f1475 := f1414.tr f1472 rfl
              show wp _ _ 146 86 [(4, vI (H1395 r1449 (a1.toNat))), (3, vI z1401), (0, .ref r0), (1, vI a1), (2, vI a2)] [vI z1473] _ H1467 _
              have h1476 : CEN T H1467 ce e d := (CEN_fr w1399 gce f1472 rfl a1408)
              exact wp_ireturn e146 c146_86 rfl ⟨rfl, w1471, f1475, z1473, rfl, ⟨b1474.1, b1474.2⟩, (h1476)⟩
          · exfalso
            omega
        · have f1477 := f0.tr f1400 rfl
          show wp _ _ 146 29 [(0, .ref r0), (1, vI a1), (2, vI a2)] [vI z1401] _ H1395 _
          refine wp_of e146 c146_29 (rw_istore_n (pc' := 30) (z := z1401) (L' := [(3, vI z1401), (0, .ref r0), (1, vI a1), (2, vI a2)]) rfl rfl rfl ?_)
          refine wp_of e146 c146_30 (rw_iload_n (pc' := 31) (z := z1401) rfl rfl ?_)
          refine wp_of e146 c146_31 (rw_if_eq (p1 := 43) (p2 := 34) (by decide) rfl ⟨Int.le_trans (by decide) b1402.1, Int.le_trans b1402.2 (by decide)⟩ (fun c1478 => ?_) (fun c1478 => ?_))
          · exfalso
            omega
          · refine wp_of e146 c146_34 (rw_aload_n (pc' := 35) (v := .ref r0) rfl rfl rfl ?_)
            refine wp_of e146 c146_35 (rw_iload_n (pc' := 36) (z := z1401) rfl rfl ?_)
            refine wp_of e146 c146_36 (xp_I (pc' := 39) lf_0_102 w1399 g0 sh_1 (by decide) (by decide) ty_1_10 rfl rfl (Int.le_trans (by decide) b1402.1) (Int.le_trans b1402.2 (by decide)) ⟨Int.le_trans (by decide) b1402.1, Int.le_trans b1402.2 (by decide)⟩ rfl (fun H1479 e1480 w1481 => ?_))
            have f1482 := f1477.put' e1480 g0 rfl
            have k1483 : H1479 r0 10 = z1401 := wq_u_s e1480
            refine wp_of e146 c146_39 (rw_sipush (pc' := 42) (z := -1000) rfl (by decide) ?_)
            have h1484 : CEN T H1479 ce e d := (CEN_fr w1399 gce ((wfr.rf (l := [(1, 10)])).put' e1480 g0 rfl) rfl a1413)
            exact wp_ireturn e146 c146_42 rfl ⟨rfl, w1481, f1482, -1000, rfl, ⟨by decide, by decide⟩, (h1484)⟩
  · show wp _ _ 146 6 [(0, .ref r0), (1, vI a1), (2, vI a2)] [vI z1287, .ref r0] _ H _
    refine wp_of e146 c146_6 (rw_if_eq (p1 := 25) (p2 := 9) (by decide) rfl ⟨Int.le_trans (by decide) b1288.1, Int.le_trans b1288.2 (by decide)⟩ (fun c1485 => ?_) (fun c1485 => ?_))
    · refine wp_of e146 c146_25 (rw_iconst (pc' := 26) rfl ?_)
      refine wp_of e146 c146_26 (xc_V (pc' := 29) (r := r0) (as := [vI 0]) (st := []) (lm_0_198) rfl rfl (Nat.le_of_ble_eq_true rfl) hW g0 sh_1 (by decide) rfl (by decide) (u_102 (e := e) (d := d) (n := n) hW g0 ⟨by decide, by decide⟩ qcu gcu qwa gwa qce gce (by assumption) (by assumption) (by omega) (by omega) (by omega) hCU_cu hCEN_ce hHDR_ce) (fun R1486 T1487 H1488 p1489 => ?_))
      obtain ⟨e1490, w1492, f1493, z1494, e1491, b1495, p1496⟩ := p1489
      subst e1490
      subst e1491
      rcases p1496 with ⟨a1497, a1498, a1499, a1500, a1501, a1502, a1503⟩ | ⟨a1504, a1505, a1506⟩
      · have f1507 := f0.tr f1493 rfl
        show wp _ _ 146 29 [(0, .ref r0), (1, vI a1), (2, vI a2)] [vI z1494] _ H1488 _
        refine wp_of e146 c146_29 (rw_istore_n (pc' := 30) (z := z1494) (L' := [(3, vI z1494), (0, .ref r0), (1, vI a1), (2, vI a2)]) rfl rfl rfl ?_)
        refine wp_of e146 c146_30 (rw_iload_n (pc' := 31) (z := z1494) rfl rfl ?_)
        refine wp_of e146 c146_31 (rw_if_eq (p1 := 43) (p2 := 34) (by decide) rfl ⟨Int.le_trans (by decide) b1495.1, Int.le_trans b1495.2 (by decide)⟩ (fun c1508 => ?_) (fun c1508 => ?_))
        · refine wp_of e146 c146_43 (rw_iload_n (pc' := 44) (z := a2) rfl rfl ?_)
          refine wp_of e146 c146_44 (rw_if_eq (p1 := 59) (p2 := 47) (by decide) rfl ⟨Int.le_trans (by decide) i2.1, Int.le_trans i2.2 (by decide)⟩ (fun c1509 => ?_) (fun c1509 => ?_))
          · refine wp_of e146 c146_59 (rw_aload_n (pc' := 60) (v := .ref r0) rfl rfl rfl ?_)
            have k1510 : H1488 r0 3 = H r0 3 := (f1493 r0 3 _ g0 rfl)
            have q1511 : H1488 r0 3 = (ce : Int) := k1510.trans qce
            refine wp_of e146 c146_60 (xg_K (pc' := 63) lf_0_30 w1492 g0 sh_1 (by decide) (by decide) rfl q1511 rfl ?_)
            refine wp_of e146 c146_63 (xg_R (pc' := 66) lf_0_268 w1492 gce sh_12 (by decide) (by decide) ty_12_4 rfl rfl (fun r1512 q1513 g1514 => ?_))
            refine wp_of e146 c146_66 (rw_iload_n (pc' := 67) (z := a1) rfl rfl ?_)
            refine wp_of e146 c146_67 (xa_I (so := 0) (pc' := 68) w1492 g1514 sh_19 (by decide) (ty_19 _) (by omega) (by omega) rfl (fun b1515 b1516 => ?_))
            refine wp_of e146 c146_68 (rw_istore (pc' := 70) (z := H1488 r1512 (a1.toNat)) (L' := [(4, vI (H1488 r1512 (a1.toNat))), (3, vI z1494), (0, .ref r0), (1, vI a1), (2, vI a2)]) rfl rfl rfl ?_)
            refine wp_of e146 c146_70 (rw_aload_n (pc' := 71) (v := .ref r0) rfl rfl rfl ?_)
            refine wp_of e146 c146_71 (rw_aload_n (pc' := 72) (v := .ref r0) rfl rfl rfl ?_)
            have k1517 : H1488 r0 6 = H r0 6 := (f1493 r0 6 _ g0 rfl)
            have q1518 : H1488 r0 6 = (cu : Int) := k1517.trans qcu
            refine wp_of e146 c146_72 (xg_K (pc' := 75) lf_0_51 w1492 g0 sh_1 (by decide) (by decide) rfl q1518 rfl ?_)
            refine wp_of e146 c146_75 (xg_R (pc' := 78) lf_0_262 w1492 gcu sh_27 (by decide) (by decide) ty_27_1 rfl rfl (fun r1519 q1520 g1521 => ?_))
            refine wp_of e146 c146_78 (rw_iload_n (pc' := 79) (z := a1) rfl rfl ?_)
            refine wp_of e146 c146_79 (xa_I (so := 0) (pc' := 80) w1492 g1521 sh_29 (by decide) (ty_29 _) (by omega) (by omega) rfl (fun b1522 b1523 => ?_))
            refine wp_of e146 c146_80 (rw_iload (pc' := 82) (z := H1488 r1512 (a1.toNat)) rfl rfl ?_)
            refine wp_of e146 c146_82 (rw_isubw (pc' := 83) rfl ?_)
            obtain ⟨v1524, e1525⟩ : ∃ x : Int, x = wq_w ((H1488 r1519 (a1.toNat)) - (H1488 r1512 (a1.toNat))) := ⟨_, rfl⟩
            rw [← e1525]
            have b1526 : -2147483648 ≤ v1524 ∧ v1524 ≤ 2147483647 := by
              rw [e1525]
              exact wI_w _
            have b1527 : (-2147483648 ≤ (H1488 r1519 (a1.toNat)) - (H1488 r1512 (a1.toNat)) ∧ (H1488 r1519 (a1.toNat)) - (H1488 r1512 (a1.toNat)) ≤ 2147483647) → v1524 = (H1488 r1519 (a1.toNat)) - (H1488 r1512 (a1.toNat)) := fun h => by rw [e1525]; exact wq_w_id h
            refine wp_of e146 c146_83 (xc_V (pc' := 86) (r := r0) (as := [vI v1524]) (st := []) (lm_0_99) rfl rfl (Nat.le_of_ble_eq_true rfl) w1492 g0 sh_1 (by decide) rfl (by decide) (s_51 w1492 g0 ⟨b1526.1, b1526.2⟩) (fun R1528 T1529 H1530 p1531 => ?_))
            obtain ⟨e1532, w1534, f1535, z1536, e1533, b1537⟩ := p1531
            subst e1532
            subst e1533
            have f1538 := f1507.tr f1535 rfl
            show wp _ _ 146 86 [(4, vI (H1488 r1512 (a1.toNat))), (3, vI z1494), (0, .ref r0), (1, vI a1), (2, vI a2)] [vI z1536] _ H1530 _
            have h1539 : CEN T H1530 ce e d := (CEN_fr w1492 gce f1535 rfl a1501)
            exact wp_ireturn e146 c146_86 rfl ⟨rfl, w1534, f1538, z1536, rfl, ⟨b1537.1, b1537.2⟩, (h1539)⟩
          · refine wp_of e146 c146_47 (rw_aload_n (pc' := 48) (v := .ref r0) rfl rfl rfl ?_)
            have k1540 : H1488 r0 3 = H r0 3 := (f1493 r0 3 _ g0 rfl)
            have q1541 : H1488 r0 3 = (ce : Int) := k1540.trans qce
            refine wp_of e146 c146_48 (xg_K (pc' := 51) lf_0_30 w1492 g0 sh_1 (by decide) (by decide) rfl q1541 rfl ?_)
            refine wp_of e146 c146_51 (xg_R (pc' := 54) lf_0_265 w1492 gce sh_12 (by decide) (by decide) ty_12_3 rfl rfl (fun r1542 q1543 g1544 => ?_))
            refine wp_of e146 c146_54 (rw_iload_n (pc' := 55) (z := a1) rfl rfl ?_)
            refine wp_of e146 c146_55 (xa_I (so := 0) (pc' := 56) w1492 g1544 sh_18 (by decide) (ty_18 _) (by omega) (by omega) rfl (fun b1545 b1546 => ?_))
            refine wp_of e146 c146_56 (rw_goto (p1 := 68) (by decide) ?_)
            refine wp_of e146 c146_68 (rw_istore (pc' := 70) (z := H1488 r1542 (a1.toNat)) (L' := [(4, vI (H1488 r1542 (a1.toNat))), (3, vI z1494), (0, .ref r0), (1, vI a1), (2, vI a2)]) rfl rfl rfl ?_)
            refine wp_of e146 c146_70 (rw_aload_n (pc' := 71) (v := .ref r0) rfl rfl rfl ?_)
            refine wp_of e146 c146_71 (rw_aload_n (pc' := 72) (v := .ref r0) rfl rfl rfl ?_)
            have k1547 : H1488 r0 6 = H r0 6 := (f1493 r0 6 _ g0 rfl)
            have q1548 : H1488 r0 6 = (cu : Int) := k1547.trans qcu
            refine wp_of e146 c146_72 (xg_K (pc' := 75) lf_0_51 w1492 g0 sh_1 (by decide) (by decide) rfl q1548 rfl ?_)
            refine wp_of e146 c146_75 (xg_R (pc' := 78) lf_0_262 w1492 gcu sh_27 (by decide) (by decide) ty_27_1 rfl rfl (fun r1549 q1550 g1551 => ?_))
            refine wp_of e146 c146_78 (rw_iload_n (pc' := 79) (z := a1) rfl rfl ?_)
            refine wp_of e146 c146_79 (xa_I (so := 0) (pc' := 80) w1492 g1551 sh_29 (by decide) (ty_29 _) (by omega) (by omega) rfl (fun b1552 b1553 => ?_))
            refine wp_of e146 c146_80 (rw_iload (pc' := 82) (z := H1488 r1542 (a1.toNat)) rfl rfl ?_)
            refine wp_of e146 c146_82 (rw_isubw (pc' := 83) rfl ?_)
            obtain ⟨v1554, e1555⟩ : ∃ x : Int, x = wq_w ((H1488 r1549 (a1.toNat)) - (H1488 r1542 (a1.toNat))) := ⟨_, rfl⟩
            rw [← e1555]
            have b1556 : -2147483648 ≤ v1554 ∧ v1554 ≤ 2147483647 := by
              rw [e1555]
              exact wI_w _
            have b1557 : (-2147483648 ≤ (H1488 r1549 (a1.toNat)) - (H1488 r1542 (a1.toNat)) ∧ (H1488 r1549 (a1.toNat)) - (H1488 r1542 (a1.toNat)) ≤ 2147483647) → v1554 = (H1488 r1549 (a1.toNat)) - (H1488 r1542 (a1.toNat)) := fun h => by rw [e1555]; exact wq_w_id h
            refine wp_of e146 c146_83 (xc_V (pc' := 86) (r := r0) (as := [vI v1554]) (st := []) (lm_0_99) rfl rfl (Nat.le_of_ble_eq_true rfl) w1492 g0 sh_1 (by decide) rfl (by decide) (s_51 w1492 g0 ⟨b1556.1, b1556.2⟩) (fun R1558 T1559 H1560 p1561 => ?_))
            obtain ⟨e1562, w1564, f1565, z1566, e1563, b1567⟩ := p1561
            subst e1562
            subst e1563
            have f1568 := f1507.tr f1565 rfl
            show wp _ _ 146 86 [(4, vI (H1488 r1542 (a1.toNat))), (3, vI z1494), (0, .ref r0), (1, vI a1), (2, vI a2)] [vI z1566] _ H1560 _
            have h1569 : CEN T H1560 ce e d := (CEN_fr w1492 gce f1565 rfl a1501)
            exact wp_ireturn e146 c146_86 rfl ⟨rfl, w1564, f1568, z1566, rfl, ⟨b1567.1, b1567.2⟩, (h1569)⟩
        · exfalso
          omega
      · have f1570 := f0.tr f1493 rfl
        show wp _ _ 146 29 [(0, .ref r0), (1, vI a1), (2, vI a2)] [vI z1494] _ H1488 _
        refine wp_of e146 c146_29 (rw_istore_n (pc' := 30) (z := z1494) (L' := [(3, vI z1494), (0, .ref r0), (1, vI a1), (2, vI a2)]) rfl rfl rfl ?_)
        refine wp_of e146 c146_30 (rw_iload_n (pc' := 31) (z := z1494) rfl rfl ?_)
        refine wp_of e146 c146_31 (rw_if_eq (p1 := 43) (p2 := 34) (by decide) rfl ⟨Int.le_trans (by decide) b1495.1, Int.le_trans b1495.2 (by decide)⟩ (fun c1571 => ?_) (fun c1571 => ?_))
        · exfalso
          omega
        · refine wp_of e146 c146_34 (rw_aload_n (pc' := 35) (v := .ref r0) rfl rfl rfl ?_)
          refine wp_of e146 c146_35 (rw_iload_n (pc' := 36) (z := z1494) rfl rfl ?_)
          refine wp_of e146 c146_36 (xp_I (pc' := 39) lf_0_102 w1492 g0 sh_1 (by decide) (by decide) ty_1_10 rfl rfl (Int.le_trans (by decide) b1495.1) (Int.le_trans b1495.2 (by decide)) ⟨Int.le_trans (by decide) b1495.1, Int.le_trans b1495.2 (by decide)⟩ rfl (fun H1572 e1573 w1574 => ?_))
          have f1575 := f1570.put' e1573 g0 rfl
          have k1576 : H1572 r0 10 = z1494 := wq_u_s e1573
          refine wp_of e146 c146_39 (rw_sipush (pc' := 42) (z := -1000) rfl (by decide) ?_)
          have h1577 : CEN T H1572 ce e d := (CEN_fr w1492 gce ((wfr.rf (l := [(1, 10)])).put' e1573 g0 rfl) rfl a1506)
          exact wp_ireturn e146 c146_42 rfl ⟨rfl, w1574, f1575, -1000, rfl, ⟨by decide, by decide⟩, (h1577)⟩
    · exfalso
      omega
/-! StrikeAwake.nothing()I  -/
abbrev uq_147 (r0 : Nat) (cu : Nat) (wa : Nat) (ce : Nat) (e : xD) (d : xD) (n : Int) (T : wq_T) (H : wq_H) : Option Value → wq_T → wq_H → Prop := fun r T' H' => T = T' ∧ WT T H' ∧ wfr [(1, 10), (6, 5), (8, 999), (10, 999), (9, 999), (7, 999), (11, 999)] T H H' ∧ ∃ z : Int, some (vI z) = r ∧ ((-2147483648) ≤ z ∧ z ≤ 2147483647) ∧ ((CEN T H' ce e d))
set_option maxHeartbeats 4000000 in
theorem u_147 {kt : Nat → Option mc_E} {T : wq_T} {H : wq_H} {r0 : Nat} {cu : Nat} {wa : Nat} {ce : Nat} {e : xD} {d : xD} {n : Int} (hW : WT T H) (g0 : T.2.2.2 r0 = some 1) (qcu : H r0 6 = (cu : Int)) (gcu : T.2.2.2 cu = some 27) (qwa : H r0 2 = (wa : Int)) (gwa : T.2.2.2 wa = some 6) (qce : H r0 3 = (ce : Int)) (gce : T.2.2.2 ce = some 12) (p0 : ∀ i, i ≠ 13 → e i = d i) (p1 : XW d) (p2 : e 0 3 = d 0 3) (p3 : e 0 0 = d 0 0) (p4 : H r0 8 = 0 ∨ n = xlots d) (p5 : H r0 8 ≠ 0 ∨ (d 0 3 = 0 ∧ d 0 0 = 0)) (hCU_cu : CU T H cu e d n) (hCEN_ce : CEN T H ce e d) (hHDR_ce : HDR T H ce ) : wpc kt 4 147 [.ref r0] T H (uq_147 r0 cu wa ce e d n T H) := by
  refine wp_enter e147 (Nat.le_of_ble_eq_true rfl) rfl ?_
  have f0 : wfr [(1, 10), (6, 5), (8, 999), (10, 999), (9, 999), (7, 999), (11, 999)] T H H := wfr.rf
  show wp _ _ 147 0 [(0, .ref r0)] [] _ H _
  have u1504 := CU_k hCU_cu
  have b1505 : 0 ≤ H r0 8 ∧ H r0 8 ≤ 1 := hW.box g0 (n := 13) rfl (by decide) rfl
  have _c7 : d 0 0 ≤ 24 := p1.2.1.2.1
  refine wp_of e147 c147_0 (rw_aload_n (pc' := 1) (v := .ref r0) rfl rfl rfl ?_)
  refine wp_of e147 c147_1 (rw_aload_n (pc' := 2) (v := .ref r0) rfl rfl rfl ?_)
  refine wp_of e147 c147_2 (xg_I (pc' := 5) lf_0_58 hW g0 sh_1 (by decide) (by decide) ty_1_8 rfl rfl (fun b1506 b1507 => ?_))
  refine wp_of e147 c147_5 (xc_V (pc' := 8) (r := r0) (as := [vI (H r0 8)]) (st := []) (lm_0_245) rfl rfl (Nat.le_of_ble_eq_true rfl) hW g0 sh_1 (by decide) rfl (by decide) (u_84 (e := e) (d := d) (n := n) hW g0 ⟨b1506, b1507⟩ qcu gcu hCU_cu) (fun R1508 T1509 H1510 p1511 => ?_))
  obtain ⟨e1512, e1514, z1515, e1513, b1516, p1517⟩ := p1511
  subst e1512
  subst e1513
  subst e1514
  rcases p1517 with ⟨a1518, a1519, a1520⟩ | ⟨a1521, a1522⟩
  · show wp _ _ 147 8 [(0, .ref r0)] [vI z1515] _ H _
    refine wp_of e147 c147_8 (rw_istore_n (pc' := 9) (z := z1515) (L' := [(1, vI z1515), (0, .ref r0)]) rfl rfl rfl ?_)
    refine wp_of e147 c147_9 (rw_iload_n (pc' := 10) (z := z1515) rfl rfl ?_)
    refine wp_of e147 c147_10 (rw_if_eq (p1 := 19) (p2 := 13) (by decide) rfl ⟨Int.le_trans (by decide) b1516.1, Int.le_trans b1516.2 (by decide)⟩ (fun c1523 => ?_) (fun c1523 => ?_))
    · refine wp_of e147 c147_19 (rw_iconst (pc' := 20) rfl ?_)
      refine wp_of e147 c147_20 (rw_istore_n (pc' := 21) (z := 0) (L' := [(2, vI 0), (1, vI z1515), (0, .ref r0)]) rfl rfl rfl ?_)
      refine wp_of e147 c147_21 (rw_aload_n (pc' := 22) (v := .ref r0) rfl rfl rfl ?_)
      refine wp_of e147 c147_22 (xg_K (pc' := 25) lf_0_23 hW g0 sh_1 (by decide) (by decide) rfl qwa rfl ?_)
      refine wp_of e147 c147_25 (rw_aload_n (pc' := 26) (v := .ref r0) rfl rfl rfl ?_)
      refine wp_of e147 c147_26 (xg_K (pc' := 29) lf_0_51 hW g0 sh_1 (by decide) (by decide) rfl qcu rfl ?_)
      refine wp_of e147 c147_29 (xc_V (pc' := 32) (r := wa) (as := [.ref cu]) (st := []) (lm_0_271) rfl rfl (Nat.le_of_ble_eq_true rfl) hW gwa sh_6 (by decide) rfl (by decide) (s_87 hW gwa gcu) (fun R1524 T1525 H1526 p1527 => ?_))
      obtain ⟨e1528, w1530, f1531, e1529⟩ := p1527
      subst e1528
      subst e1529
      have f1532 := f0.tr f1531 rfl
      show wp _ _ 147 32 [(2, vI 0), (1, vI z1515), (0, .ref r0)] [] _ H1526 _
      refine wp_of e147 c147_32 (rw_iconst (pc' := 33) rfl ?_)
      refine wp_of e147 c147_33 (rw_istore_n (pc' := 34) (z := 0) (L' := [(3, vI 0), (2, vI 0), (1, vI z1515), (0, .ref r0)]) rfl rfl rfl ?_)
      have lp1925 : ∀ (n1926 : Nat) (v1928 : Int) (v1929 : Int) (H1930 : wq_H), WT T H1930 → wfr [(8, 999), (10, 999), (9, 999), (7, 999), (11, 999)] T H1526 H1930 → (0 ≤ v1928 ∧ v1928 ≤ 20000) → ((-2147483648) ≤ v1929 ∧ v1929 ≤ 2147483647) → (20000 - v1928).toNat = n1926 → wp kt 3 147 34 [(3, vI v1928), (2, vI v1929), (0, .ref r0)] [] T H1930 (uq_147 r0 cu wa ce e d n T H) := by
        intro n1926
        induction n1926 using Nat.strongRecOn with
        | _ n1926 ih1927 =>
          intro v1928 v1929 H1930 w1931 f1932 b1933 b1934 m1935
          have f1936 := f1532.tr f1932 rfl
          refine wp_of e147 c147_34 (rw_iload_n (pc' := 35) (z := v1928) rfl rfl ?_)
          refine wp_of e147 c147_35 (rw_i2l (pc' := 36) rfl ⟨Int.le_trans (by decide) b1933.1, Int.le_trans b1933.2 (by decide)⟩ ?_)
          refine wp_of e147 c147_36 (rw_aload_n (pc' := 37) (v := .ref r0) rfl rfl rfl ?_)
          have k1937 : H1930 r0 6 = H r0 6 := ((f1932 r0 6 _ g0 rfl).trans (f1531 r0 6 _ g0 rfl))
          have q1938 : H1930 r0 6 = (cu : Int) := k1937.trans qcu
          refine wp_of e147 c147_37 (xg_K (pc' := 40) lf_0_51 w1931 g0 sh_1 (by decide) (by decide) rfl q1938 rfl ?_)
          have k1939 : H1930 cu 18 = H cu 18 := ((f1932 cu 18 _ gcu rfl).trans (f1531 cu 18 _ gcu rfl))
          refine wp_of e147 c147_40 (xg_L (pc' := 43) lf_0_141 w1931 gcu sh_27 (by decide) (by decide) ty_27_18 rfl rfl (fun b1940 b1941 => ?_))
          refine wp_of e147 c147_43 (rw_lcmp (pc' := 44) rfl ⟨Int.le_trans (by decide) b1933.1, Int.le_trans b1933.2 (by decide)⟩ ⟨b1940, b1941⟩ ?_)
          have b1942 := wq_cmp_b v1928 (H1930 cu 18)
          refine wp_of e147 c147_44 (rw_if_ge (p1 := 95) (p2 := 47) (by decide) rfl ⟨by omega, by omega⟩ (fun c1943 => ?_) (fun c1943 => ?_))
          · refine wp_of e147 c147_95 (rw_aload_n (pc' := 96) (v := .ref r0) rfl rfl rfl ?_)
            refine wp_of e147 c147_96 (rw_iload_n (pc' := 97) (z := v1929) rfl rfl ?_)
            refine wp_of e147 c147_97 (xc_V (pc' := 100) (r := r0) (as := [vI v1929]) (st := []) (lm_0_99) rfl rfl (Nat.le_of_ble_eq_true rfl) w1931 g0 sh_1 (by decide) rfl (by decide) (s_51 w1931 g0 ⟨b1934.1, b1934.2⟩) (fun R1944 T1945 H1946 p1947 => ?_))
            obtain ⟨e1948, w1950, f1951, z1952, e1949, b1953⟩ := p1947
            subst e1948
            subst e1949
            have f1954 := f1936.tr f1951 rfl
            show wp _ _ 147 100 [(3, vI v1928), (2, vI v1929), (0, .ref r0)] [vI z1952] _ H1946 _
            have h1955 : CEN T H1946 ce e d := (CEN_fr w1931 gce f1951 rfl (CEN_fr w1530 gce f1932 rfl (CEN_fr hW gce f1531 rfl hCEN_ce)))
            exact wp_ireturn e147 c147_100 rfl ⟨rfl, w1950, f1954, z1952, rfl, ⟨b1953.1, b1953.2⟩, (h1955)⟩
          · refine wp_of e147 c147_47 (rw_iload_n (pc' := 48) (z := v1928) rfl rfl ?_)
            refine wp_of e147 c147_48 (rw_sipush (pc' := 51) (z := 20000) rfl (by decide) ?_)
            refine wp_of e147 c147_51 (rw_icmp_ge (p1 := 95) (p2 := 54) (by decide) rfl ⟨Int.le_trans (by decide) b1933.1, Int.le_trans b1933.2 (by decide)⟩ ⟨by decide, by decide⟩ (fun c1956 => ?_) (fun c1956 => ?_))
            · refine wp_of e147 c147_95 (rw_aload_n (pc' := 96) (v := .ref r0) rfl rfl rfl ?_)
              refine wp_of e147 c147_96 (rw_iload_n (pc' := 97) (z := v1929) rfl rfl ?_)
              refine wp_of e147 c147_97 (xc_V (pc' := 100) (r := r0) (as := [vI v1929]) (st := []) (lm_0_99) rfl rfl (Nat.le_of_ble_eq_true rfl) w1931 g0 sh_1 (by decide) rfl (by decide) (s_51 w1931 g0 ⟨b1934.1, b1934.2⟩) (fun R1957 T1958 H1959 p1960 => ?_))
              obtain ⟨e1961, w1963, f1964, z1965, e1962, b1966⟩ := p1960
              subst e1961
              subst e1962
              have f1967 := f1936.tr f1964 rfl
              show wp _ _ 147 100 [(3, vI v1928), (2, vI v1929), (0, .ref r0)] [vI z1965] _ H1959 _
              have h1968 : CEN T H1959 ce e d := (CEN_fr w1931 gce f1964 rfl (CEN_fr w1530 gce f1932 rfl (CEN_fr hW gce f1531 rfl hCEN_ce)))
              exact wp_ireturn e147 c147_100 rfl ⟨rfl, w1963, f1967, z1965, rfl, ⟨b1966.1, b1966.2⟩, (h1968)⟩
            · refine wp_of e147 c147_54 (rw_aload_n (pc' := 55) (v := .ref r0) rfl rfl rfl ?_)
              have k1969 : H1930 r0 2 = H r0 2 := ((f1932 r0 2 _ g0 rfl).trans (f1531 r0 2 _ g0 rfl))
              have q1970 : H1930 r0 2 = (wa : Int) := k1969.trans qwa
              refine wp_of e147 c147_55 (xg_K (pc' := 58) lf_0_23 w1931 g0 sh_1 (by decide) (by decide) rfl q1970 rfl ?_)
              refine wp_of e147 c147_58 (xc_V (pc' := 61) (r := wa) (as := []) (st := []) (lm_0_275) rfl rfl (Nat.le_of_ble_eq_true rfl) w1931 gwa sh_6 (by decide) rfl (by decide) (s_80 w1931 gwa) (fun R1971 T1972 H1973 p1974 => ?_))
              obtain ⟨e1975, e1977, z1978, e1976, b1979⟩ := p1974
              subst e1975
              subst e1976
              subst e1977
              show wp _ _ 147 61 [(3, vI v1928), (2, vI v1929), (0, .ref r0)] [vI z1978] _ H1930 _
              refine wp_of e147 c147_61 (rw_if_ne (p1 := 78) (p2 := 64) (by decide) rfl ⟨Int.le_trans (by decide) b1979.1, Int.le_trans b1979.2 (by decide)⟩ (fun c1980 => ?_) (fun c1980 => ?_))
              · refine wp_of e147 c147_78 (rw_aload_n (pc' := 79) (v := .ref r0) rfl rfl rfl ?_)
                refine wp_of e147 c147_79 (xg_K (pc' := 82) lf_0_23 w1931 g0 sh_1 (by decide) (by decide) rfl q1970 rfl ?_)
                refine wp_of e147 c147_82 (rw_aload_n (pc' := 83) (v := .ref r0) rfl rfl rfl ?_)
                refine wp_of e147 c147_83 (xg_K (pc' := 86) lf_0_51 w1931 g0 sh_1 (by decide) (by decide) rfl q1938 rfl ?_)
                refine wp_of e147 c147_86 (xc_V (pc' := 89) (r := wa) (as := [.ref cu]) (st := []) (lm_0_281) rfl rfl (Nat.le_of_ble_eq_true rfl) w1931 gwa sh_6 (by decide) rfl (by decide) (s_91 w1931 gwa gcu) (fun R1981 T1982 H1983 p1984 => ?_))
                obtain ⟨e1985, w1987, f1988, e1986⟩ := p1984
                subst e1985
                subst e1986
                have f1989 := f1936.tr f1988 rfl
                have f1990 := f1932.tr f1988 rfl
                show wp _ _ 147 89 [(3, vI v1928), (2, vI v1929), (0, .ref r0)] [] _ H1983 _
                refine wp_of e147 c147_89 (rw_iinc (pc' := 92) (z := v1928) (L' := [(3, vI (v1928 + 1)), (2, vI v1929), (0, .ref r0)]) rfl rfl rfl rfl ?_)
                refine wp_of e147 c147_92 (rw_goto (p1 := 34) (by decide) ?_)
                exact wp_lc (ks := [3, 2, 0]) (wl_c rfl (wl_c rfl (wl_c rfl wl_n))) rfl (by decide) (ih1927 _ (by omega) (v1928 + 1) v1929 H1983 w1987 f1990 ⟨by omega, by omega⟩ ⟨b1934.1, b1934.2⟩ rfl)
              · refine wp_of e147 c147_64 (rw_iload_n (pc' := 65) (z := v1929) rfl rfl ?_)
                refine wp_of e147 c147_65 (rw_aload_n (pc' := 66) (v := .ref r0) rfl rfl rfl ?_)
                refine wp_of e147 c147_66 (xg_K (pc' := 69) lf_0_23 w1931 g0 sh_1 (by decide) (by decide) rfl q1970 rfl ?_)
                refine wp_of e147 c147_69 (rw_aload_n (pc' := 70) (v := .ref r0) rfl rfl rfl ?_)
                refine wp_of e147 c147_70 (xg_K (pc' := 73) lf_0_51 w1931 g0 sh_1 (by decide) (by decide) rfl q1938 rfl ?_)
                refine wp_of e147 c147_73 (xc_V (pc' := 76) (r := wa) (as := [.ref cu]) (st := [vI v1929]) (lm_0_278) rfl rfl (Nat.le_of_ble_eq_true rfl) w1931 gwa sh_6 (by decide) rfl (by decide) (s_148 w1931 gwa gcu) (fun R1991 T1992 H1993 p1994 => ?_))
                obtain ⟨e1995, e1997, z1998, e1996, b1999⟩ := p1994
                subst e1995
                subst e1996
                subst e1997
                show wp _ _ 147 76 [(3, vI v1928), (2, vI v1929), (0, .ref r0)] [vI z1998, vI v1929] _ H1930 _
                refine wp_of e147 c147_76 (rw_ior (pc' := 77) rfl ?_)
                obtain ⟨v2000, e2001⟩ : ∃ x : Int, x = wq_or v1929 z1998 := ⟨_, rfl⟩
                rw [← e2001]
                have b2002 : -2147483648 ≤ v2000 ∧ v2000 ≤ 2147483647 := by
                  rw [e2001]
                  exact wI_or _ _
                refine wp_of e147 c147_77 (rw_istore_n (pc' := 78) (z := v2000) (L' := [(2, vI v2000), (3, vI v1928), (0, .ref r0)]) rfl rfl rfl ?_)
                refine wp_of e147 c147_78 (rw_aload_n (pc' := 79) (v := .ref r0) rfl rfl rfl ?_)
                refine wp_of e147 c147_79 (xg_K (pc' := 82) lf_0_23 w1931 g0 sh_1 (by decide) (by decide) rfl q1970 rfl ?_)
                refine wp_of e147 c147_82 (rw_aload_n (pc' := 83) (v := .ref r0) rfl rfl rfl ?_)
                refine wp_of e147 c147_83 (xg_K (pc' := 86) lf_0_51 w1931 g0 sh_1 (by decide) (by decide) rfl q1938 rfl ?_)
                refine wp_of e147 c147_86 (xc_V (pc' := 89) (r := wa) (as := [.ref cu]) (st := []) (lm_0_281) rfl rfl (Nat.le_of_ble_eq_true rfl) w1931 gwa sh_6 (by decide) rfl (by decide) (s_91 w1931 gwa gcu) (fun R2003 T2004 H2005 p2006 => ?_))
                obtain ⟨e2007, w2009, f2010, e2008⟩ := p2006
                subst e2007
                subst e2008
                have f2011 := f1936.tr f2010 rfl
                have f2012 := f1932.tr f2010 rfl
                show wp _ _ 147 89 [(2, vI v2000), (3, vI v1928), (0, .ref r0)] [] _ H2005 _
                refine wp_of e147 c147_89 (rw_iinc (pc' := 92) (z := v1928) (L' := [(3, vI (v1928 + 1)), (2, vI v2000), (0, .ref r0)]) rfl rfl rfl rfl ?_)
                refine wp_of e147 c147_92 (rw_goto (p1 := 34) (by decide) ?_)
                exact wp_lc (ks := [3, 2, 0]) (wl_c rfl (wl_c rfl (wl_c rfl wl_n))) rfl (by decide) (ih1927 _ (by omega) (v1928 + 1) v2000 H2005 w2009 f2012 ⟨by omega, by omega⟩ ⟨b2002.1, b2002.2⟩ rfl)
      exact wp_lc (ks := [3, 2, 1, 0]) (wl_c rfl (wl_c rfl (wl_c rfl wl_n))) rfl (by decide) (lp1925 _ 0 0 H1526 w1530 wfr.rf ⟨by decide, by decide⟩ ⟨by decide, by decide⟩ rfl)
    · exfalso
      omega
  · show wp _ _ 147 8 [(0, .ref r0)] [vI z1515] _ H _
    refine wp_of e147 c147_8 (rw_istore_n (pc' := 9) (z := z1515) (L' := [(1, vI z1515), (0, .ref r0)]) rfl rfl rfl ?_)
    refine wp_of e147 c147_9 (rw_iload_n (pc' := 10) (z := z1515) rfl rfl ?_)
    refine wp_of e147 c147_10 (rw_if_eq (p1 := 19) (p2 := 13) (by decide) rfl ⟨Int.le_trans (by decide) b1516.1, Int.le_trans b1516.2 (by decide)⟩ (fun c2013 => ?_) (fun c2013 => ?_))
    · exfalso
      omega
    · refine wp_of e147 c147_13 (rw_aload_n (pc' := 14) (v := .ref r0) rfl rfl rfl ?_)
      refine wp_of e147 c147_14 (rw_iload_n (pc' := 15) (z := z1515) rfl rfl ?_)
      refine wp_of e147 c147_15 (xc_V (pc' := 18) (r := r0) (as := [vI z1515]) (st := []) (lm_0_70) rfl rfl (Nat.le_of_ble_eq_true rfl) hW g0 sh_1 (by decide) rfl (by decide) (s_12 hW g0 ⟨Int.le_trans (by decide) b1516.1, Int.le_trans b1516.2 (by decide)⟩) (fun R2014 T2015 H2016 p2017 => ?_))
      obtain ⟨e2018, w2020, f2021, z2022, e2019, b2023⟩ := p2017
      subst e2018
      subst e2019
      have f2024 := f0.tr f2021 rfl
      show wp _ _ 147 18 [(1, vI z1515), (0, .ref r0)] [vI z2022] _ H2016 _
      have h2025 : CEN T H2016 ce e d := (CEN_fr hW gce f2021 rfl hCEN_ce)
      exact wp_ireturn e147 c147_18 rfl ⟨rfl, w2020, f2024, z2022, rfl, ⟨b2023.1, b2023.2⟩, (h2025)⟩
