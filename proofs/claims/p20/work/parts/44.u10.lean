/-! what methods do (own work, written by wip/gen3/sx3.py) -/
/-! StrikeAwake.times(II)I  -/
abbrev uq_99 (r0 : Nat) (a1 : Int) (a2 : Int) (cu : Nat) (wa : Nat) (ce : Nat) (e : xD) (d : xD) (n : Int) (T : wq_T) (H : wq_H) : Option Value → wq_T → wq_H → Prop := fun r T' H' => T = T' ∧ WT T H' ∧ wfr [(12, 5), (12, 6), (12, 7), (12, 8), (12, 9), (1, 10), (6, 5), (8, 999), (10, 999), (15, 999), (9, 999), (18, 999), (19, 999), (7, 999), (11, 999), (17, 999), (13, 999)] T H H' ∧ ∃ z : Int, some (vI z) = r ∧ ((-2147483648) ≤ z ∧ z ≤ 2147483647) ∧ ((CEN T H' ce e d))
set_option maxHeartbeats 4000000 in
theorem u_99 {kt : Nat → Option mc_E} {T : wq_T} {H : wq_H} {r0 : Nat} {a1 : Int} {a2 : Int} {cu : Nat} {wa : Nat} {ce : Nat} {e : xD} {d : xD} {n : Int} (hW : WT T H) (g0 : T.2.2.2 r0 = some 1) (i1 : (-2147483648) ≤ a1 ∧ a1 ≤ 2147483647) (i2 : (-2147483648) ≤ a2 ∧ a2 ≤ 2147483647) (qcu : H r0 6 = (cu : Int)) (gcu : T.2.2.2 cu = some 27) (qwa : H r0 2 = (wa : Int)) (gwa : T.2.2.2 wa = some 6) (qce : H r0 3 = (ce : Int)) (gce : T.2.2.2 ce = some 12) (p0 : ∀ i, i ≠ 13 → e i = d i) (p1 : XW d) (p2 : e 0 3 = d 0 3) (p3 : e 0 0 = d 0 0) (p4 : H r0 8 = 0 ∨ n = xlots d) (p5 : H r0 8 ≠ 0 ∨ (d 0 3 = 0 ∧ d 0 0 = 0)) (hCU_cu : CU T H cu e d n) (hCEN_ce : CEN T H ce e d) (hHDR_ce : HDR T H ce ) : wpc kt 6 99 [.ref r0, vI a1, vI a2] T H (uq_99 r0 a1 a2 cu wa ce e d n T H) := by
  refine wp_enter e99 (Nat.le_of_ble_eq_true rfl) rfl ?_
  have f0 : wfr [(12, 5), (12, 6), (12, 7), (12, 8), (12, 9), (1, 10), (6, 5), (8, 999), (10, 999), (15, 999), (9, 999), (18, 999), (19, 999), (7, 999), (11, 999), (17, 999), (13, 999)] T H H := wfr.rf
  show wp _ _ 99 0 [(0, .ref r0), (1, vI a1), (2, vI a2)] [] _ H _
  have u1210 := CU_k hCU_cu
  have b1211 : 0 ≤ H r0 8 ∧ H r0 8 ≤ 1 := hW.box g0 (n := 13) rfl (by decide) rfl
  have _c7 : d 0 0 ≤ 24 := p1.2.1.2.1
  refine wp_of e99 c99_0 (rw_aload_n (pc' := 1) (v := .ref r0) rfl rfl rfl ?_)
  refine wp_of e99 c99_1 (rw_aload_n (pc' := 2) (v := .ref r0) rfl rfl rfl ?_)
  refine wp_of e99 c99_2 (rw_iload_n (pc' := 3) (z := a1) rfl rfl ?_)
  refine wp_of e99 c99_3 (xc_V (pc' := 6) (r := r0) (as := [vI a1]) (st := [.ref r0]) (lm_0_105) rfl rfl (Nat.le_of_ble_eq_true rfl) hW g0 sh_1 (by decide) rfl (by decide) (u_55  hW g0 ⟨i1.1, i1.2⟩ qcu gcu) (fun R1212 T1213 H1214 p1215 => ?_))
  obtain ⟨e1216, e1218, z1219, e1217, b1220, p1221⟩ := p1215
  subst e1216
  subst e1217
  subst e1218
  rcases p1221 with ⟨a1222, a1223⟩ | ⟨a1224, a1225⟩
  · show wp _ _ 99 6 [(0, .ref r0), (1, vI a1), (2, vI a2)] [vI z1219, .ref r0] _ H _
    refine wp_of e99 c99_6 (rw_if_eq (p1 := 21) (p2 := 9) (by decide) rfl ⟨Int.le_trans (by decide) b1220.1, Int.le_trans b1220.2 (by decide)⟩ (fun c1226 => ?_) (fun c1226 => ?_))
    · exfalso
      omega
    · refine wp_of e99 c99_9 (rw_aload_n (pc' := 10) (v := .ref r0) rfl rfl rfl ?_)
      refine wp_of e99 c99_10 (rw_iload_n (pc' := 11) (z := a2) rfl rfl ?_)
      refine wp_of e99 c99_11 (xc_V (pc' := 14) (r := r0) (as := [vI a2]) (st := [.ref r0]) (lm_0_132) rfl rfl (Nat.le_of_ble_eq_true rfl) hW g0 sh_1 (by decide) rfl (by decide) (u_60  hW g0 ⟨i2.1, i2.2⟩ qcu gcu) (fun R1227 T1228 H1229 p1230 => ?_))
      obtain ⟨e1231, e1233, z1234, e1232, b1235, p1236⟩ := p1230
      subst e1231
      subst e1232
      subst e1233
      rcases p1236 with ⟨a1237, a1238⟩ | ⟨a1239, a1240⟩
      · show wp _ _ 99 14 [(0, .ref r0), (1, vI a1), (2, vI a2)] [vI z1234, .ref r0] _ H _
        refine wp_of e99 c99_14 (rw_if_eq (p1 := 21) (p2 := 17) (by decide) rfl ⟨Int.le_trans (by decide) b1235.1, Int.le_trans b1235.2 (by decide)⟩ (fun c1241 => ?_) (fun c1241 => ?_))
        · exfalso
          omega
        · refine wp_of e99 c99_17 (rw_iconst (pc' := 18) rfl ?_)
          refine wp_of e99 c99_18 (rw_goto (p1 := 22) (by decide) ?_)
          refine wp_of e99 c99_22 (xc_V (pc' := 25) (r := r0) (as := [vI 1]) (st := []) (lm_0_174) rfl rfl (Nat.le_of_ble_eq_true rfl) hW g0 sh_1 (by decide) rfl (by decide) (u_83 (e := e) (d := d) (n := n) hW g0 ⟨by decide, by decide⟩ qcu gcu qwa gwa qce gce (by assumption) (by assumption) (by omega) (by omega) (by omega) hCU_cu hCEN_ce hHDR_ce) (fun R1242 T1243 H1244 p1245 => ?_))
          obtain ⟨e1246, w1248, f1249, z1250, e1247, b1251, p1252⟩ := p1245
          subst e1246
          subst e1247
          rcases p1252 with ⟨a1253, a1254, a1255, a1256, a1257, a1258⟩ | ⟨a1259, a1260, a1261⟩
          · have f1262 := f0.tr f1249 rfl
            show wp _ _ 99 25 [(0, .ref r0), (1, vI a1), (2, vI a2)] [vI z1250] _ H1244 _
            refine wp_of e99 c99_25 (rw_istore_n (pc' := 26) (z := z1250) (L' := [(3, vI z1250), (0, .ref r0), (1, vI a1), (2, vI a2)]) rfl rfl rfl ?_)
            refine wp_of e99 c99_26 (rw_iload_n (pc' := 27) (z := z1250) rfl rfl ?_)
            refine wp_of e99 c99_27 (rw_if_eq (p1 := 36) (p2 := 30) (by decide) rfl ⟨Int.le_trans (by decide) b1251.1, Int.le_trans b1251.2 (by decide)⟩ (fun c1263 => ?_) (fun c1263 => ?_))
            · refine wp_of e99 c99_36 (rw_aload_n (pc' := 37) (v := .ref r0) rfl rfl rfl ?_)
              refine wp_of e99 c99_37 (rw_aload_n (pc' := 38) (v := .ref r0) rfl rfl rfl ?_)
              have k1264 : H1244 r0 3 = H r0 3 := (f1249 r0 3 _ g0 rfl)
              have q1265 : H1244 r0 3 = (ce : Int) := k1264.trans qce
              refine wp_of e99 c99_38 (xg_K (pc' := 41) lf_0_30 w1248 g0 sh_1 (by decide) (by decide) rfl q1265 rfl ?_)
              refine wp_of e99 c99_41 (rw_aload_n (pc' := 42) (v := .ref r0) rfl rfl rfl ?_)
              have k1266 : H1244 r0 6 = H r0 6 := (f1249 r0 6 _ g0 rfl)
              have q1267 : H1244 r0 6 = (cu : Int) := k1266.trans qcu
              refine wp_of e99 c99_42 (xg_K (pc' := 45) lf_0_51 w1248 g0 sh_1 (by decide) (by decide) rfl q1267 rfl ?_)
              refine wp_of e99 c99_45 (rw_iload_n (pc' := 46) (z := a1) rfl rfl ?_)
              refine wp_of e99 c99_46 (rw_iload_n (pc' := 47) (z := a2) rfl rfl ?_)
              refine wp_of e99 c99_47 (xc_V (pc' := 50) (r := ce) (as := [.ref cu, vI a1, vI a2]) (st := [.ref r0]) (lm_0_194) rfl rfl (Nat.le_of_ble_eq_true rfl) w1248 gce sh_12 (by decide) rfl (by decide) (s_100 w1248 gce gcu ⟨by omega, by omega⟩ ⟨i2.1, i2.2⟩) (fun R1268 T1269 H1270 p1271 => ?_))
              obtain ⟨e1272, e1274, z1275, e1273, b1276⟩ := p1271
              subst e1272
              subst e1273
              subst e1274
              show wp _ _ 99 50 [(3, vI z1250), (0, .ref r0), (1, vI a1), (2, vI a2)] [vI z1275, .ref r0] _ H1244 _
              refine wp_of e99 c99_50 (xc_V (pc' := 53) (r := r0) (as := [vI z1275]) (st := []) (lm_0_99) rfl rfl (Nat.le_of_ble_eq_true rfl) w1248 g0 sh_1 (by decide) rfl (by decide) (s_51 w1248 g0 ⟨b1276.1, b1276.2⟩) (fun R1277 T1278 H1279 p1280 => ?_))
              obtain ⟨e1281, w1283, f1284, z1285, e1282, b1286⟩ := p1280
              subst e1281
              subst e1282
              have f1287 := f1262.tr f1284 rfl
              show wp _ _ 99 53 [(3, vI z1250), (0, .ref r0), (1, vI a1), (2, vI a2)] [vI z1285] _ H1279 _
              have h1288 : CEN T H1279 ce e d := (CEN_fr w1248 gce f1284 rfl a1256)
              exact wp_ireturn e99 c99_53 rfl ⟨rfl, w1283, f1287, z1285, rfl, ⟨b1286.1, b1286.2⟩, (h1288)⟩
            · exfalso
              omega
          · have f1289 := f0.tr f1249 rfl
            show wp _ _ 99 25 [(0, .ref r0), (1, vI a1), (2, vI a2)] [vI z1250] _ H1244 _
            refine wp_of e99 c99_25 (rw_istore_n (pc' := 26) (z := z1250) (L' := [(3, vI z1250), (0, .ref r0), (1, vI a1), (2, vI a2)]) rfl rfl rfl ?_)
            refine wp_of e99 c99_26 (rw_iload_n (pc' := 27) (z := z1250) rfl rfl ?_)
            refine wp_of e99 c99_27 (rw_if_eq (p1 := 36) (p2 := 30) (by decide) rfl ⟨Int.le_trans (by decide) b1251.1, Int.le_trans b1251.2 (by decide)⟩ (fun c1290 => ?_) (fun c1290 => ?_))
            · exfalso
              omega
            · refine wp_of e99 c99_30 (rw_aload_n (pc' := 31) (v := .ref r0) rfl rfl rfl ?_)
              refine wp_of e99 c99_31 (rw_iload_n (pc' := 32) (z := z1250) rfl rfl ?_)
              refine wp_of e99 c99_32 (xc_V (pc' := 35) (r := r0) (as := [vI z1250]) (st := []) (lm_0_70) rfl rfl (Nat.le_of_ble_eq_true rfl) w1248 g0 sh_1 (by decide) rfl (by decide) (s_12 w1248 g0 ⟨Int.le_trans (by decide) b1251.1, Int.le_trans b1251.2 (by decide)⟩) (fun R1291 T1292 H1293 p1294 => ?_))
              obtain ⟨e1295, w1297, f1298, z1299, e1296, b1300⟩ := p1294
              subst e1295
              subst e1296
              have f1301 := f1289.tr f1298 rfl
              show wp _ _ 99 35 [(3, vI z1250), (0, .ref r0), (1, vI a1), (2, vI a2)] [vI z1299] _ H1293 _
              have h1302 : CEN T H1293 ce e d := (CEN_fr w1248 gce f1298 rfl a1261)
              exact wp_ireturn e99 c99_35 rfl ⟨rfl, w1297, f1301, z1299, rfl, ⟨b1300.1, b1300.2⟩, (h1302)⟩
      · show wp _ _ 99 14 [(0, .ref r0), (1, vI a1), (2, vI a2)] [vI z1234, .ref r0] _ H _
        refine wp_of e99 c99_14 (rw_if_eq (p1 := 21) (p2 := 17) (by decide) rfl ⟨Int.le_trans (by decide) b1235.1, Int.le_trans b1235.2 (by decide)⟩ (fun c1303 => ?_) (fun c1303 => ?_))
        · refine wp_of e99 c99_21 (rw_iconst (pc' := 22) rfl ?_)
          refine wp_of e99 c99_22 (xc_V (pc' := 25) (r := r0) (as := [vI 0]) (st := []) (lm_0_174) rfl rfl (Nat.le_of_ble_eq_true rfl) hW g0 sh_1 (by decide) rfl (by decide) (u_83 (e := e) (d := d) (n := n) hW g0 ⟨by decide, by decide⟩ qcu gcu qwa gwa qce gce (by assumption) (by assumption) (by omega) (by omega) (by omega) hCU_cu hCEN_ce hHDR_ce) (fun R1304 T1305 H1306 p1307 => ?_))
          obtain ⟨e1308, w1310, f1311, z1312, e1309, b1313, p1314⟩ := p1307
          subst e1308
          subst e1309
          rcases p1314 with ⟨a1315, a1316, a1317, a1318, a1319, a1320⟩ | ⟨a1321, a1322, a1323⟩
          · have f1324 := f0.tr f1311 rfl
            show wp _ _ 99 25 [(0, .ref r0), (1, vI a1), (2, vI a2)] [vI z1312] _ H1306 _
            refine wp_of e99 c99_25 (rw_istore_n (pc' := 26) (z := z1312) (L' := [(3, vI z1312), (0, .ref r0), (1, vI a1), (2, vI a2)]) rfl rfl rfl ?_)
            refine wp_of e99 c99_26 (rw_iload_n (pc' := 27) (z := z1312) rfl rfl ?_)
            refine wp_of e99 c99_27 (rw_if_eq (p1 := 36) (p2 := 30) (by decide) rfl ⟨Int.le_trans (by decide) b1313.1, Int.le_trans b1313.2 (by decide)⟩ (fun c1325 => ?_) (fun c1325 => ?_))
            · refine wp_of e99 c99_36 (rw_aload_n (pc' := 37) (v := .ref r0) rfl rfl rfl ?_)
              refine wp_of e99 c99_37 (rw_aload_n (pc' := 38) (v := .ref r0) rfl rfl rfl ?_)
              have k1326 : H1306 r0 3 = H r0 3 := (f1311 r0 3 _ g0 rfl)
              have q1327 : H1306 r0 3 = (ce : Int) := k1326.trans qce
              refine wp_of e99 c99_38 (xg_K (pc' := 41) lf_0_30 w1310 g0 sh_1 (by decide) (by decide) rfl q1327 rfl ?_)
              refine wp_of e99 c99_41 (rw_aload_n (pc' := 42) (v := .ref r0) rfl rfl rfl ?_)
              have k1328 : H1306 r0 6 = H r0 6 := (f1311 r0 6 _ g0 rfl)
              have q1329 : H1306 r0 6 = (cu : Int) := k1328.trans qcu
              refine wp_of e99 c99_42 (xg_K (pc' := 45) lf_0_51 w1310 g0 sh_1 (by decide) (by decide) rfl q1329 rfl ?_)
              refine wp_of e99 c99_45 (rw_iload_n (pc' := 46) (z := a1) rfl rfl ?_)
              refine wp_of e99 c99_46 (rw_iload_n (pc' := 47) (z := a2) rfl rfl ?_)
              refine wp_of e99 c99_47 (xc_V (pc' := 50) (r := ce) (as := [.ref cu, vI a1, vI a2]) (st := [.ref r0]) (lm_0_194) rfl rfl (Nat.le_of_ble_eq_true rfl) w1310 gce sh_12 (by decide) rfl (by decide) (s_100 w1310 gce gcu ⟨by omega, by omega⟩ ⟨i2.1, i2.2⟩) (fun R1330 T1331 H1332 p1333 => ?_))
              obtain ⟨e1334, e1336, z1337, e1335, b1338⟩ := p1333
              subst e1334
              subst e1335
              subst e1336
              show wp _ _ 99 50 [(3, vI z1312), (0, .ref r0), (1, vI a1), (2, vI a2)] [vI z1337, .ref r0] _ H1306 _
              refine wp_of e99 c99_50 (xc_V (pc' := 53) (r := r0) (as := [vI z1337]) (st := []) (lm_0_99) rfl rfl (Nat.le_of_ble_eq_true rfl) w1310 g0 sh_1 (by decide) rfl (by decide) (s_51 w1310 g0 ⟨b1338.1, b1338.2⟩) (fun R1339 T1340 H1341 p1342 => ?_))
              obtain ⟨e1343, w1345, f1346, z1347, e1344, b1348⟩ := p1342
              subst e1343
              subst e1344
              have f1349 := f1324.tr f1346 rfl
              show wp _ _ 99 53 [(3, vI z1312), (0, .ref r0), (1, vI a1), (2, vI a2)] [vI z1347] _ H1341 _
              have h1350 : CEN T H1341 ce e d := (CEN_fr w1310 gce f1346 rfl a1318)
              exact wp_ireturn e99 c99_53 rfl ⟨rfl, w1345, f1349, z1347, rfl, ⟨b1348.1, b1348.2⟩, (h1350)⟩
            · exfalso
              omega
          · have f1351 := f0.tr f1311 rfl
            show wp _ _ 99 25 [(0, .ref r0), (1, vI a1), (2, vI a2)] [vI z1312] _ H1306 _
            refine wp_of e99 c99_25 (rw_istore_n (pc' := 26) (z := z1312) (L' := [(3, vI z1312), (0, .ref r0), (1, vI a1), (2, vI a2)]) rfl rfl rfl ?_)
            refine wp_of e99 c99_26 (rw_iload_n (pc' := 27) (z := z1312) rfl rfl ?_)
            refine wp_of e99 c99_27 (rw_if_eq (p1 := 36) (p2 := 30) (by decide) rfl ⟨Int.le_trans (by decide) b1313.1, Int.le_trans b1313.2 (by decide)⟩ (fun c1352 => ?_) (fun c1352 => ?_))
            · exfalso
              omega
            · refine wp_of e99 c99_30 (rw_aload_n (pc' := 31) (v := .ref r0) rfl rfl rfl ?_)
              refine wp_of e99 c99_31 (rw_iload_n (pc' := 32) (z := z1312) rfl rfl ?_)
              refine wp_of e99 c99_32 (xc_V (pc' := 35) (r := r0) (as := [vI z1312]) (st := []) (lm_0_70) rfl rfl (Nat.le_of_ble_eq_true rfl) w1310 g0 sh_1 (by decide) rfl (by decide) (s_12 w1310 g0 ⟨Int.le_trans (by decide) b1313.1, Int.le_trans b1313.2 (by decide)⟩) (fun R1353 T1354 H1355 p1356 => ?_))
              obtain ⟨e1357, w1359, f1360, z1361, e1358, b1362⟩ := p1356
              subst e1357
              subst e1358
              have f1363 := f1351.tr f1360 rfl
              show wp _ _ 99 35 [(3, vI z1312), (0, .ref r0), (1, vI a1), (2, vI a2)] [vI z1361] _ H1355 _
              have h1364 : CEN T H1355 ce e d := (CEN_fr w1310 gce f1360 rfl a1323)
              exact wp_ireturn e99 c99_35 rfl ⟨rfl, w1359, f1363, z1361, rfl, ⟨b1362.1, b1362.2⟩, (h1364)⟩
        · exfalso
          omega
  · show wp _ _ 99 6 [(0, .ref r0), (1, vI a1), (2, vI a2)] [vI z1219, .ref r0] _ H _
    refine wp_of e99 c99_6 (rw_if_eq (p1 := 21) (p2 := 9) (by decide) rfl ⟨Int.le_trans (by decide) b1220.1, Int.le_trans b1220.2 (by decide)⟩ (fun c1365 => ?_) (fun c1365 => ?_))
    · refine wp_of e99 c99_21 (rw_iconst (pc' := 22) rfl ?_)
      refine wp_of e99 c99_22 (xc_V (pc' := 25) (r := r0) (as := [vI 0]) (st := []) (lm_0_174) rfl rfl (Nat.le_of_ble_eq_true rfl) hW g0 sh_1 (by decide) rfl (by decide) (u_83 (e := e) (d := d) (n := n) hW g0 ⟨by decide, by decide⟩ qcu gcu qwa gwa qce gce (by assumption) (by assumption) (by omega) (by omega) (by omega) hCU_cu hCEN_ce hHDR_ce) (fun R1366 T1367 H1368 p1369 => ?_))
      obtain ⟨e1370, w1372, f1373, z1374, e1371, b1375, p1376⟩ := p1369
      subst e1370
      subst e1371
      rcases p1376 with ⟨a1377, a1378, a1379, a1380, a1381, a1382⟩ | ⟨a1383, a1384, a1385⟩
      · have f1386 := f0.tr f1373 rfl
        show wp _ _ 99 25 [(0, .ref r0), (1, vI a1), (2, vI a2)] [vI z1374] _ H1368 _
        refine wp_of e99 c99_25 (rw_istore_n (pc' := 26) (z := z1374) (L' := [(3, vI z1374), (0, .ref r0), (1, vI a1), (2, vI a2)]) rfl rfl rfl ?_)
        refine wp_of e99 c99_26 (rw_iload_n (pc' := 27) (z := z1374) rfl rfl ?_)
        refine wp_of e99 c99_27 (rw_if_eq (p1 := 36) (p2 := 30) (by decide) rfl ⟨Int.le_trans (by decide) b1375.1, Int.le_trans b1375.2 (by decide)⟩ (fun c1387 => ?_) (fun c1387 => ?_))
        · refine wp_of e99 c99_36 (rw_aload_n (pc' := 37) (v := .ref r0) rfl rfl rfl ?_)
          refine wp_of e99 c99_37 (rw_aload_n (pc' := 38) (v := .ref r0) rfl rfl rfl ?_)
          have k1388 : H1368 r0 3 = H r0 3 := (f1373 r0 3 _ g0 rfl)
          have q1389 : H1368 r0 3 = (ce : Int) := k1388.trans qce
          refine wp_of e99 c99_38 (xg_K (pc' := 41) lf_0_30 w1372 g0 sh_1 (by decide) (by decide) rfl q1389 rfl ?_)
          refine wp_of e99 c99_41 (rw_aload_n (pc' := 42) (v := .ref r0) rfl rfl rfl ?_)
          have k1390 : H1368 r0 6 = H r0 6 := (f1373 r0 6 _ g0 rfl)
          have q1391 : H1368 r0 6 = (cu : Int) := k1390.trans qcu
          refine wp_of e99 c99_42 (xg_K (pc' := 45) lf_0_51 w1372 g0 sh_1 (by decide) (by decide) rfl q1391 rfl ?_)
          refine wp_of e99 c99_45 (rw_iload_n (pc' := 46) (z := a1) rfl rfl ?_)
          refine wp_of e99 c99_46 (rw_iload_n (pc' := 47) (z := a2) rfl rfl ?_)
          refine wp_of e99 c99_47 (xc_V (pc' := 50) (r := ce) (as := [.ref cu, vI a1, vI a2]) (st := [.ref r0]) (lm_0_194) rfl rfl (Nat.le_of_ble_eq_true rfl) w1372 gce sh_12 (by decide) rfl (by decide) (s_100 w1372 gce gcu ⟨by omega, by omega⟩ ⟨i2.1, i2.2⟩) (fun R1392 T1393 H1394 p1395 => ?_))
          obtain ⟨e1396, e1398, z1399, e1397, b1400⟩ := p1395
          subst e1396
          subst e1397
          subst e1398
          show wp _ _ 99 50 [(3, vI z1374), (0, .ref r0), (1, vI a1), (2, vI a2)] [vI z1399, .ref r0] _ H1368 _
          refine wp_of e99 c99_50 (xc_V (pc' := 53) (r := r0) (as := [vI z1399]) (st := []) (lm_0_99) rfl rfl (Nat.le_of_ble_eq_true rfl) w1372 g0 sh_1 (by decide) rfl (by decide) (s_51 w1372 g0 ⟨b1400.1, b1400.2⟩) (fun R1401 T1402 H1403 p1404 => ?_))
          obtain ⟨e1405, w1407, f1408, z1409, e1406, b1410⟩ := p1404
          subst e1405
          subst e1406
          have f1411 := f1386.tr f1408 rfl
          show wp _ _ 99 53 [(3, vI z1374), (0, .ref r0), (1, vI a1), (2, vI a2)] [vI z1409] _ H1403 _
          have h1412 : CEN T H1403 ce e d := (CEN_fr w1372 gce f1408 rfl a1380)
          exact wp_ireturn e99 c99_53 rfl ⟨rfl, w1407, f1411, z1409, rfl, ⟨b1410.1, b1410.2⟩, (h1412)⟩
        · exfalso
          omega
      · have f1413 := f0.tr f1373 rfl
        show wp _ _ 99 25 [(0, .ref r0), (1, vI a1), (2, vI a2)] [vI z1374] _ H1368 _
        refine wp_of e99 c99_25 (rw_istore_n (pc' := 26) (z := z1374) (L' := [(3, vI z1374), (0, .ref r0), (1, vI a1), (2, vI a2)]) rfl rfl rfl ?_)
        refine wp_of e99 c99_26 (rw_iload_n (pc' := 27) (z := z1374) rfl rfl ?_)
        refine wp_of e99 c99_27 (rw_if_eq (p1 := 36) (p2 := 30) (by decide) rfl ⟨Int.le_trans (by decide) b1375.1, Int.le_trans b1375.2 (by decide)⟩ (fun c1414 => ?_) (fun c1414 => ?_))
        · exfalso
          omega
        · refine wp_of e99 c99_30 (rw_aload_n (pc' := 31) (v := .ref r0) rfl rfl rfl ?_)
          refine wp_of e99 c99_31 (rw_iload_n (pc' := 32) (z := z1374) rfl rfl ?_)
          refine wp_of e99 c99_32 (xc_V (pc' := 35) (r := r0) (as := [vI z1374]) (st := []) (lm_0_70) rfl rfl (Nat.le_of_ble_eq_true rfl) w1372 g0 sh_1 (by decide) rfl (by decide) (s_12 w1372 g0 ⟨Int.le_trans (by decide) b1375.1, Int.le_trans b1375.2 (by decide)⟩) (fun R1415 T1416 H1417 p1418 => ?_))
          obtain ⟨e1419, w1421, f1422, z1423, e1420, b1424⟩ := p1418
          subst e1419
          subst e1420
          have f1425 := f1413.tr f1422 rfl
          show wp _ _ 99 35 [(3, vI z1374), (0, .ref r0), (1, vI a1), (2, vI a2)] [vI z1423] _ H1417 _
          have h1426 : CEN T H1417 ce e d := (CEN_fr w1372 gce f1422 rfl a1385)
          exact wp_ireturn e99 c99_35 rfl ⟨rfl, w1421, f1425, z1423, rfl, ⟨b1424.1, b1424.2⟩, (h1426)⟩
    · exfalso
      omega
/-! StrikeAwake.sure(II)I  -/
abbrev uq_101 (r0 : Nat) (a1 : Int) (a2 : Int) (cu : Nat) (wa : Nat) (ce : Nat) (e : xD) (d : xD) (n : Int) (T : wq_T) (H : wq_H) : Option Value → wq_T → wq_H → Prop := fun r T' H' => T = T' ∧ WT T H' ∧ wfr [(12, 5), (12, 6), (12, 7), (12, 8), (12, 9), (1, 10), (6, 5), (8, 999), (10, 999), (15, 999), (9, 999), (18, 999), (19, 999), (7, 999), (11, 999), (17, 999), (13, 999)] T H H' ∧ ∃ z : Int, some (vI z) = r ∧ ((-2147483648) ≤ z ∧ z ≤ 2147483647) ∧ ((CEN T H' ce e d))
set_option maxHeartbeats 4000000 in
theorem u_101 {kt : Nat → Option mc_E} {T : wq_T} {H : wq_H} {r0 : Nat} {a1 : Int} {a2 : Int} {cu : Nat} {wa : Nat} {ce : Nat} {e : xD} {d : xD} {n : Int} (hW : WT T H) (g0 : T.2.2.2 r0 = some 1) (i1 : (-2147483648) ≤ a1 ∧ a1 ≤ 2147483647) (i2 : (-2147483648) ≤ a2 ∧ a2 ≤ 2147483647) (qcu : H r0 6 = (cu : Int)) (gcu : T.2.2.2 cu = some 27) (qwa : H r0 2 = (wa : Int)) (gwa : T.2.2.2 wa = some 6) (qce : H r0 3 = (ce : Int)) (gce : T.2.2.2 ce = some 12) (p0 : ∀ i, i ≠ 13 → e i = d i) (p1 : XW d) (p2 : e 0 3 = d 0 3) (p3 : e 0 0 = d 0 0) (p4 : H r0 8 = 0 ∨ n = xlots d) (p5 : H r0 8 ≠ 0 ∨ (d 0 3 = 0 ∧ d 0 0 = 0)) (hCU_cu : CU T H cu e d n) (hCEN_ce : CEN T H ce e d) (hHDR_ce : HDR T H ce ) : wpc kt 7 101 [.ref r0, vI a1, vI a2] T H (uq_101 r0 a1 a2 cu wa ce e d n T H) := by
  refine wp_enter e101 (Nat.le_of_ble_eq_true rfl) rfl ?_
  have f0 : wfr [(12, 5), (12, 6), (12, 7), (12, 8), (12, 9), (1, 10), (6, 5), (8, 999), (10, 999), (15, 999), (9, 999), (18, 999), (19, 999), (7, 999), (11, 999), (17, 999), (13, 999)] T H H := wfr.rf
  show wp _ _ 101 0 [(0, .ref r0), (1, vI a1), (2, vI a2)] [] _ H _
  have u1213 := CU_k hCU_cu
  have b1214 : 0 ≤ H r0 8 ∧ H r0 8 ≤ 1 := hW.box g0 (n := 13) rfl (by decide) rfl
  have _c7 : d 0 0 ≤ 24 := p1.2.1.2.1
  refine wp_of e101 c101_0 (rw_aload_n (pc' := 1) (v := .ref r0) rfl rfl rfl ?_)
  refine wp_of e101 c101_1 (rw_aload_n (pc' := 2) (v := .ref r0) rfl rfl rfl ?_)
  refine wp_of e101 c101_2 (rw_iload_n (pc' := 3) (z := a1) rfl rfl ?_)
  refine wp_of e101 c101_3 (xc_V (pc' := 6) (r := r0) (as := [vI a1]) (st := [.ref r0]) (lm_0_105) rfl rfl (Nat.le_of_ble_eq_true rfl) hW g0 sh_1 (by decide) rfl (by decide) (u_55  hW g0 ⟨i1.1, i1.2⟩ qcu gcu) (fun R1215 T1216 H1217 p1218 => ?_))
  obtain ⟨e1219, e1221, z1222, e1220, b1223, p1224⟩ := p1218
  subst e1219
  subst e1220
  subst e1221
  rcases p1224 with ⟨a1225, a1226⟩ | ⟨a1227, a1228⟩
  · show wp _ _ 101 6 [(0, .ref r0), (1, vI a1), (2, vI a2)] [vI z1222, .ref r0] _ H _
    refine wp_of e101 c101_6 (rw_if_eq (p1 := 21) (p2 := 9) (by decide) rfl ⟨Int.le_trans (by decide) b1223.1, Int.le_trans b1223.2 (by decide)⟩ (fun c1229 => ?_) (fun c1229 => ?_))
    · exfalso
      omega
    · refine wp_of e101 c101_9 (rw_aload_n (pc' := 10) (v := .ref r0) rfl rfl rfl ?_)
      refine wp_of e101 c101_10 (rw_iload_n (pc' := 11) (z := a2) rfl rfl ?_)
      refine wp_of e101 c101_11 (xc_V (pc' := 14) (r := r0) (as := [vI a2]) (st := [.ref r0]) (lm_0_132) rfl rfl (Nat.le_of_ble_eq_true rfl) hW g0 sh_1 (by decide) rfl (by decide) (u_60  hW g0 ⟨i2.1, i2.2⟩ qcu gcu) (fun R1230 T1231 H1232 p1233 => ?_))
      obtain ⟨e1234, e1236, z1237, e1235, b1238, p1239⟩ := p1233
      subst e1234
      subst e1235
      subst e1236
      rcases p1239 with ⟨a1240, a1241⟩ | ⟨a1242, a1243⟩
      · show wp _ _ 101 14 [(0, .ref r0), (1, vI a1), (2, vI a2)] [vI z1237, .ref r0] _ H _
        refine wp_of e101 c101_14 (rw_if_eq (p1 := 21) (p2 := 17) (by decide) rfl ⟨Int.le_trans (by decide) b1238.1, Int.le_trans b1238.2 (by decide)⟩ (fun c1244 => ?_) (fun c1244 => ?_))
        · exfalso
          omega
        · refine wp_of e101 c101_17 (rw_iconst (pc' := 18) rfl ?_)
          refine wp_of e101 c101_18 (rw_goto (p1 := 22) (by decide) ?_)
          refine wp_of e101 c101_22 (xc_V (pc' := 25) (r := r0) (as := [vI 1]) (st := []) (lm_0_198) rfl rfl (Nat.le_of_ble_eq_true rfl) hW g0 sh_1 (by decide) rfl (by decide) (u_102 (e := e) (d := d) (n := n) hW g0 ⟨by decide, by decide⟩ qcu gcu qwa gwa qce gce (by assumption) (by assumption) (by omega) (by omega) (by omega) hCU_cu hCEN_ce hHDR_ce) (fun R1245 T1246 H1247 p1248 => ?_))
          obtain ⟨e1249, w1251, f1252, z1253, e1250, b1254, p1255⟩ := p1248
          subst e1249
          subst e1250
          rcases p1255 with ⟨a1256, a1257, a1258, a1259, a1260, a1261, a1262⟩ | ⟨a1263, a1264, a1265⟩
          · have f1266 := f0.tr f1252 rfl
            show wp _ _ 101 25 [(0, .ref r0), (1, vI a1), (2, vI a2)] [vI z1253] _ H1247 _
            refine wp_of e101 c101_25 (rw_istore_n (pc' := 26) (z := z1253) (L' := [(3, vI z1253), (0, .ref r0), (1, vI a1), (2, vI a2)]) rfl rfl rfl ?_)
            refine wp_of e101 c101_26 (rw_iload_n (pc' := 27) (z := z1253) rfl rfl ?_)
            refine wp_of e101 c101_27 (rw_if_eq (p1 := 36) (p2 := 30) (by decide) rfl ⟨Int.le_trans (by decide) b1254.1, Int.le_trans b1254.2 (by decide)⟩ (fun c1267 => ?_) (fun c1267 => ?_))
            · refine wp_of e101 c101_36 (rw_aload_n (pc' := 37) (v := .ref r0) rfl rfl rfl ?_)
              refine wp_of e101 c101_37 (rw_aload_n (pc' := 38) (v := .ref r0) rfl rfl rfl ?_)
              have k1268 : H1247 r0 3 = H r0 3 := (f1252 r0 3 _ g0 rfl)
              have q1269 : H1247 r0 3 = (ce : Int) := k1268.trans qce
              refine wp_of e101 c101_38 (xg_K (pc' := 41) lf_0_30 w1251 g0 sh_1 (by decide) (by decide) rfl q1269 rfl ?_)
              refine wp_of e101 c101_41 (rw_aload_n (pc' := 42) (v := .ref r0) rfl rfl rfl ?_)
              have k1270 : H1247 r0 6 = H r0 6 := (f1252 r0 6 _ g0 rfl)
              have q1271 : H1247 r0 6 = (cu : Int) := k1270.trans qcu
              refine wp_of e101 c101_42 (xg_K (pc' := 45) lf_0_51 w1251 g0 sh_1 (by decide) (by decide) rfl q1271 rfl ?_)
              refine wp_of e101 c101_45 (rw_iload_n (pc' := 46) (z := a1) rfl rfl ?_)
              refine wp_of e101 c101_46 (rw_iload_n (pc' := 47) (z := a2) rfl rfl ?_)
              refine wp_of e101 c101_47 (xc_V (pc' := 50) (r := ce) (as := [.ref cu, vI a1, vI a2]) (st := [.ref r0]) (lm_0_201) rfl rfl (Nat.le_of_ble_eq_true rfl) w1251 gce sh_12 (by decide) rfl (by decide) (s_103 w1251 gce gcu ⟨by omega, by omega⟩ ⟨i2.1, i2.2⟩) (fun R1272 T1273 H1274 p1275 => ?_))
              obtain ⟨e1276, e1278, z1279, e1277, b1280⟩ := p1275
              subst e1276
              subst e1277
              subst e1278
              show wp _ _ 101 50 [(3, vI z1253), (0, .ref r0), (1, vI a1), (2, vI a2)] [vI z1279, .ref r0] _ H1247 _
              refine wp_of e101 c101_50 (xc_V (pc' := 53) (r := r0) (as := [vI z1279]) (st := []) (lm_0_99) rfl rfl (Nat.le_of_ble_eq_true rfl) w1251 g0 sh_1 (by decide) rfl (by decide) (s_51 w1251 g0 ⟨Int.le_trans (by decide) b1280.1, Int.le_trans b1280.2 (by decide)⟩) (fun R1281 T1282 H1283 p1284 => ?_))
              obtain ⟨e1285, w1287, f1288, z1289, e1286, b1290⟩ := p1284
              subst e1285
              subst e1286
              have f1291 := f1266.tr f1288 rfl
              show wp _ _ 101 53 [(3, vI z1253), (0, .ref r0), (1, vI a1), (2, vI a2)] [vI z1289] _ H1283 _
              have h1292 : CEN T H1283 ce e d := (CEN_fr w1251 gce f1288 rfl a1260)
              exact wp_ireturn e101 c101_53 rfl ⟨rfl, w1287, f1291, z1289, rfl, ⟨b1290.1, b1290.2⟩, (h1292)⟩
            · exfalso
              omega
          · have f1293 := f0.tr f1252 rfl
            show wp _ _ 101 25 [(0, .ref r0), (1, vI a1), (2, vI a2)] [vI z1253] _ H1247 _
            refine wp_of e101 c101_25 (rw_istore_n (pc' := 26) (z := z1253) (L' := [(3, vI z1253), (0, .ref r0), (1, vI a1), (2, vI a2)]) rfl rfl rfl ?_)
            refine wp_of e101 c101_26 (rw_iload_n (pc' := 27) (z := z1253) rfl rfl ?_)
            refine wp_of e101 c101_27 (rw_if_eq (p1 := 36) (p2 := 30) (by decide) rfl ⟨Int.le_trans (by decide) b1254.1, Int.le_trans b1254.2 (by decide)⟩ (fun c1294 => ?_) (fun c1294 => ?_))
            · exfalso
              omega
            · refine wp_of e101 c101_30 (rw_aload_n (pc' := 31) (v := .ref r0) rfl rfl rfl ?_)
              refine wp_of e101 c101_31 (rw_iload_n (pc' := 32) (z := z1253) rfl rfl ?_)
              refine wp_of e101 c101_32 (xc_V (pc' := 35) (r := r0) (as := [vI z1253]) (st := []) (lm_0_70) rfl rfl (Nat.le_of_ble_eq_true rfl) w1251 g0 sh_1 (by decide) rfl (by decide) (s_12 w1251 g0 ⟨Int.le_trans (by decide) b1254.1, Int.le_trans b1254.2 (by decide)⟩) (fun R1295 T1296 H1297 p1298 => ?_))
              obtain ⟨e1299, w1301, f1302, z1303, e1300, b1304⟩ := p1298
              subst e1299
              subst e1300
              have f1305 := f1293.tr f1302 rfl
              show wp _ _ 101 35 [(3, vI z1253), (0, .ref r0), (1, vI a1), (2, vI a2)] [vI z1303] _ H1297 _
              have h1306 : CEN T H1297 ce e d := (CEN_fr w1251 gce f1302 rfl a1265)
              exact wp_ireturn e101 c101_35 rfl ⟨rfl, w1301, f1305, z1303, rfl, ⟨b1304.1, b1304.2⟩, (h1306)⟩
      · show wp _ _ 101 14 [(0, .ref r0), (1, vI a1), (2, vI a2)] [vI z1237, .ref r0] _ H _
        refine wp_of e101 c101_14 (rw_if_eq (p1 := 21) (p2 := 17) (by decide) rfl ⟨Int.le_trans (by decide) b1238.1, Int.le_trans b1238.2 (by decide)⟩ (fun c1307 => ?_) (fun c1307 => ?_))
        · refine wp_of e101 c101_21 (rw_iconst (pc' := 22) rfl ?_)
          refine wp_of e101 c101_22 (xc_V (pc' := 25) (r := r0) (as := [vI 0]) (st := []) (lm_0_198) rfl rfl (Nat.le_of_ble_eq_true rfl) hW g0 sh_1 (by decide) rfl (by decide) (u_102 (e := e) (d := d) (n := n) hW g0 ⟨by decide, by decide⟩ qcu gcu qwa gwa qce gce (by assumption) (by assumption) (by omega) (by omega) (by omega) hCU_cu hCEN_ce hHDR_ce) (fun R1308 T1309 H1310 p1311 => ?_))
          obtain ⟨e1312, w1314, f1315, z1316, e1313, b1317, p1318⟩ := p1311
          subst e1312
          subst e1313
          rcases p1318 with ⟨a1319, a1320, a1321, a1322, a1323, a1324, a1325⟩ | ⟨a1326, a1327, a1328⟩
          · have f1329 := f0.tr f1315 rfl
            show wp _ _ 101 25 [(0, .ref r0), (1, vI a1), (2, vI a2)] [vI z1316] _ H1310 _
            refine wp_of e101 c101_25 (rw_istore_n (pc' := 26) (z := z1316) (L' := [(3, vI z1316), (0, .ref r0), (1, vI a1), (2, vI a2)]) rfl rfl rfl ?_)
            refine wp_of e101 c101_26 (rw_iload_n (pc' := 27) (z := z1316) rfl rfl ?_)
            refine wp_of e101 c101_27 (rw_if_eq (p1 := 36) (p2 := 30) (by decide) rfl ⟨Int.le_trans (by decide) b1317.1, Int.le_trans b1317.2 (by decide)⟩ (fun c1330 => ?_) (fun c1330 => ?_))
            · refine wp_of e101 c101_36 (rw_aload_n (pc' := 37) (v := .ref r0) rfl rfl rfl ?_)
              refine wp_of e101 c101_37 (rw_aload_n (pc' := 38) (v := .ref r0) rfl rfl rfl ?_)
              have k1331 : H1310 r0 3 = H r0 3 := (f1315 r0 3 _ g0 rfl)
              have q1332 : H1310 r0 3 = (ce : Int) := k1331.trans qce
              refine wp_of e101 c101_38 (xg_K (pc' := 41) lf_0_30 w1314 g0 sh_1 (by decide) (by decide) rfl q1332 rfl ?_)
              refine wp_of e101 c101_41 (rw_aload_n (pc' := 42) (v := .ref r0) rfl rfl rfl ?_)
              have k1333 : H1310 r0 6 = H r0 6 := (f1315 r0 6 _ g0 rfl)
              have q1334 : H1310 r0 6 = (cu : Int) := k1333.trans qcu
              refine wp_of e101 c101_42 (xg_K (pc' := 45) lf_0_51 w1314 g0 sh_1 (by decide) (by decide) rfl q1334 rfl ?_)
              refine wp_of e101 c101_45 (rw_iload_n (pc' := 46) (z := a1) rfl rfl ?_)
              refine wp_of e101 c101_46 (rw_iload_n (pc' := 47) (z := a2) rfl rfl ?_)
              refine wp_of e101 c101_47 (xc_V (pc' := 50) (r := ce) (as := [.ref cu, vI a1, vI a2]) (st := [.ref r0]) (lm_0_201) rfl rfl (Nat.le_of_ble_eq_true rfl) w1314 gce sh_12 (by decide) rfl (by decide) (s_103 w1314 gce gcu ⟨by omega, by omega⟩ ⟨i2.1, i2.2⟩) (fun R1335 T1336 H1337 p1338 => ?_))
              obtain ⟨e1339, e1341, z1342, e1340, b1343⟩ := p1338
              subst e1339
              subst e1340
              subst e1341
              show wp _ _ 101 50 [(3, vI z1316), (0, .ref r0), (1, vI a1), (2, vI a2)] [vI z1342, .ref r0] _ H1310 _
              refine wp_of e101 c101_50 (xc_V (pc' := 53) (r := r0) (as := [vI z1342]) (st := []) (lm_0_99) rfl rfl (Nat.le_of_ble_eq_true rfl) w1314 g0 sh_1 (by decide) rfl (by decide) (s_51 w1314 g0 ⟨Int.le_trans (by decide) b1343.1, Int.le_trans b1343.2 (by decide)⟩) (fun R1344 T1345 H1346 p1347 => ?_))
              obtain ⟨e1348, w1350, f1351, z1352, e1349, b1353⟩ := p1347
              subst e1348
              subst e1349
              have f1354 := f1329.tr f1351 rfl
              show wp _ _ 101 53 [(3, vI z1316), (0, .ref r0), (1, vI a1), (2, vI a2)] [vI z1352] _ H1346 _
              have h1355 : CEN T H1346 ce e d := (CEN_fr w1314 gce f1351 rfl a1323)
              exact wp_ireturn e101 c101_53 rfl ⟨rfl, w1350, f1354, z1352, rfl, ⟨b1353.1, b1353.2⟩, (h1355)⟩
            · exfalso
              omega
          · have f1356 := f0.tr f1315 rfl
            show wp _ _ 101 25 [(0, .ref r0), (1, vI a1), (2, vI a2)] [vI z1316] _ H1310 _
            refine wp_of e101 c101_25 (rw_istore_n (pc' := 26) (z := z1316) (L' := [(3, vI z1316), (0, .ref r0), (1, vI a1), (2, vI a2)]) rfl rfl rfl ?_)
            refine wp_of e101 c101_26 (rw_iload_n (pc' := 27) (z := z1316) rfl rfl ?_)
            refine wp_of e101 c101_27 (rw_if_eq (p1 := 36) (p2 := 30) (by decide) rfl ⟨Int.le_trans (by decide) b1317.1, Int.le_trans b1317.2 (by decide)⟩ (fun c1357 => ?_) (fun c1357 => ?_))
            · exfalso
              omega
            · refine wp_of e101 c101_30 (rw_aload_n (pc' := 31) (v := .ref r0) rfl rfl rfl ?_)
              refine wp_of e101 c101_31 (rw_iload_n (pc' := 32) (z := z1316) rfl rfl ?_)
              refine wp_of e101 c101_32 (xc_V (pc' := 35) (r := r0) (as := [vI z1316]) (st := []) (lm_0_70) rfl rfl (Nat.le_of_ble_eq_true rfl) w1314 g0 sh_1 (by decide) rfl (by decide) (s_12 w1314 g0 ⟨Int.le_trans (by decide) b1317.1, Int.le_trans b1317.2 (by decide)⟩) (fun R1358 T1359 H1360 p1361 => ?_))
              obtain ⟨e1362, w1364, f1365, z1366, e1363, b1367⟩ := p1361
              subst e1362
              subst e1363
              have f1368 := f1356.tr f1365 rfl
              show wp _ _ 101 35 [(3, vI z1316), (0, .ref r0), (1, vI a1), (2, vI a2)] [vI z1366] _ H1360 _
              have h1369 : CEN T H1360 ce e d := (CEN_fr w1314 gce f1365 rfl a1328)
              exact wp_ireturn e101 c101_35 rfl ⟨rfl, w1364, f1368, z1366, rfl, ⟨b1367.1, b1367.2⟩, (h1369)⟩
        · exfalso
          omega
  · show wp _ _ 101 6 [(0, .ref r0), (1, vI a1), (2, vI a2)] [vI z1222, .ref r0] _ H _
    refine wp_of e101 c101_6 (rw_if_eq (p1 := 21) (p2 := 9) (by decide) rfl ⟨Int.le_trans (by decide) b1223.1, Int.le_trans b1223.2 (by decide)⟩ (fun c1370 => ?_) (fun c1370 => ?_))
    · refine wp_of e101 c101_21 (rw_iconst (pc' := 22) rfl ?_)
      refine wp_of e101 c101_22 (xc_V (pc' := 25) (r := r0) (as := [vI 0]) (st := []) (lm_0_198) rfl rfl (Nat.le_of_ble_eq_true rfl) hW g0 sh_1 (by decide) rfl (by decide) (u_102 (e := e) (d := d) (n := n) hW g0 ⟨by decide, by decide⟩ qcu gcu qwa gwa qce gce (by assumption) (by assumption) (by omega) (by omega) (by omega) hCU_cu hCEN_ce hHDR_ce) (fun R1371 T1372 H1373 p1374 => ?_))
      obtain ⟨e1375, w1377, f1378, z1379, e1376, b1380, p1381⟩ := p1374
      subst e1375
      subst e1376
      rcases p1381 with ⟨a1382, a1383, a1384, a1385, a1386, a1387, a1388⟩ | ⟨a1389, a1390, a1391⟩
      · have f1392 := f0.tr f1378 rfl
        show wp _ _ 101 25 [(0, .ref r0), (1, vI a1), (2, vI a2)] [vI z1379] _ H1373 _
        refine wp_of e101 c101_25 (rw_istore_n (pc' := 26) (z := z1379) (L' := [(3, vI z1379), (0, .ref r0), (1, vI a1), (2, vI a2)]) rfl rfl rfl ?_)
        refine wp_of e101 c101_26 (rw_iload_n (pc' := 27) (z := z1379) rfl rfl ?_)
        refine wp_of e101 c101_27 (rw_if_eq (p1 := 36) (p2 := 30) (by decide) rfl ⟨Int.le_trans (by decide) b1380.1, Int.le_trans b1380.2 (by decide)⟩ (fun c1393 => ?_) (fun c1393 => ?_))
        · refine wp_of e101 c101_36 (rw_aload_n (pc' := 37) (v := .ref r0) rfl rfl rfl ?_)
          refine wp_of e101 c101_37 (rw_aload_n (pc' := 38) (v := .ref r0) rfl rfl rfl ?_)
          have k1394 : H1373 r0 3 = H r0 3 := (f1378 r0 3 _ g0 rfl)
          have q1395 : H1373 r0 3 = (ce : Int) := k1394.trans qce
          refine wp_of e101 c101_38 (xg_K (pc' := 41) lf_0_30 w1377 g0 sh_1 (by decide) (by decide) rfl q1395 rfl ?_)
          refine wp_of e101 c101_41 (rw_aload_n (pc' := 42) (v := .ref r0) rfl rfl rfl ?_)
          have k1396 : H1373 r0 6 = H r0 6 := (f1378 r0 6 _ g0 rfl)
          have q1397 : H1373 r0 6 = (cu : Int) := k1396.trans qcu
          refine wp_of e101 c101_42 (xg_K (pc' := 45) lf_0_51 w1377 g0 sh_1 (by decide) (by decide) rfl q1397 rfl ?_)
          refine wp_of e101 c101_45 (rw_iload_n (pc' := 46) (z := a1) rfl rfl ?_)
          refine wp_of e101 c101_46 (rw_iload_n (pc' := 47) (z := a2) rfl rfl ?_)
          refine wp_of e101 c101_47 (xc_V (pc' := 50) (r := ce) (as := [.ref cu, vI a1, vI a2]) (st := [.ref r0]) (lm_0_201) rfl rfl (Nat.le_of_ble_eq_true rfl) w1377 gce sh_12 (by decide) rfl (by decide) (s_103 w1377 gce gcu ⟨by omega, by omega⟩ ⟨i2.1, i2.2⟩) (fun R1398 T1399 H1400 p1401 => ?_))
          obtain ⟨e1402, e1404, z1405, e1403, b1406⟩ := p1401
          subst e1402
          subst e1403
          subst e1404
          show wp _ _ 101 50 [(3, vI z1379), (0, .ref r0), (1, vI a1), (2, vI a2)] [vI z1405, .ref r0] _ H1373 _
          refine wp_of e101 c101_50 (xc_V (pc' := 53) (r := r0) (as := [vI z1405]) (st := []) (lm_0_99) rfl rfl (Nat.le_of_ble_eq_true rfl) w1377 g0 sh_1 (by decide) rfl (by decide) (s_51 w1377 g0 ⟨Int.le_trans (by decide) b1406.1, Int.le_trans b1406.2 (by decide)⟩) (fun R1407 T1408 H1409 p1410 => ?_))
          obtain ⟨e1411, w1413, f1414, z1415, e1412, b1416⟩ := p1410
          subst e1411
          subst e1412
          have f1417 := f1392.tr f1414 rfl
          show wp _ _ 101 53 [(3, vI z1379), (0, .ref r0), (1, vI a1), (2, vI a2)] [vI z1415] _ H1409 _
          have h1418 : CEN T H1409 ce e d := (CEN_fr w1377 gce f1414 rfl a1386)
          exact wp_ireturn e101 c101_53 rfl ⟨rfl, w1413, f1417, z1415, rfl, ⟨b1416.1, b1416.2⟩, (h1418)⟩
        · exfalso
          omega
      · have f1419 := f0.tr f1378 rfl
        show wp _ _ 101 25 [(0, .ref r0), (1, vI a1), (2, vI a2)] [vI z1379] _ H1373 _
        refine wp_of e101 c101_25 (rw_istore_n (pc' := 26) (z := z1379) (L' := [(3, vI z1379), (0, .ref r0), (1, vI a1), (2, vI a2)]) rfl rfl rfl ?_)
        refine wp_of e101 c101_26 (rw_iload_n (pc' := 27) (z := z1379) rfl rfl ?_)
        refine wp_of e101 c101_27 (rw_if_eq (p1 := 36) (p2 := 30) (by decide) rfl ⟨Int.le_trans (by decide) b1380.1, Int.le_trans b1380.2 (by decide)⟩ (fun c1420 => ?_) (fun c1420 => ?_))
        · exfalso
          omega
        · refine wp_of e101 c101_30 (rw_aload_n (pc' := 31) (v := .ref r0) rfl rfl rfl ?_)
          refine wp_of e101 c101_31 (rw_iload_n (pc' := 32) (z := z1379) rfl rfl ?_)
          refine wp_of e101 c101_32 (xc_V (pc' := 35) (r := r0) (as := [vI z1379]) (st := []) (lm_0_70) rfl rfl (Nat.le_of_ble_eq_true rfl) w1377 g0 sh_1 (by decide) rfl (by decide) (s_12 w1377 g0 ⟨Int.le_trans (by decide) b1380.1, Int.le_trans b1380.2 (by decide)⟩) (fun R1421 T1422 H1423 p1424 => ?_))
          obtain ⟨e1425, w1427, f1428, z1429, e1426, b1430⟩ := p1424
          subst e1425
          subst e1426
          have f1431 := f1419.tr f1428 rfl
          show wp _ _ 101 35 [(3, vI z1379), (0, .ref r0), (1, vI a1), (2, vI a2)] [vI z1429] _ H1423 _
          have h1432 : CEN T H1423 ce e d := (CEN_fr w1377 gce f1428 rfl a1391)
          exact wp_ireturn e101 c101_35 rfl ⟨rfl, w1427, f1431, z1429, rfl, ⟨b1430.1, b1430.2⟩, (h1432)⟩
    · exfalso
      omega
/-! StrikeAwake.surely(IZ)I  -/
abbrev uq_104 (r0 : Nat) (a1 : Int) (a2 : Int) (cu : Nat) (wa : Nat) (ce : Nat) (e : xD) (d : xD) (n : Int) (T : wq_T) (H : wq_H) : Option Value → wq_T → wq_H → Prop := fun r T' H' => T = T' ∧ WT T H' ∧ wfr [(12, 5), (12, 6), (12, 7), (12, 8), (12, 9), (1, 10), (6, 5), (8, 999), (10, 999), (15, 999), (9, 999), (18, 999), (19, 999), (7, 999), (11, 999), (17, 999), (13, 999)] T H H' ∧ ∃ z : Int, some (vI z) = r ∧ ((-2147483648) ≤ z ∧ z ≤ 2147483647) ∧ ((CEN T H' ce e d))
set_option maxHeartbeats 4000000 in
theorem u_104 {kt : Nat → Option mc_E} {T : wq_T} {H : wq_H} {r0 : Nat} {a1 : Int} {a2 : Int} {cu : Nat} {wa : Nat} {ce : Nat} {e : xD} {d : xD} {n : Int} (hW : WT T H) (g0 : T.2.2.2 r0 = some 1) (i1 : (-2147483648) ≤ a1 ∧ a1 ≤ 2147483647) (i2 : 0 ≤ a2 ∧ a2 ≤ 1) (qcu : H r0 6 = (cu : Int)) (gcu : T.2.2.2 cu = some 27) (qwa : H r0 2 = (wa : Int)) (gwa : T.2.2.2 wa = some 6) (qce : H r0 3 = (ce : Int)) (gce : T.2.2.2 ce = some 12) (p0 : ∀ i, i ≠ 13 → e i = d i) (p1 : XW d) (p2 : e 0 3 = d 0 3) (p3 : e 0 0 = d 0 0) (p4 : H r0 8 = 0 ∨ n = xlots d) (p5 : H r0 8 ≠ 0 ∨ (d 0 3 = 0 ∧ d 0 0 = 0)) (hCU_cu : CU T H cu e d n) (hCEN_ce : CEN T H ce e d) (hHDR_ce : HDR T H ce ) : wpc kt 7 104 [.ref r0, vI a1, vI a2] T H (uq_104 r0 a1 a2 cu wa ce e d n T H) := by
  refine wp_enter e104 (Nat.le_of_ble_eq_true rfl) rfl ?_
  have f0 : wfr [(12, 5), (12, 6), (12, 7), (12, 8), (12, 9), (1, 10), (6, 5), (8, 999), (10, 999), (15, 999), (9, 999), (18, 999), (19, 999), (7, 999), (11, 999), (17, 999), (13, 999)] T H H := wfr.rf
  show wp _ _ 104 0 [(0, .ref r0), (1, vI a1), (2, vI a2)] [] _ H _
  have u1841 := CU_k hCU_cu
  have b1842 : 0 ≤ H r0 8 ∧ H r0 8 ≤ 1 := hW.box g0 (n := 13) rfl (by decide) rfl
  have _c7 : d 0 0 ≤ 24 := p1.2.1.2.1
  refine wp_of e104 c104_0 (rw_aload_n (pc' := 1) (v := .ref r0) rfl rfl rfl ?_)
  refine wp_of e104 c104_1 (rw_aload_n (pc' := 2) (v := .ref r0) rfl rfl rfl ?_)
  refine wp_of e104 c104_2 (rw_iload_n (pc' := 3) (z := a1) rfl rfl ?_)
  refine wp_of e104 c104_3 (xc_V (pc' := 6) (r := r0) (as := [vI a1]) (st := [.ref r0]) (lm_0_132) rfl rfl (Nat.le_of_ble_eq_true rfl) hW g0 sh_1 (by decide) rfl (by decide) (u_60  hW g0 ⟨i1.1, i1.2⟩ qcu gcu) (fun R1843 T1844 H1845 p1846 => ?_))
  obtain ⟨e1847, e1849, z1850, e1848, b1851, p1852⟩ := p1846
  subst e1847
  subst e1848
  subst e1849
  rcases p1852 with ⟨a1853, a1854⟩ | ⟨a1855, a1856⟩
  · show wp _ _ 104 6 [(0, .ref r0), (1, vI a1), (2, vI a2)] [vI z1850, .ref r0] _ H _
    refine wp_of e104 c104_6 (xc_V (pc' := 9) (r := r0) (as := [vI z1850]) (st := []) (lm_0_198) rfl rfl (Nat.le_of_ble_eq_true rfl) hW g0 sh_1 (by decide) rfl (by decide) (u_102 (e := e) (d := d) (n := n) hW g0 ⟨b1851.1, b1851.2⟩ qcu gcu qwa gwa qce gce (by assumption) (by assumption) (by omega) (by omega) (by omega) hCU_cu hCEN_ce hHDR_ce) (fun R1857 T1858 H1859 p1860 => ?_))
    obtain ⟨e1861, w1863, f1864, z1865, e1862, b1866, p1867⟩ := p1860
    subst e1861
    subst e1862
    rcases p1867 with ⟨a1868, a1869, a1870, a1871, a1872, a1873, a1874⟩ | ⟨a1875, a1876, a1877⟩
    · have f1878 := f0.tr f1864 rfl
      show wp _ _ 104 9 [(0, .ref r0), (1, vI a1), (2, vI a2)] [vI z1865] _ H1859 _
      refine wp_of e104 c104_9 (rw_istore_n (pc' := 10) (z := z1865) (L' := [(3, vI z1865), (0, .ref r0), (1, vI a1), (2, vI a2)]) rfl rfl rfl ?_)
      refine wp_of e104 c104_10 (rw_iload_n (pc' := 11) (z := z1865) rfl rfl ?_)
      refine wp_of e104 c104_11 (rw_if_eq (p1 := 20) (p2 := 14) (by decide) rfl ⟨Int.le_trans (by decide) b1866.1, Int.le_trans b1866.2 (by decide)⟩ (fun c1879 => ?_) (fun c1879 => ?_))
      · refine wp_of e104 c104_20 (rw_iload_n (pc' := 21) (z := a2) rfl rfl ?_)
        refine wp_of e104 c104_21 (rw_if_eq (p1 := 28) (p2 := 24) (by decide) rfl ⟨Int.le_trans (by decide) i2.1, Int.le_trans i2.2 (by decide)⟩ (fun c1880 => ?_) (fun c1880 => ?_))
        · refine wp_of e104 c104_28 (rw_iconst (pc' := 29) rfl ?_)
          refine wp_of e104 c104_29 (rw_istore (pc' := 31) (z := 0) (L' := [(4, vI 0), (3, vI z1865), (0, .ref r0), (1, vI a1), (2, vI a2)]) rfl rfl rfl ?_)
          refine wp_of e104 c104_31 (rw_iconst (pc' := 32) rfl ?_)
          refine wp_of e104 c104_32 (rw_istore (pc' := 34) (z := 0) (L' := [(5, vI 0), (4, vI 0), (3, vI z1865), (0, .ref r0), (1, vI a1), (2, vI a2)]) rfl rfl rfl ?_)
          refine wp_of e104 c104_34 (rw_iconst (pc' := 35) rfl ?_)
          refine wp_of e104 c104_35 (rw_istore (pc' := 37) (z := 0) (L' := [(6, vI 0), (5, vI 0), (4, vI 0), (3, vI z1865), (0, .ref r0), (1, vI a1), (2, vI a2)]) rfl rfl rfl ?_)
          have lp2035 : ∀ (n2036 : Nat) (v2038 : Int) (v2039 : Int), (0 ≤ v2038 ∧ v2038 ≤ 6) → (0 ≤ v2039 ∧ v2039 ≤ 16777215) → (6 - v2038).toNat = n2036 → wp kt 6 104 37 [(6, vI v2038), (5, vI v2039), (4, vI 0), (0, .ref r0), (1, vI a1)] [] T H1859 (uq_104 r0 a1 a2 cu wa ce e d n T H) := by
            intro n2036
            induction n2036 using Nat.strongRecOn with
            | _ n2036 ih2037 =>
              intro v2038 v2039 b2042 b2043 m2044
              refine wp_of e104 c104_37 (rw_iload (pc' := 39) (z := v2038) rfl rfl ?_)
              refine wp_of e104 c104_39 (rw_aload_n (pc' := 40) (v := .ref r0) rfl rfl rfl ?_)
              have k2045 : H1859 r0 6 = H r0 6 := (f1864 r0 6 _ g0 rfl)
              have q2046 : H1859 r0 6 = (cu : Int) := k2045.trans qcu
              refine wp_of e104 c104_40 (xg_K (pc' := 43) lf_0_51 w1863 g0 sh_1 (by decide) (by decide) rfl q2046 rfl ?_)
              have k2047 : H1859 cu 10 = H cu 10 := (f1864 cu 10 _ gcu rfl)
              refine wp_of e104 c104_43 (xg_I (pc' := 46) lf_0_96 w1863 gcu sh_27 (by decide) (by decide) ty_27_10 rfl rfl (fun b2048 b2049 => ?_))
              refine wp_of e104 c104_46 (rw_icmp_ge (p1 := 83) (p2 := 49) (by decide) rfl ⟨Int.le_trans (by decide) b2042.1, Int.le_trans b2042.2 (by decide)⟩ ⟨Int.le_trans (by decide) b2048, Int.le_trans b2049 (by decide)⟩ (fun c2050 => ?_) (fun c2050 => ?_))
              · refine wp_of e104 c104_83 (rw_aload_n (pc' := 84) (v := .ref r0) rfl rfl rfl ?_)
                refine wp_of e104 c104_84 (rw_iload (pc' := 86) (z := v2039) rfl rfl ?_)
                refine wp_of e104 c104_86 (xc_V (pc' := 89) (r := r0) (as := [vI v2039]) (st := []) (lm_0_99) rfl rfl (Nat.le_of_ble_eq_true rfl) w1863 g0 sh_1 (by decide) rfl (by decide) (s_51 w1863 g0 ⟨Int.le_trans (by decide) b2043.1, Int.le_trans b2043.2 (by decide)⟩) (fun R2051 T2052 H2053 p2054 => ?_))
                obtain ⟨e2055, w2057, f2058, z2059, e2056, b2060⟩ := p2054
                subst e2055
                subst e2056
                have f2061 := f1878.tr f2058 rfl
                show wp _ _ 104 89 [(6, vI v2038), (5, vI v2039), (4, vI 0), (0, .ref r0), (1, vI a1)] [vI z2059] _ H2053 _
                have h2062 : CEN T H2053 ce e d := (CEN_fr w1863 gce f2058 rfl a1872)
                exact wp_ireturn e104 c104_89 rfl ⟨rfl, w2057, f2061, z2059, rfl, ⟨b2060.1, b2060.2⟩, (h2062)⟩
              · refine wp_of e104 c104_49 (rw_aload_n (pc' := 50) (v := .ref r0) rfl rfl rfl ?_)
                have k2063 : H1859 r0 3 = H r0 3 := (f1864 r0 3 _ g0 rfl)
                have q2064 : H1859 r0 3 = (ce : Int) := k2063.trans qce
                refine wp_of e104 c104_50 (xg_K (pc' := 53) lf_0_30 w1863 g0 sh_1 (by decide) (by decide) rfl q2064 rfl ?_)
                refine wp_of e104 c104_53 (rw_aload_n (pc' := 54) (v := .ref r0) rfl rfl rfl ?_)
                refine wp_of e104 c104_54 (xg_K (pc' := 57) lf_0_51 w1863 g0 sh_1 (by decide) (by decide) rfl q2046 rfl ?_)
                refine wp_of e104 c104_57 (rw_iload (pc' := 59) (z := v2038) rfl rfl ?_)
                refine wp_of e104 c104_59 (rw_iload_n (pc' := 60) (z := a1) rfl rfl ?_)
                refine wp_of e104 c104_60 (xc_V (pc' := 63) (r := ce) (as := [.ref cu, vI v2038, vI a1]) (st := []) (lm_0_201) rfl rfl (Nat.le_of_ble_eq_true rfl) w1863 gce sh_12 (by decide) rfl (by decide) (s_103 w1863 gce gcu ⟨b2042.1, by omega⟩ ⟨i1.1, i1.2⟩) (fun R2065 T2066 H2067 p2068 => ?_))
                obtain ⟨e2069, e2071, z2072, e2070, b2073⟩ := p2068
                subst e2069
                subst e2070
                subst e2071
                show wp _ _ 104 63 [(6, vI v2038), (5, vI v2039), (4, vI 0), (0, .ref r0), (1, vI a1)] [vI z2072] _ H1859 _
                refine wp_of e104 c104_63 (rw_iload (pc' := 65) (z := 0) rfl rfl ?_)
                refine wp_of e104 c104_65 (rw_icmp_ne (p1 := 77) (p2 := 68) (by decide) rfl ⟨Int.le_trans (by decide) b2073.1, Int.le_trans b2073.2 (by decide)⟩ ⟨by decide, by decide⟩ (fun c2074 => ?_) (fun c2074 => ?_))
                · refine wp_of e104 c104_77 (rw_iinc (pc' := 80) (z := v2038) (L' := [(6, vI (v2038 + 1)), (5, vI v2039), (4, vI 0), (0, .ref r0), (1, vI a1)]) rfl rfl rfl rfl ?_)
                  refine wp_of e104 c104_80 (rw_goto (p1 := 37) (by decide) ?_)
                  exact wp_lc (ks := [6, 5, 4, 0, 1]) (wl_c rfl (wl_c rfl (wl_c rfl (wl_c rfl (wl_c rfl wl_n))))) rfl (by decide) (ih2037 _ (by omega) (v2038 + 1) v2039 ⟨by omega, by omega⟩ ⟨b2043.1, b2043.2⟩ rfl)
                · refine wp_of e104 c104_68 (rw_iload (pc' := 70) (z := v2039) rfl rfl ?_)
                  refine wp_of e104 c104_70 (rw_iconst (pc' := 71) rfl ?_)
                  refine wp_of e104 c104_71 (rw_iload (pc' := 73) (z := v2038) rfl rfl ?_)
                  refine wp_of e104 c104_73 (rw_ishl (pc' := 74) rfl ?_)
                  obtain ⟨v2075, e2076⟩ : ∃ x : Int, x = wq_shl 1 v2038 := ⟨_, rfl⟩
                  rw [← e2076]
                  have b2077 : 1 ≤ v2075 ∧ v2075 ≤ 64 := by
                    rw [e2076]
                    exact wq_shl1_6 ⟨by omega, by omega⟩
                  refine wp_of e104 c104_74 (rw_ior (pc' := 75) rfl ?_)
                  obtain ⟨v2078, e2079⟩ : ∃ x : Int, x = wq_or v2039 v2075 := ⟨_, rfl⟩
                  rw [← e2079]
                  have b2080 : 0 ≤ v2078 ∧ v2078 ≤ 16777215 := by
                    rw [e2079]
                    exact wq_or_24 ⟨by omega, by omega⟩ ⟨by omega, by omega⟩
                  refine wp_of e104 c104_75 (rw_istore (pc' := 77) (z := v2078) (L' := [(5, vI v2078), (6, vI v2038), (4, vI 0), (0, .ref r0), (1, vI a1)]) rfl rfl rfl ?_)
                  refine wp_of e104 c104_77 (rw_iinc (pc' := 80) (z := v2038) (L' := [(6, vI (v2038 + 1)), (5, vI v2078), (4, vI 0), (0, .ref r0), (1, vI a1)]) rfl rfl rfl rfl ?_)
                  refine wp_of e104 c104_80 (rw_goto (p1 := 37) (by decide) ?_)
                  exact wp_lc (ks := [6, 5, 4, 0, 1]) (wl_c rfl (wl_c rfl (wl_c rfl (wl_c rfl (wl_c rfl wl_n))))) rfl (by decide) (ih2037 _ (by omega) (v2038 + 1) v2078 ⟨by omega, by omega⟩ ⟨b2080.1, b2080.2⟩ rfl)
          exact wp_lc (ks := [6, 5, 4, 3, 0, 1, 2]) (wl_c rfl (wl_c rfl (wl_c rfl (wl_c rfl (wl_c rfl wl_n))))) rfl (by decide) (lp2035 _ 0 0 ⟨by decide, by decide⟩ ⟨by decide, by decide⟩ rfl)
        · refine wp_of e104 c104_24 (rw_iconst (pc' := 25) rfl ?_)
          refine wp_of e104 c104_25 (rw_goto (p1 := 29) (by decide) ?_)
          refine wp_of e104 c104_29 (rw_istore (pc' := 31) (z := 2) (L' := [(4, vI 2), (3, vI z1865), (0, .ref r0), (1, vI a1), (2, vI a2)]) rfl rfl rfl ?_)
          refine wp_of e104 c104_31 (rw_iconst (pc' := 32) rfl ?_)
          refine wp_of e104 c104_32 (rw_istore (pc' := 34) (z := 0) (L' := [(5, vI 0), (4, vI 2), (3, vI z1865), (0, .ref r0), (1, vI a1), (2, vI a2)]) rfl rfl rfl ?_)
          refine wp_of e104 c104_34 (rw_iconst (pc' := 35) rfl ?_)
          refine wp_of e104 c104_35 (rw_istore (pc' := 37) (z := 0) (L' := [(6, vI 0), (5, vI 0), (4, vI 2), (3, vI z1865), (0, .ref r0), (1, vI a1), (2, vI a2)]) rfl rfl rfl ?_)
          have lp2235 : ∀ (n2236 : Nat) (v2238 : Int) (v2239 : Int), (0 ≤ v2238 ∧ v2238 ≤ 6) → (0 ≤ v2239 ∧ v2239 ≤ 16777215) → (6 - v2238).toNat = n2236 → wp kt 6 104 37 [(6, vI v2238), (5, vI v2239), (4, vI 2), (0, .ref r0), (1, vI a1)] [] T H1859 (uq_104 r0 a1 a2 cu wa ce e d n T H) := by
            intro n2236
            induction n2236 using Nat.strongRecOn with
            | _ n2236 ih2237 =>
              intro v2238 v2239 b2242 b2243 m2244
              refine wp_of e104 c104_37 (rw_iload (pc' := 39) (z := v2238) rfl rfl ?_)
              refine wp_of e104 c104_39 (rw_aload_n (pc' := 40) (v := .ref r0) rfl rfl rfl ?_)
              have k2245 : H1859 r0 6 = H r0 6 := (f1864 r0 6 _ g0 rfl)
              have q2246 : H1859 r0 6 = (cu : Int) := k2245.trans qcu
              refine wp_of e104 c104_40 (xg_K (pc' := 43) lf_0_51 w1863 g0 sh_1 (by decide) (by decide) rfl q2246 rfl ?_)
              have k2247 : H1859 cu 10 = H cu 10 := (f1864 cu 10 _ gcu rfl)
              refine wp_of e104 c104_43 (xg_I (pc' := 46) lf_0_96 w1863 gcu sh_27 (by decide) (by decide) ty_27_10 rfl rfl (fun b2248 b2249 => ?_))
              refine wp_of e104 c104_46 (rw_icmp_ge (p1 := 83) (p2 := 49) (by decide) rfl ⟨Int.le_trans (by decide) b2242.1, Int.le_trans b2242.2 (by decide)⟩ ⟨Int.le_trans (by decide) b2248, Int.le_trans b2249 (by decide)⟩ (fun c2250 => ?_) (fun c2250 => ?_))
              · refine wp_of e104 c104_83 (rw_aload_n (pc' := 84) (v := .ref r0) rfl rfl rfl ?_)
                refine wp_of e104 c104_84 (rw_iload (pc' := 86) (z := v2239) rfl rfl ?_)
                refine wp_of e104 c104_86 (xc_V (pc' := 89) (r := r0) (as := [vI v2239]) (st := []) (lm_0_99) rfl rfl (Nat.le_of_ble_eq_true rfl) w1863 g0 sh_1 (by decide) rfl (by decide) (s_51 w1863 g0 ⟨Int.le_trans (by decide) b2243.1, Int.le_trans b2243.2 (by decide)⟩) (fun R2251 T2252 H2253 p2254 => ?_))
                obtain ⟨e2255, w2257, f2258, z2259, e2256, b2260⟩ := p2254
                subst e2255
                subst e2256
                have f2261 := f1878.tr f2258 rfl
                show wp _ _ 104 89 [(6, vI v2238), (5, vI v2239), (4, vI 2), (0, .ref r0), (1, vI a1)] [vI z2259] _ H2253 _
                have h2262 : CEN T H2253 ce e d := (CEN_fr w1863 gce f2258 rfl a1872)
                exact wp_ireturn e104 c104_89 rfl ⟨rfl, w2257, f2261, z2259, rfl, ⟨b2260.1, b2260.2⟩, (h2262)⟩
              · refine wp_of e104 c104_49 (rw_aload_n (pc' := 50) (v := .ref r0) rfl rfl rfl ?_)
                have k2263 : H1859 r0 3 = H r0 3 := (f1864 r0 3 _ g0 rfl)
                have q2264 : H1859 r0 3 = (ce : Int) := k2263.trans qce
                refine wp_of e104 c104_50 (xg_K (pc' := 53) lf_0_30 w1863 g0 sh_1 (by decide) (by decide) rfl q2264 rfl ?_)
                refine wp_of e104 c104_53 (rw_aload_n (pc' := 54) (v := .ref r0) rfl rfl rfl ?_)
                refine wp_of e104 c104_54 (xg_K (pc' := 57) lf_0_51 w1863 g0 sh_1 (by decide) (by decide) rfl q2246 rfl ?_)
                refine wp_of e104 c104_57 (rw_iload (pc' := 59) (z := v2238) rfl rfl ?_)
                refine wp_of e104 c104_59 (rw_iload_n (pc' := 60) (z := a1) rfl rfl ?_)
                refine wp_of e104 c104_60 (xc_V (pc' := 63) (r := ce) (as := [.ref cu, vI v2238, vI a1]) (st := []) (lm_0_201) rfl rfl (Nat.le_of_ble_eq_true rfl) w1863 gce sh_12 (by decide) rfl (by decide) (s_103 w1863 gce gcu ⟨b2242.1, by omega⟩ ⟨i1.1, i1.2⟩) (fun R2265 T2266 H2267 p2268 => ?_))
                obtain ⟨e2269, e2271, z2272, e2270, b2273⟩ := p2268
                subst e2269
                subst e2270
                subst e2271
                show wp _ _ 104 63 [(6, vI v2238), (5, vI v2239), (4, vI 2), (0, .ref r0), (1, vI a1)] [vI z2272] _ H1859 _
                refine wp_of e104 c104_63 (rw_iload (pc' := 65) (z := 2) rfl rfl ?_)
                refine wp_of e104 c104_65 (rw_icmp_ne (p1 := 77) (p2 := 68) (by decide) rfl ⟨Int.le_trans (by decide) b2273.1, Int.le_trans b2273.2 (by decide)⟩ ⟨by decide, by decide⟩ (fun c2274 => ?_) (fun c2274 => ?_))
                · refine wp_of e104 c104_77 (rw_iinc (pc' := 80) (z := v2238) (L' := [(6, vI (v2238 + 1)), (5, vI v2239), (4, vI 2), (0, .ref r0), (1, vI a1)]) rfl rfl rfl rfl ?_)
                  refine wp_of e104 c104_80 (rw_goto (p1 := 37) (by decide) ?_)
                  exact wp_lc (ks := [6, 5, 4, 0, 1]) (wl_c rfl (wl_c rfl (wl_c rfl (wl_c rfl (wl_c rfl wl_n))))) rfl (by decide) (ih2237 _ (by omega) (v2238 + 1) v2239 ⟨by omega, by omega⟩ ⟨b2243.1, b2243.2⟩ rfl)
                · refine wp_of e104 c104_68 (rw_iload (pc' := 70) (z := v2239) rfl rfl ?_)
                  refine wp_of e104 c104_70 (rw_iconst (pc' := 71) rfl ?_)
                  refine wp_of e104 c104_71 (rw_iload (pc' := 73) (z := v2238) rfl rfl ?_)
                  refine wp_of e104 c104_73 (rw_ishl (pc' := 74) rfl ?_)
                  obtain ⟨v2275, e2276⟩ : ∃ x : Int, x = wq_shl 1 v2238 := ⟨_, rfl⟩
                  rw [← e2276]
                  have b2277 : 1 ≤ v2275 ∧ v2275 ≤ 64 := by
                    rw [e2276]
                    exact wq_shl1_6 ⟨by omega, by omega⟩
                  refine wp_of e104 c104_74 (rw_ior (pc' := 75) rfl ?_)
                  obtain ⟨v2278, e2279⟩ : ∃ x : Int, x = wq_or v2239 v2275 := ⟨_, rfl⟩
                  rw [← e2279]
                  have b2280 : 0 ≤ v2278 ∧ v2278 ≤ 16777215 := by
                    rw [e2279]
                    exact wq_or_24 ⟨by omega, by omega⟩ ⟨by omega, by omega⟩
                  refine wp_of e104 c104_75 (rw_istore (pc' := 77) (z := v2278) (L' := [(5, vI v2278), (6, vI v2238), (4, vI 2), (0, .ref r0), (1, vI a1)]) rfl rfl rfl ?_)
                  refine wp_of e104 c104_77 (rw_iinc (pc' := 80) (z := v2238) (L' := [(6, vI (v2238 + 1)), (5, vI v2278), (4, vI 2), (0, .ref r0), (1, vI a1)]) rfl rfl rfl rfl ?_)
                  refine wp_of e104 c104_80 (rw_goto (p1 := 37) (by decide) ?_)
                  exact wp_lc (ks := [6, 5, 4, 0, 1]) (wl_c rfl (wl_c rfl (wl_c rfl (wl_c rfl (wl_c rfl wl_n))))) rfl (by decide) (ih2237 _ (by omega) (v2238 + 1) v2278 ⟨by omega, by omega⟩ ⟨b2280.1, b2280.2⟩ rfl)
          exact wp_lc (ks := [6, 5, 4, 3, 0, 1, 2]) (wl_c rfl (wl_c rfl (wl_c rfl (wl_c rfl (wl_c rfl wl_n))))) rfl (by decide) (lp2235 _ 0 0 ⟨by decide, by decide⟩ ⟨by decide, by decide⟩ rfl)
      · exfalso
        omega
    · have f2281 := f0.tr f1864 rfl
      show wp _ _ 104 9 [(0, .ref r0), (1, vI a1), (2, vI a2)] [vI z1865] _ H1859 _
      refine wp_of e104 c104_9 (rw_istore_n (pc' := 10) (z := z1865) (L' := [(3, vI z1865), (0, .ref r0), (1, vI a1), (2, vI a2)]) rfl rfl rfl ?_)
      refine wp_of e104 c104_10 (rw_iload_n (pc' := 11) (z := z1865) rfl rfl ?_)
      refine wp_of e104 c104_11 (rw_if_eq (p1 := 20) (p2 := 14) (by decide) rfl ⟨Int.le_trans (by decide) b1866.1, Int.le_trans b1866.2 (by decide)⟩ (fun c2282 => ?_) (fun c2282 => ?_))
      · exfalso
        omega
      · refine wp_of e104 c104_14 (rw_aload_n (pc' := 15) (v := .ref r0) rfl rfl rfl ?_)
        refine wp_of e104 c104_15 (rw_iload_n (pc' := 16) (z := z1865) rfl rfl ?_)
        refine wp_of e104 c104_16 (xc_V (pc' := 19) (r := r0) (as := [vI z1865]) (st := []) (lm_0_70) rfl rfl (Nat.le_of_ble_eq_true rfl) w1863 g0 sh_1 (by decide) rfl (by decide) (s_12 w1863 g0 ⟨Int.le_trans (by decide) b1866.1, Int.le_trans b1866.2 (by decide)⟩) (fun R2283 T2284 H2285 p2286 => ?_))
        obtain ⟨e2287, w2289, f2290, z2291, e2288, b2292⟩ := p2286
        subst e2287
        subst e2288
        have f2293 := f2281.tr f2290 rfl
        show wp _ _ 104 19 [(3, vI z1865), (0, .ref r0), (1, vI a1), (2, vI a2)] [vI z2291] _ H2285 _
        have h2294 : CEN T H2285 ce e d := (CEN_fr w1863 gce f2290 rfl a1877)
        exact wp_ireturn e104 c104_19 rfl ⟨rfl, w2289, f2293, z2291, rfl, ⟨b2292.1, b2292.2⟩, (h2294)⟩
  · show wp _ _ 104 6 [(0, .ref r0), (1, vI a1), (2, vI a2)] [vI z1850, .ref r0] _ H _
    refine wp_of e104 c104_6 (xc_V (pc' := 9) (r := r0) (as := [vI z1850]) (st := []) (lm_0_198) rfl rfl (Nat.le_of_ble_eq_true rfl) hW g0 sh_1 (by decide) rfl (by decide) (u_102 (e := e) (d := d) (n := n) hW g0 ⟨b1851.1, b1851.2⟩ qcu gcu qwa gwa qce gce (by assumption) (by assumption) (by omega) (by omega) (by omega) hCU_cu hCEN_ce hHDR_ce) (fun R2295 T2296 H2297 p2298 => ?_))
    obtain ⟨e2299, w2301, f2302, z2303, e2300, b2304, p2305⟩ := p2298
    subst e2299
    subst e2300
    rcases p2305 with ⟨a2306, a2307, a2308, a2309, a2310, a2311, a2312⟩ | ⟨a2313, a2314, a2315⟩
    · have f2316 := f0.tr f2302 rfl
      show wp _ _ 104 9 [(0, .ref r0), (1, vI a1), (2, vI a2)] [vI z2303] _ H2297 _
      refine wp_of e104 c104_9 (rw_istore_n (pc' := 10) (z := z2303) (L' := [(3, vI z2303), (0, .ref r0), (1, vI a1), (2, vI a2)]) rfl rfl rfl ?_)
      refine wp_of e104 c104_10 (rw_iload_n (pc' := 11) (z := z2303) rfl rfl ?_)
      refine wp_of e104 c104_11 (rw_if_eq (p1 := 20) (p2 := 14) (by decide) rfl ⟨Int.le_trans (by decide) b2304.1, Int.le_trans b2304.2 (by decide)⟩ (fun c2317 => ?_) (fun c2317 => ?_))
      · refine wp_of e104 c104_20 (rw_iload_n (pc' := 21) (z := a2) rfl rfl ?_)
        refine wp_of e104 c104_21 (rw_if_eq (p1 := 28) (p2 := 24) (by decide) rfl ⟨Int.le_trans (by decide) i2.1, Int.le_trans i2.2 (by decide)⟩ (fun c2318 => ?_) (fun c2318 => ?_))
        · refine wp_of e104 c104_28 (rw_iconst (pc' := 29) rfl ?_)
          refine wp_of e104 c104_29 (rw_istore (pc' := 31) (z := 0) (L' := [(4, vI 0), (3, vI z2303), (0, .ref r0), (1, vI a1), (2, vI a2)]) rfl rfl rfl ?_)
          refine wp_of e104 c104_31 (rw_iconst (pc' := 32) rfl ?_)
          refine wp_of e104 c104_32 (rw_istore (pc' := 34) (z := 0) (L' := [(5, vI 0), (4, vI 0), (3, vI z2303), (0, .ref r0), (1, vI a1), (2, vI a2)]) rfl rfl rfl ?_)
          refine wp_of e104 c104_34 (rw_iconst (pc' := 35) rfl ?_)
          refine wp_of e104 c104_35 (rw_istore (pc' := 37) (z := 0) (L' := [(6, vI 0), (5, vI 0), (4, vI 0), (3, vI z2303), (0, .ref r0), (1, vI a1), (2, vI a2)]) rfl rfl rfl ?_)
          have lp2473 : ∀ (n2474 : Nat) (v2476 : Int) (v2477 : Int), (0 ≤ v2476 ∧ v2476 ≤ 6) → (0 ≤ v2477 ∧ v2477 ≤ 16777215) → (6 - v2476).toNat = n2474 → wp kt 6 104 37 [(6, vI v2476), (5, vI v2477), (4, vI 0), (0, .ref r0), (1, vI a1)] [] T H2297 (uq_104 r0 a1 a2 cu wa ce e d n T H) := by
            intro n2474
            induction n2474 using Nat.strongRecOn with
            | _ n2474 ih2475 =>
              intro v2476 v2477 b2480 b2481 m2482
              refine wp_of e104 c104_37 (rw_iload (pc' := 39) (z := v2476) rfl rfl ?_)
              refine wp_of e104 c104_39 (rw_aload_n (pc' := 40) (v := .ref r0) rfl rfl rfl ?_)
              have k2483 : H2297 r0 6 = H r0 6 := (f2302 r0 6 _ g0 rfl)
              have q2484 : H2297 r0 6 = (cu : Int) := k2483.trans qcu
              refine wp_of e104 c104_40 (xg_K (pc' := 43) lf_0_51 w2301 g0 sh_1 (by decide) (by decide) rfl q2484 rfl ?_)
              have k2485 : H2297 cu 10 = H cu 10 := (f2302 cu 10 _ gcu rfl)
              refine wp_of e104 c104_43 (xg_I (pc' := 46) lf_0_96 w2301 gcu sh_27 (by decide) (by decide) ty_27_10 rfl rfl (fun b2486 b2487 => ?_))
              refine wp_of e104 c104_46 (rw_icmp_ge (p1 := 83) (p2 := 49) (by decide) rfl ⟨Int.le_trans (by decide) b2480.1, Int.le_trans b2480.2 (by decide)⟩ ⟨Int.le_trans (by decide) b2486, Int.le_trans b2487 (by decide)⟩ (fun c2488 => ?_) (fun c2488 => ?_))
              · refine wp_of e104 c104_83 (rw_aload_n (pc' := 84) (v := .ref r0) rfl rfl rfl ?_)
                refine wp_of e104 c104_84 (rw_iload (pc' := 86) (z := v2477) rfl rfl ?_)
                refine wp_of e104 c104_86 (xc_V (pc' := 89) (r := r0) (as := [vI v2477]) (st := []) (lm_0_99) rfl rfl (Nat.le_of_ble_eq_true rfl) w2301 g0 sh_1 (by decide) rfl (by decide) (s_51 w2301 g0 ⟨Int.le_trans (by decide) b2481.1, Int.le_trans b2481.2 (by decide)⟩) (fun R2489 T2490 H2491 p2492 => ?_))
                obtain ⟨e2493, w2495, f2496, z2497, e2494, b2498⟩ := p2492
                subst e2493
                subst e2494
                have f2499 := f2316.tr f2496 rfl
                show wp _ _ 104 89 [(6, vI v2476), (5, vI v2477), (4, vI 0), (0, .ref r0), (1, vI a1)] [vI z2497] _ H2491 _
                have h2500 : CEN T H2491 ce e d := (CEN_fr w2301 gce f2496 rfl a2310)
                exact wp_ireturn e104 c104_89 rfl ⟨rfl, w2495, f2499, z2497, rfl, ⟨b2498.1, b2498.2⟩, (h2500)⟩
              · refine wp_of e104 c104_49 (rw_aload_n (pc' := 50) (v := .ref r0) rfl rfl rfl ?_)
                have k2501 : H2297 r0 3 = H r0 3 := (f2302 r0 3 _ g0 rfl)
                have q2502 : H2297 r0 3 = (ce : Int) := k2501.trans qce
                refine wp_of e104 c104_50 (xg_K (pc' := 53) lf_0_30 w2301 g0 sh_1 (by decide) (by decide) rfl q2502 rfl ?_)
                refine wp_of e104 c104_53 (rw_aload_n (pc' := 54) (v := .ref r0) rfl rfl rfl ?_)
                refine wp_of e104 c104_54 (xg_K (pc' := 57) lf_0_51 w2301 g0 sh_1 (by decide) (by decide) rfl q2484 rfl ?_)
                refine wp_of e104 c104_57 (rw_iload (pc' := 59) (z := v2476) rfl rfl ?_)
                refine wp_of e104 c104_59 (rw_iload_n (pc' := 60) (z := a1) rfl rfl ?_)
                refine wp_of e104 c104_60 (xc_V (pc' := 63) (r := ce) (as := [.ref cu, vI v2476, vI a1]) (st := []) (lm_0_201) rfl rfl (Nat.le_of_ble_eq_true rfl) w2301 gce sh_12 (by decide) rfl (by decide) (s_103 w2301 gce gcu ⟨b2480.1, by omega⟩ ⟨i1.1, i1.2⟩) (fun R2503 T2504 H2505 p2506 => ?_))
                obtain ⟨e2507, e2509, z2510, e2508, b2511⟩ := p2506
                subst e2507
                subst e2508
                subst e2509
                show wp _ _ 104 63 [(6, vI v2476), (5, vI v2477), (4, vI 0), (0, .ref r0), (1, vI a1)] [vI z2510] _ H2297 _
                refine wp_of e104 c104_63 (rw_iload (pc' := 65) (z := 0) rfl rfl ?_)
                refine wp_of e104 c104_65 (rw_icmp_ne (p1 := 77) (p2 := 68) (by decide) rfl ⟨Int.le_trans (by decide) b2511.1, Int.le_trans b2511.2 (by decide)⟩ ⟨by decide, by decide⟩ (fun c2512 => ?_) (fun c2512 => ?_))
                · refine wp_of e104 c104_77 (rw_iinc (pc' := 80) (z := v2476) (L' := [(6, vI (v2476 + 1)), (5, vI v2477), (4, vI 0), (0, .ref r0), (1, vI a1)]) rfl rfl rfl rfl ?_)
                  refine wp_of e104 c104_80 (rw_goto (p1 := 37) (by decide) ?_)
                  exact wp_lc (ks := [6, 5, 4, 0, 1]) (wl_c rfl (wl_c rfl (wl_c rfl (wl_c rfl (wl_c rfl wl_n))))) rfl (by decide) (ih2475 _ (by omega) (v2476 + 1) v2477 ⟨by omega, by omega⟩ ⟨b2481.1, b2481.2⟩ rfl)
                · refine wp_of e104 c104_68 (rw_iload (pc' := 70) (z := v2477) rfl rfl ?_)
                  refine wp_of e104 c104_70 (rw_iconst (pc' := 71) rfl ?_)
                  refine wp_of e104 c104_71 (rw_iload (pc' := 73) (z := v2476) rfl rfl ?_)
                  refine wp_of e104 c104_73 (rw_ishl (pc' := 74) rfl ?_)
                  obtain ⟨v2513, e2514⟩ : ∃ x : Int, x = wq_shl 1 v2476 := ⟨_, rfl⟩
                  rw [← e2514]
                  have b2515 : 1 ≤ v2513 ∧ v2513 ≤ 64 := by
                    rw [e2514]
                    exact wq_shl1_6 ⟨by omega, by omega⟩
                  refine wp_of e104 c104_74 (rw_ior (pc' := 75) rfl ?_)
                  obtain ⟨v2516, e2517⟩ : ∃ x : Int, x = wq_or v2477 v2513 := ⟨_, rfl⟩
                  rw [← e2517]
                  have b2518 : 0 ≤ v2516 ∧ v2516 ≤ 16777215 := by
                    rw [e2517]
                    exact wq_or_24 ⟨by omega, by omega⟩ ⟨by omega, by omega⟩
                  refine wp_of e104 c104_75 (rw_istore (pc' := 77) (z := v2516) (L' := [(5, vI v2516), (6, vI v2476), (4, vI 0), (0, .ref r0), (1, vI a1)]) rfl rfl rfl ?_)
                  refine wp_of e104 c104_77 (rw_iinc (pc' := 80) (z := v2476) (L' := [(6, vI (v2476 + 1)), (5, vI v2516), (4, vI 0), (0, .ref r0), (1, vI a1)]) rfl rfl rfl rfl ?_)
                  refine wp_of e104 c104_80 (rw_goto (p1 := 37) (by decide) ?_)
                  exact wp_lc (ks := [6, 5, 4, 0, 1]) (wl_c rfl (wl_c rfl (wl_c rfl (wl_c rfl (wl_c rfl wl_n))))) rfl (by decide) (ih2475 _ (by omega) (v2476 + 1) v2516 ⟨by omega, by omega⟩ ⟨b2518.1, b2518.2⟩ rfl)
          exact wp_lc (ks := [6, 5, 4, 3, 0, 1, 2]) (wl_c rfl (wl_c rfl (wl_c rfl (wl_c rfl (wl_c rfl wl_n))))) rfl (by decide) (lp2473 _ 0 0 ⟨by decide, by decide⟩ ⟨by decide, by decide⟩ rfl)
        · refine wp_of e104 c104_24 (rw_iconst (pc' := 25) rfl ?_)
          refine wp_of e104 c104_25 (rw_goto (p1 := 29) (by decide) ?_)
          refine wp_of e104 c104_29 (rw_istore (pc' := 31) (z := 2) (L' := [(4, vI 2), (3, vI z2303), (0, .ref r0), (1, vI a1), (2, vI a2)]) rfl rfl rfl ?_)
          refine wp_of e104 c104_31 (rw_iconst (pc' := 32) rfl ?_)
          refine wp_of e104 c104_32 (rw_istore (pc' := 34) (z := 0) (L' := [(5, vI 0), (4, vI 2), (3, vI z2303), (0, .ref r0), (1, vI a1), (2, vI a2)]) rfl rfl rfl ?_)
          refine wp_of e104 c104_34 (rw_iconst (pc' := 35) rfl ?_)
          refine wp_of e104 c104_35 (rw_istore (pc' := 37) (z := 0) (L' := [(6, vI 0), (5, vI 0), (4, vI 2), (3, vI z2303), (0, .ref r0), (1, vI a1), (2, vI a2)]) rfl rfl rfl ?_)
          have lp2673 : ∀ (n2674 : Nat) (v2676 : Int) (v2677 : Int), (0 ≤ v2676 ∧ v2676 ≤ 6) → (0 ≤ v2677 ∧ v2677 ≤ 16777215) → (6 - v2676).toNat = n2674 → wp kt 6 104 37 [(6, vI v2676), (5, vI v2677), (4, vI 2), (0, .ref r0), (1, vI a1)] [] T H2297 (uq_104 r0 a1 a2 cu wa ce e d n T H) := by
            intro n2674
            induction n2674 using Nat.strongRecOn with
            | _ n2674 ih2675 =>
              intro v2676 v2677 b2680 b2681 m2682
              refine wp_of e104 c104_37 (rw_iload (pc' := 39) (z := v2676) rfl rfl ?_)
              refine wp_of e104 c104_39 (rw_aload_n (pc' := 40) (v := .ref r0) rfl rfl rfl ?_)
              have k2683 : H2297 r0 6 = H r0 6 := (f2302 r0 6 _ g0 rfl)
              have q2684 : H2297 r0 6 = (cu : Int) := k2683.trans qcu
              refine wp_of e104 c104_40 (xg_K (pc' := 43) lf_0_51 w2301 g0 sh_1 (by decide) (by decide) rfl q2684 rfl ?_)
              have k2685 : H2297 cu 10 = H cu 10 := (f2302 cu 10 _ gcu rfl)
              refine wp_of e104 c104_43 (xg_I (pc' := 46) lf_0_96 w2301 gcu sh_27 (by decide) (by decide) ty_27_10 rfl rfl (fun b2686 b2687 => ?_))
              refine wp_of e104 c104_46 (rw_icmp_ge (p1 := 83) (p2 := 49) (by decide) rfl ⟨Int.le_trans (by decide) b2680.1, Int.le_trans b2680.2 (by decide)⟩ ⟨Int.le_trans (by decide) b2686, Int.le_trans b2687 (by decide)⟩ (fun c2688 => ?_) (fun c2688 => ?_))
              · refine wp_of e104 c104_83 (rw_aload_n (pc' := 84) (v := .ref r0) rfl rfl rfl ?_)
                refine wp_of e104 c104_84 (rw_iload (pc' := 86) (z := v2677) rfl rfl ?_)
                refine wp_of e104 c104_86 (xc_V (pc' := 89) (r := r0) (as := [vI v2677]) (st := []) (lm_0_99) rfl rfl (Nat.le_of_ble_eq_true rfl) w2301 g0 sh_1 (by decide) rfl (by decide) (s_51 w2301 g0 ⟨Int.le_trans (by decide) b2681.1, Int.le_trans b2681.2 (by decide)⟩) (fun R2689 T2690 H2691 p2692 => ?_))
                obtain ⟨e2693, w2695, f2696, z2697, e2694, b2698⟩ := p2692
                subst e2693
                subst e2694
                have f2699 := f2316.tr f2696 rfl
                show wp _ _ 104 89 [(6, vI v2676), (5, vI v2677), (4, vI 2), (0, .ref r0), (1, vI a1)] [vI z2697] _ H2691 _
                have h2700 : CEN T H2691 ce e d := (CEN_fr w2301 gce f2696 rfl a2310)
                exact wp_ireturn e104 c104_89 rfl ⟨rfl, w2695, f2699, z2697, rfl, ⟨b2698.1, b2698.2⟩, (h2700)⟩
              · refine wp_of e104 c104_49 (rw_aload_n (pc' := 50) (v := .ref r0) rfl rfl rfl ?_)
                have k2701 : H2297 r0 3 = H r0 3 := (f2302 r0 3 _ g0 rfl)
                have q2702 : H2297 r0 3 = (ce : Int) := k2701.trans qce
                refine wp_of e104 c104_50 (xg_K (pc' := 53) lf_0_30 w2301 g0 sh_1 (by decide) (by decide) rfl q2702 rfl ?_)
                refine wp_of e104 c104_53 (rw_aload_n (pc' := 54) (v := .ref r0) rfl rfl rfl ?_)
                refine wp_of e104 c104_54 (xg_K (pc' := 57) lf_0_51 w2301 g0 sh_1 (by decide) (by decide) rfl q2684 rfl ?_)
                refine wp_of e104 c104_57 (rw_iload (pc' := 59) (z := v2676) rfl rfl ?_)
                refine wp_of e104 c104_59 (rw_iload_n (pc' := 60) (z := a1) rfl rfl ?_)
                refine wp_of e104 c104_60 (xc_V (pc' := 63) (r := ce) (as := [.ref cu, vI v2676, vI a1]) (st := []) (lm_0_201) rfl rfl (Nat.le_of_ble_eq_true rfl) w2301 gce sh_12 (by decide) rfl (by decide) (s_103 w2301 gce gcu ⟨b2680.1, by omega⟩ ⟨i1.1, i1.2⟩) (fun R2703 T2704 H2705 p2706 => ?_))
                obtain ⟨e2707, e2709, z2710, e2708, b2711⟩ := p2706
                subst e2707
                subst e2708
                subst e2709
                show wp _ _ 104 63 [(6, vI v2676), (5, vI v2677), (4, vI 2), (0, .ref r0), (1, vI a1)] [vI z2710] _ H2297 _
                refine wp_of e104 c104_63 (rw_iload (pc' := 65) (z := 2) rfl rfl ?_)
                refine wp_of e104 c104_65 (rw_icmp_ne (p1 := 77) (p2 := 68) (by decide) rfl ⟨Int.le_trans (by decide) b2711.1, Int.le_trans b2711.2 (by decide)⟩ ⟨by decide, by decide⟩ (fun c2712 => ?_) (fun c2712 => ?_))
                · refine wp_of e104 c104_77 (rw_iinc (pc' := 80) (z := v2676) (L' := [(6, vI (v2676 + 1)), (5, vI v2677), (4, vI 2), (0, .ref r0), (1, vI a1)]) rfl rfl rfl rfl ?_)
                  refine wp_of e104 c104_80 (rw_goto (p1 := 37) (by decide) ?_)
                  exact wp_lc (ks := [6, 5, 4, 0, 1]) (wl_c rfl (wl_c rfl (wl_c rfl (wl_c rfl (wl_c rfl wl_n))))) rfl (by decide) (ih2675 _ (by omega) (v2676 + 1) v2677 ⟨by omega, by omega⟩ ⟨b2681.1, b2681.2⟩ rfl)
                · refine wp_of e104 c104_68 (rw_iload (pc' := 70) (z := v2677) rfl rfl ?_)
                  refine wp_of e104 c104_70 (rw_iconst (pc' := 71) rfl ?_)
                  refine wp_of e104 c104_71 (rw_iload (pc' := 73) (z := v2676) rfl rfl ?_)
                  refine wp_of e104 c104_73 (rw_ishl (pc' := 74) rfl ?_)
                  obtain ⟨v2713, e2714⟩ : ∃ x : Int, x = wq_shl 1 v2676 := ⟨_, rfl⟩
                  rw [← e2714]
                  have b2715 : 1 ≤ v2713 ∧ v2713 ≤ 64 := by
                    rw [e2714]
                    exact wq_shl1_6 ⟨by omega, by omega⟩
                  refine wp_of e104 c104_74 (rw_ior (pc' := 75) rfl ?_)
                  obtain ⟨v2716, e2717⟩ : ∃ x : Int, x = wq_or v2677 v2713 := ⟨_, rfl⟩
                  rw [← e2717]
                  have b2718 : 0 ≤ v2716 ∧ v2716 ≤ 16777215 := by
                    rw [e2717]
                    exact wq_or_24 ⟨by omega, by omega⟩ ⟨by omega, by omega⟩
                  refine wp_of e104 c104_75 (rw_istore (pc' := 77) (z := v2716) (L' := [(5, vI v2716), (6, vI v2676), (4, vI 2), (0, .ref r0), (1, vI a1)]) rfl rfl rfl ?_)
                  refine wp_of e104 c104_77 (rw_iinc (pc' := 80) (z := v2676) (L' := [(6, vI (v2676 + 1)), (5, vI v2716), (4, vI 2), (0, .ref r0), (1, vI a1)]) rfl rfl rfl rfl ?_)
                  refine wp_of e104 c104_80 (rw_goto (p1 := 37) (by decide) ?_)
                  exact wp_lc (ks := [6, 5, 4, 0, 1]) (wl_c rfl (wl_c rfl (wl_c rfl (wl_c rfl (wl_c rfl wl_n))))) rfl (by decide) (ih2675 _ (by omega) (v2676 + 1) v2716 ⟨by omega, by omega⟩ ⟨b2718.1, b2718.2⟩ rfl)
          exact wp_lc (ks := [6, 5, 4, 3, 0, 1, 2]) (wl_c rfl (wl_c rfl (wl_c rfl (wl_c rfl (wl_c rfl wl_n))))) rfl (by decide) (lp2673 _ 0 0 ⟨by decide, by decide⟩ ⟨by decide, by decide⟩ rfl)
      · exfalso
        omega
    · have f2719 := f0.tr f2302 rfl
      show wp _ _ 104 9 [(0, .ref r0), (1, vI a1), (2, vI a2)] [vI z2303] _ H2297 _
      refine wp_of e104 c104_9 (rw_istore_n (pc' := 10) (z := z2303) (L' := [(3, vI z2303), (0, .ref r0), (1, vI a1), (2, vI a2)]) rfl rfl rfl ?_)
      refine wp_of e104 c104_10 (rw_iload_n (pc' := 11) (z := z2303) rfl rfl ?_)
      refine wp_of e104 c104_11 (rw_if_eq (p1 := 20) (p2 := 14) (by decide) rfl ⟨Int.le_trans (by decide) b2304.1, Int.le_trans b2304.2 (by decide)⟩ (fun c2720 => ?_) (fun c2720 => ?_))
      · exfalso
        omega
      · refine wp_of e104 c104_14 (rw_aload_n (pc' := 15) (v := .ref r0) rfl rfl rfl ?_)
        refine wp_of e104 c104_15 (rw_iload_n (pc' := 16) (z := z2303) rfl rfl ?_)
        refine wp_of e104 c104_16 (xc_V (pc' := 19) (r := r0) (as := [vI z2303]) (st := []) (lm_0_70) rfl rfl (Nat.le_of_ble_eq_true rfl) w2301 g0 sh_1 (by decide) rfl (by decide) (s_12 w2301 g0 ⟨Int.le_trans (by decide) b2304.1, Int.le_trans b2304.2 (by decide)⟩) (fun R2721 T2722 H2723 p2724 => ?_))
        obtain ⟨e2725, w2727, f2728, z2729, e2726, b2730⟩ := p2724
        subst e2725
        subst e2726
        have f2731 := f2719.tr f2728 rfl
        show wp _ _ 104 19 [(3, vI z2303), (0, .ref r0), (1, vI a1), (2, vI a2)] [vI z2729] _ H2723 _
        have h2732 : CEN T H2723 ce e d := (CEN_fr w2301 gce f2728 rfl a2315)
        exact wp_ireturn e104 c104_19 rfl ⟨rfl, w2727, f2731, z2729, rfl, ⟨b2730.1, b2730.2⟩, (h2732)⟩
/-! StrikeAwake.chance(II)I  -/
abbrev uq_105 (r0 : Nat) (a1 : Int) (a2 : Int) (cu : Nat) (wa : Nat) (ce : Nat) (e : xD) (d : xD) (n : Int) (T : wq_T) (H : wq_H) : Option Value → wq_T → wq_H → Prop := fun r T' H' => T = T' ∧ WT T H' ∧ wfr [(12, 5), (12, 6), (12, 7), (12, 8), (12, 9), (1, 10), (6, 5), (8, 999), (10, 999), (15, 999), (9, 999), (18, 999), (19, 999), (7, 999), (11, 999), (17, 999), (13, 999)] T H H' ∧ ∃ z : Int, some (vI z) = r ∧ ((-2147483648) ≤ z ∧ z ≤ 2147483647) ∧ ((CEN T H' ce e d))
set_option maxHeartbeats 4000000 in
theorem u_105 {kt : Nat → Option mc_E} {T : wq_T} {H : wq_H} {r0 : Nat} {a1 : Int} {a2 : Int} {cu : Nat} {wa : Nat} {ce : Nat} {e : xD} {d : xD} {n : Int} (hW : WT T H) (g0 : T.2.2.2 r0 = some 1) (i1 : (-2147483648) ≤ a1 ∧ a1 ≤ 2147483647) (i2 : (-2147483648) ≤ a2 ∧ a2 ≤ 2147483647) (qcu : H r0 6 = (cu : Int)) (gcu : T.2.2.2 cu = some 27) (qwa : H r0 2 = (wa : Int)) (gwa : T.2.2.2 wa = some 6) (qce : H r0 3 = (ce : Int)) (gce : T.2.2.2 ce = some 12) (p0 : ∀ i, i ≠ 13 → e i = d i) (p1 : XW d) (p2 : e 0 3 = d 0 3) (p3 : e 0 0 = d 0 0) (p4 : H r0 8 = 0 ∨ n = xlots d) (p5 : H r0 8 ≠ 0 ∨ (d 0 3 = 0 ∧ d 0 0 = 0)) (hCU_cu : CU T H cu e d n) (hCEN_ce : CEN T H ce e d) (hHDR_ce : HDR T H ce ) : wpc kt 7 105 [.ref r0, vI a1, vI a2] T H (uq_105 r0 a1 a2 cu wa ce e d n T H) := by
  refine wp_enter e105 (Nat.le_of_ble_eq_true rfl) rfl ?_
  have f0 : wfr [(12, 5), (12, 6), (12, 7), (12, 8), (12, 9), (1, 10), (6, 5), (8, 999), (10, 999), (15, 999), (9, 999), (18, 999), (19, 999), (7, 999), (11, 999), (17, 999), (13, 999)] T H H := wfr.rf
  show wp _ _ 105 0 [(0, .ref r0), (1, vI a1), (2, vI a2)] [] _ H _
  have u1213 := CU_k hCU_cu
  have b1214 : 0 ≤ H r0 8 ∧ H r0 8 ≤ 1 := hW.box g0 (n := 13) rfl (by decide) rfl
  have _c7 : d 0 0 ≤ 24 := p1.2.1.2.1
  refine wp_of e105 c105_0 (rw_aload_n (pc' := 1) (v := .ref r0) rfl rfl rfl ?_)
  refine wp_of e105 c105_1 (rw_aload_n (pc' := 2) (v := .ref r0) rfl rfl rfl ?_)
  refine wp_of e105 c105_2 (rw_iload_n (pc' := 3) (z := a1) rfl rfl ?_)
  refine wp_of e105 c105_3 (xc_V (pc' := 6) (r := r0) (as := [vI a1]) (st := [.ref r0]) (lm_0_105) rfl rfl (Nat.le_of_ble_eq_true rfl) hW g0 sh_1 (by decide) rfl (by decide) (u_55  hW g0 ⟨i1.1, i1.2⟩ qcu gcu) (fun R1215 T1216 H1217 p1218 => ?_))
  obtain ⟨e1219, e1221, z1222, e1220, b1223, p1224⟩ := p1218
  subst e1219
  subst e1220
  subst e1221
  rcases p1224 with ⟨a1225, a1226⟩ | ⟨a1227, a1228⟩
  · show wp _ _ 105 6 [(0, .ref r0), (1, vI a1), (2, vI a2)] [vI z1222, .ref r0] _ H _
    refine wp_of e105 c105_6 (rw_if_eq (p1 := 21) (p2 := 9) (by decide) rfl ⟨Int.le_trans (by decide) b1223.1, Int.le_trans b1223.2 (by decide)⟩ (fun c1229 => ?_) (fun c1229 => ?_))
    · exfalso
      omega
    · refine wp_of e105 c105_9 (rw_aload_n (pc' := 10) (v := .ref r0) rfl rfl rfl ?_)
      refine wp_of e105 c105_10 (rw_iload_n (pc' := 11) (z := a2) rfl rfl ?_)
      refine wp_of e105 c105_11 (xc_V (pc' := 14) (r := r0) (as := [vI a2]) (st := [.ref r0]) (lm_0_132) rfl rfl (Nat.le_of_ble_eq_true rfl) hW g0 sh_1 (by decide) rfl (by decide) (u_60  hW g0 ⟨i2.1, i2.2⟩ qcu gcu) (fun R1230 T1231 H1232 p1233 => ?_))
      obtain ⟨e1234, e1236, z1237, e1235, b1238, p1239⟩ := p1233
      subst e1234
      subst e1235
      subst e1236
      rcases p1239 with ⟨a1240, a1241⟩ | ⟨a1242, a1243⟩
      · show wp _ _ 105 14 [(0, .ref r0), (1, vI a1), (2, vI a2)] [vI z1237, .ref r0] _ H _
        refine wp_of e105 c105_14 (rw_if_eq (p1 := 21) (p2 := 17) (by decide) rfl ⟨Int.le_trans (by decide) b1238.1, Int.le_trans b1238.2 (by decide)⟩ (fun c1244 => ?_) (fun c1244 => ?_))
        · exfalso
          omega
        · refine wp_of e105 c105_17 (rw_iconst (pc' := 18) rfl ?_)
          refine wp_of e105 c105_18 (rw_goto (p1 := 22) (by decide) ?_)
          refine wp_of e105 c105_22 (xc_V (pc' := 25) (r := r0) (as := [vI 1]) (st := []) (lm_0_198) rfl rfl (Nat.le_of_ble_eq_true rfl) hW g0 sh_1 (by decide) rfl (by decide) (u_102 (e := e) (d := d) (n := n) hW g0 ⟨by decide, by decide⟩ qcu gcu qwa gwa qce gce (by assumption) (by assumption) (by omega) (by omega) (by omega) hCU_cu hCEN_ce hHDR_ce) (fun R1245 T1246 H1247 p1248 => ?_))
          obtain ⟨e1249, w1251, f1252, z1253, e1250, b1254, p1255⟩ := p1248
          subst e1249
          subst e1250
          rcases p1255 with ⟨a1256, a1257, a1258, a1259, a1260, a1261, a1262⟩ | ⟨a1263, a1264, a1265⟩
          · have f1266 := f0.tr f1252 rfl
            show wp _ _ 105 25 [(0, .ref r0), (1, vI a1), (2, vI a2)] [vI z1253] _ H1247 _
            refine wp_of e105 c105_25 (rw_istore_n (pc' := 26) (z := z1253) (L' := [(3, vI z1253), (0, .ref r0), (1, vI a1), (2, vI a2)]) rfl rfl rfl ?_)
            refine wp_of e105 c105_26 (rw_iload_n (pc' := 27) (z := z1253) rfl rfl ?_)
            refine wp_of e105 c105_27 (rw_if_eq (p1 := 36) (p2 := 30) (by decide) rfl ⟨Int.le_trans (by decide) b1254.1, Int.le_trans b1254.2 (by decide)⟩ (fun c1267 => ?_) (fun c1267 => ?_))
            · refine wp_of e105 c105_36 (rw_aload_n (pc' := 37) (v := .ref r0) rfl rfl rfl ?_)
              refine wp_of e105 c105_37 (rw_aload_n (pc' := 38) (v := .ref r0) rfl rfl rfl ?_)
              have k1268 : H1247 r0 3 = H r0 3 := (f1252 r0 3 _ g0 rfl)
              have q1269 : H1247 r0 3 = (ce : Int) := k1268.trans qce
              refine wp_of e105 c105_38 (xg_K (pc' := 41) lf_0_30 w1251 g0 sh_1 (by decide) (by decide) rfl q1269 rfl ?_)
              refine wp_of e105 c105_41 (rw_aload_n (pc' := 42) (v := .ref r0) rfl rfl rfl ?_)
              have k1270 : H1247 r0 6 = H r0 6 := (f1252 r0 6 _ g0 rfl)
              have q1271 : H1247 r0 6 = (cu : Int) := k1270.trans qcu
              refine wp_of e105 c105_42 (xg_K (pc' := 45) lf_0_51 w1251 g0 sh_1 (by decide) (by decide) rfl q1271 rfl ?_)
              refine wp_of e105 c105_45 (rw_iload_n (pc' := 46) (z := a1) rfl rfl ?_)
              refine wp_of e105 c105_46 (rw_iload_n (pc' := 47) (z := a2) rfl rfl ?_)
              refine wp_of e105 c105_47 (xc_V (pc' := 50) (r := ce) (as := [.ref cu, vI a1, vI a2]) (st := [.ref r0]) (lm_0_204) rfl rfl (Nat.le_of_ble_eq_true rfl) w1251 gce sh_12 (by decide) rfl (by decide) (s_106 w1251 gce gcu ⟨by omega, by omega⟩ ⟨i2.1, i2.2⟩) (fun R1272 T1273 H1274 p1275 => ?_))
              obtain ⟨e1276, e1278, z1279, e1277, b1280⟩ := p1275
              subst e1276
              subst e1277
              subst e1278
              show wp _ _ 105 50 [(3, vI z1253), (0, .ref r0), (1, vI a1), (2, vI a2)] [vI z1279, .ref r0] _ H1247 _
              refine wp_of e105 c105_50 (xc_V (pc' := 53) (r := r0) (as := [vI z1279]) (st := []) (lm_0_99) rfl rfl (Nat.le_of_ble_eq_true rfl) w1251 g0 sh_1 (by decide) rfl (by decide) (s_51 w1251 g0 ⟨b1280.1, b1280.2⟩) (fun R1281 T1282 H1283 p1284 => ?_))
              obtain ⟨e1285, w1287, f1288, z1289, e1286, b1290⟩ := p1284
              subst e1285
              subst e1286
              have f1291 := f1266.tr f1288 rfl
              show wp _ _ 105 53 [(3, vI z1253), (0, .ref r0), (1, vI a1), (2, vI a2)] [vI z1289] _ H1283 _
              have h1292 : CEN T H1283 ce e d := (CEN_fr w1251 gce f1288 rfl a1260)
              exact wp_ireturn e105 c105_53 rfl ⟨rfl, w1287, f1291, z1289, rfl, ⟨b1290.1, b1290.2⟩, (h1292)⟩
            · exfalso
              omega
          · have f1293 := f0.tr f1252 rfl
            show wp _ _ 105 25 [(0, .ref r0), (1, vI a1), (2, vI a2)] [vI z1253] _ H1247 _
            refine wp_of e105 c105_25 (rw_istore_n (pc' := 26) (z := z1253) (L' := [(3, vI z1253), (0, .ref r0), (1, vI a1), (2, vI a2)]) rfl rfl rfl ?_)
            refine wp_of e105 c105_26 (rw_iload_n (pc' := 27) (z := z1253) rfl rfl ?_)
            refine wp_of e105 c105_27 (rw_if_eq (p1 := 36) (p2 := 30) (by decide) rfl ⟨Int.le_trans (by decide) b1254.1, Int.le_trans b1254.2 (by decide)⟩ (fun c1294 => ?_) (fun c1294 => ?_))
            · exfalso
              omega
            · refine wp_of e105 c105_30 (rw_aload_n (pc' := 31) (v := .ref r0) rfl rfl rfl ?_)
              refine wp_of e105 c105_31 (rw_iload_n (pc' := 32) (z := z1253) rfl rfl ?_)
              refine wp_of e105 c105_32 (xc_V (pc' := 35) (r := r0) (as := [vI z1253]) (st := []) (lm_0_70) rfl rfl (Nat.le_of_ble_eq_true rfl) w1251 g0 sh_1 (by decide) rfl (by decide) (s_12 w1251 g0 ⟨Int.le_trans (by decide) b1254.1, Int.le_trans b1254.2 (by decide)⟩) (fun R1295 T1296 H1297 p1298 => ?_))
              obtain ⟨e1299, w1301, f1302, z1303, e1300, b1304⟩ := p1298
              subst e1299
              subst e1300
              have f1305 := f1293.tr f1302 rfl
              show wp _ _ 105 35 [(3, vI z1253), (0, .ref r0), (1, vI a1), (2, vI a2)] [vI z1303] _ H1297 _
              have h1306 : CEN T H1297 ce e d := (CEN_fr w1251 gce f1302 rfl a1265)
              exact wp_ireturn e105 c105_35 rfl ⟨rfl, w1301, f1305, z1303, rfl, ⟨b1304.1, b1304.2⟩, (h1306)⟩
      · show wp _ _ 105 14 [(0, .ref r0), (1, vI a1), (2, vI a2)] [vI z1237, .ref r0] _ H _
        refine wp_of e105 c105_14 (rw_if_eq (p1 := 21) (p2 := 17) (by decide) rfl ⟨Int.le_trans (by decide) b1238.1, Int.le_trans b1238.2 (by decide)⟩ (fun c1307 => ?_) (fun c1307 => ?_))
        · refine wp_of e105 c105_21 (rw_iconst (pc' := 22) rfl ?_)
          refine wp_of e105 c105_22 (xc_V (pc' := 25) (r := r0) (as := [vI 0]) (st := []) (lm_0_198) rfl rfl (Nat.le_of_ble_eq_true rfl) hW g0 sh_1 (by decide) rfl (by decide) (u_102 (e := e) (d := d) (n := n) hW g0 ⟨by decide, by decide⟩ qcu gcu qwa gwa qce gce (by assumption) (by assumption) (by omega) (by omega) (by omega) hCU_cu hCEN_ce hHDR_ce) (fun R1308 T1309 H1310 p1311 => ?_))
          obtain ⟨e1312, w1314, f1315, z1316, e1313, b1317, p1318⟩ := p1311
          subst e1312
          subst e1313
          rcases p1318 with ⟨a1319, a1320, a1321, a1322, a1323, a1324, a1325⟩ | ⟨a1326, a1327, a1328⟩
          · have f1329 := f0.tr f1315 rfl
            show wp _ _ 105 25 [(0, .ref r0), (1, vI a1), (2, vI a2)] [vI z1316] _ H1310 _
            refine wp_of e105 c105_25 (rw_istore_n (pc' := 26) (z := z1316) (L' := [(3, vI z1316), (0, .ref r0), (1, vI a1), (2, vI a2)]) rfl rfl rfl ?_)
            refine wp_of e105 c105_26 (rw_iload_n (pc' := 27) (z := z1316) rfl rfl ?_)
            refine wp_of e105 c105_27 (rw_if_eq (p1 := 36) (p2 := 30) (by decide) rfl ⟨Int.le_trans (by decide) b1317.1, Int.le_trans b1317.2 (by decide)⟩ (fun c1330 => ?_) (fun c1330 => ?_))
            · refine wp_of e105 c105_36 (rw_aload_n (pc' := 37) (v := .ref r0) rfl rfl rfl ?_)
              refine wp_of e105 c105_37 (rw_aload_n (pc' := 38) (v := .ref r0) rfl rfl rfl ?_)
              have k1331 : H1310 r0 3 = H r0 3 := (f1315 r0 3 _ g0 rfl)
              have q1332 : H1310 r0 3 = (ce : Int) := k1331.trans qce
              refine wp_of e105 c105_38 (xg_K (pc' := 41) lf_0_30 w1314 g0 sh_1 (by decide) (by decide) rfl q1332 rfl ?_)
              refine wp_of e105 c105_41 (rw_aload_n (pc' := 42) (v := .ref r0) rfl rfl rfl ?_)
              have k1333 : H1310 r0 6 = H r0 6 := (f1315 r0 6 _ g0 rfl)
              have q1334 : H1310 r0 6 = (cu : Int) := k1333.trans qcu
              refine wp_of e105 c105_42 (xg_K (pc' := 45) lf_0_51 w1314 g0 sh_1 (by decide) (by decide) rfl q1334 rfl ?_)
              refine wp_of e105 c105_45 (rw_iload_n (pc' := 46) (z := a1) rfl rfl ?_)
              refine wp_of e105 c105_46 (rw_iload_n (pc' := 47) (z := a2) rfl rfl ?_)
              refine wp_of e105 c105_47 (xc_V (pc' := 50) (r := ce) (as := [.ref cu, vI a1, vI a2]) (st := [.ref r0]) (lm_0_204) rfl rfl (Nat.le_of_ble_eq_true rfl) w1314 gce sh_12 (by decide) rfl (by decide) (s_106 w1314 gce gcu ⟨by omega, by omega⟩ ⟨i2.1, i2.2⟩) (fun R1335 T1336 H1337 p1338 => ?_))
              obtain ⟨e1339, e1341, z1342, e1340, b1343⟩ := p1338
              subst e1339
              subst e1340
              subst e1341
              show wp _ _ 105 50 [(3, vI z1316), (0, .ref r0), (1, vI a1), (2, vI a2)] [vI z1342, .ref r0] _ H1310 _
              refine wp_of e105 c105_50 (xc_V (pc' := 53) (r := r0) (as := [vI z1342]) (st := []) (lm_0_99) rfl rfl (Nat.le_of_ble_eq_true rfl) w1314 g0 sh_1 (by decide) rfl (by decide) (s_51 w1314 g0 ⟨b1343.1, b1343.2⟩) (fun R1344 T1345 H1346 p1347 => ?_))
              obtain ⟨e1348, w1350, f1351, z1352, e1349, b1353⟩ := p1347
              subst e1348
              subst e1349
              have f1354 := f1329.tr f1351 rfl
              show wp _ _ 105 53 [(3, vI z1316), (0, .ref r0), (1, vI a1), (2, vI a2)] [vI z1352] _ H1346 _
              have h1355 : CEN T H1346 ce e d := (CEN_fr w1314 gce f1351 rfl a1323)
              exact wp_ireturn e105 c105_53 rfl ⟨rfl, w1350, f1354, z1352, rfl, ⟨b1353.1, b1353.2⟩, (h1355)⟩
            · exfalso
              omega
          · have f1356 := f0.tr f1315 rfl
            show wp _ _ 105 25 [(0, .ref r0), (1, vI a1), (2, vI a2)] [vI z1316] _ H1310 _
            refine wp_of e105 c105_25 (rw_istore_n (pc' := 26) (z := z1316) (L' := [(3, vI z1316), (0, .ref r0), (1, vI a1), (2, vI a2)]) rfl rfl rfl ?_)
            refine wp_of e105 c105_26 (rw_iload_n (pc' := 27) (z := z1316) rfl rfl ?_)
            refine wp_of e105 c105_27 (rw_if_eq (p1 := 36) (p2 := 30) (by decide) rfl ⟨Int.le_trans (by decide) b1317.1, Int.le_trans b1317.2 (by decide)⟩ (fun c1357 => ?_) (fun c1357 => ?_))
            · exfalso
              omega
            · refine wp_of e105 c105_30 (rw_aload_n (pc' := 31) (v := .ref r0) rfl rfl rfl ?_)
              refine wp_of e105 c105_31 (rw_iload_n (pc' := 32) (z := z1316) rfl rfl ?_)
              refine wp_of e105 c105_32 (xc_V (pc' := 35) (r := r0) (as := [vI z1316]) (st := []) (lm_0_70) rfl rfl (Nat.le_of_ble_eq_true rfl) w1314 g0 sh_1 (by decide) rfl (by decide) (s_12 w1314 g0 ⟨Int.le_trans (by decide) b1317.1, Int.le_trans b1317.2 (by decide)⟩) (fun R1358 T1359 H1360 p1361 => ?_))
              obtain ⟨e1362, w1364, f1365, z1366, e1363, b1367⟩ := p1361
              subst e1362
              subst e1363
              have f1368 := f1356.tr f1365 rfl
              show wp _ _ 105 35 [(3, vI z1316), (0, .ref r0), (1, vI a1), (2, vI a2)] [vI z1366] _ H1360 _
              have h1369 : CEN T H1360 ce e d := (CEN_fr w1314 gce f1365 rfl a1328)
              exact wp_ireturn e105 c105_35 rfl ⟨rfl, w1364, f1368, z1366, rfl, ⟨b1367.1, b1367.2⟩, (h1369)⟩
        · exfalso
          omega
  · show wp _ _ 105 6 [(0, .ref r0), (1, vI a1), (2, vI a2)] [vI z1222, .ref r0] _ H _
    refine wp_of e105 c105_6 (rw_if_eq (p1 := 21) (p2 := 9) (by decide) rfl ⟨Int.le_trans (by decide) b1223.1, Int.le_trans b1223.2 (by decide)⟩ (fun c1370 => ?_) (fun c1370 => ?_))
    · refine wp_of e105 c105_21 (rw_iconst (pc' := 22) rfl ?_)
      refine wp_of e105 c105_22 (xc_V (pc' := 25) (r := r0) (as := [vI 0]) (st := []) (lm_0_198) rfl rfl (Nat.le_of_ble_eq_true rfl) hW g0 sh_1 (by decide) rfl (by decide) (u_102 (e := e) (d := d) (n := n) hW g0 ⟨by decide, by decide⟩ qcu gcu qwa gwa qce gce (by assumption) (by assumption) (by omega) (by omega) (by omega) hCU_cu hCEN_ce hHDR_ce) (fun R1371 T1372 H1373 p1374 => ?_))
      obtain ⟨e1375, w1377, f1378, z1379, e1376, b1380, p1381⟩ := p1374
      subst e1375
      subst e1376
      rcases p1381 with ⟨a1382, a1383, a1384, a1385, a1386, a1387, a1388⟩ | ⟨a1389, a1390, a1391⟩
      · have f1392 := f0.tr f1378 rfl
        show wp _ _ 105 25 [(0, .ref r0), (1, vI a1), (2, vI a2)] [vI z1379] _ H1373 _
        refine wp_of e105 c105_25 (rw_istore_n (pc' := 26) (z := z1379) (L' := [(3, vI z1379), (0, .ref r0), (1, vI a1), (2, vI a2)]) rfl rfl rfl ?_)
        refine wp_of e105 c105_26 (rw_iload_n (pc' := 27) (z := z1379) rfl rfl ?_)
        refine wp_of e105 c105_27 (rw_if_eq (p1 := 36) (p2 := 30) (by decide) rfl ⟨Int.le_trans (by decide) b1380.1, Int.le_trans b1380.2 (by decide)⟩ (fun c1393 => ?_) (fun c1393 => ?_))
        · refine wp_of e105 c105_36 (rw_aload_n (pc' := 37) (v := .ref r0) rfl rfl rfl ?_)
          refine wp_of e105 c105_37 (rw_aload_n (pc' := 38) (v := .ref r0) rfl rfl rfl ?_)
          have k1394 : H1373 r0 3 = H r0 3 := (f1378 r0 3 _ g0 rfl)
          have q1395 : H1373 r0 3 = (ce : Int) := k1394.trans qce
          refine wp_of e105 c105_38 (xg_K (pc' := 41) lf_0_30 w1377 g0 sh_1 (by decide) (by decide) rfl q1395 rfl ?_)
          refine wp_of e105 c105_41 (rw_aload_n (pc' := 42) (v := .ref r0) rfl rfl rfl ?_)
          have k1396 : H1373 r0 6 = H r0 6 := (f1378 r0 6 _ g0 rfl)
          have q1397 : H1373 r0 6 = (cu : Int) := k1396.trans qcu
          refine wp_of e105 c105_42 (xg_K (pc' := 45) lf_0_51 w1377 g0 sh_1 (by decide) (by decide) rfl q1397 rfl ?_)
          refine wp_of e105 c105_45 (rw_iload_n (pc' := 46) (z := a1) rfl rfl ?_)
          refine wp_of e105 c105_46 (rw_iload_n (pc' := 47) (z := a2) rfl rfl ?_)
          refine wp_of e105 c105_47 (xc_V (pc' := 50) (r := ce) (as := [.ref cu, vI a1, vI a2]) (st := [.ref r0]) (lm_0_204) rfl rfl (Nat.le_of_ble_eq_true rfl) w1377 gce sh_12 (by decide) rfl (by decide) (s_106 w1377 gce gcu ⟨by omega, by omega⟩ ⟨i2.1, i2.2⟩) (fun R1398 T1399 H1400 p1401 => ?_))
          obtain ⟨e1402, e1404, z1405, e1403, b1406⟩ := p1401
          subst e1402
          subst e1403
          subst e1404
          show wp _ _ 105 50 [(3, vI z1379), (0, .ref r0), (1, vI a1), (2, vI a2)] [vI z1405, .ref r0] _ H1373 _
          refine wp_of e105 c105_50 (xc_V (pc' := 53) (r := r0) (as := [vI z1405]) (st := []) (lm_0_99) rfl rfl (Nat.le_of_ble_eq_true rfl) w1377 g0 sh_1 (by decide) rfl (by decide) (s_51 w1377 g0 ⟨b1406.1, b1406.2⟩) (fun R1407 T1408 H1409 p1410 => ?_))
          obtain ⟨e1411, w1413, f1414, z1415, e1412, b1416⟩ := p1410
          subst e1411
          subst e1412
          have f1417 := f1392.tr f1414 rfl
          show wp _ _ 105 53 [(3, vI z1379), (0, .ref r0), (1, vI a1), (2, vI a2)] [vI z1415] _ H1409 _
          have h1418 : CEN T H1409 ce e d := (CEN_fr w1377 gce f1414 rfl a1386)
          exact wp_ireturn e105 c105_53 rfl ⟨rfl, w1413, f1417, z1415, rfl, ⟨b1416.1, b1416.2⟩, (h1418)⟩
        · exfalso
          omega
      · have f1419 := f0.tr f1378 rfl
        show wp _ _ 105 25 [(0, .ref r0), (1, vI a1), (2, vI a2)] [vI z1379] _ H1373 _
        refine wp_of e105 c105_25 (rw_istore_n (pc' := 26) (z := z1379) (L' := [(3, vI z1379), (0, .ref r0), (1, vI a1), (2, vI a2)]) rfl rfl rfl ?_)
        refine wp_of e105 c105_26 (rw_iload_n (pc' := 27) (z := z1379) rfl rfl ?_)
        refine wp_of e105 c105_27 (rw_if_eq (p1 := 36) (p2 := 30) (by decide) rfl ⟨Int.le_trans (by decide) b1380.1, Int.le_trans b1380.2 (by decide)⟩ (fun c1420 => ?_) (fun c1420 => ?_))
        · exfalso
          omega
        · refine wp_of e105 c105_30 (rw_aload_n (pc' := 31) (v := .ref r0) rfl rfl rfl ?_)
          refine wp_of e105 c105_31 (rw_iload_n (pc' := 32) (z := z1379) rfl rfl ?_)
          refine wp_of e105 c105_32 (xc_V (pc' := 35) (r := r0) (as := [vI z1379]) (st := []) (lm_0_70) rfl rfl (Nat.le_of_ble_eq_true rfl) w1377 g0 sh_1 (by decide) rfl (by decide) (s_12 w1377 g0 ⟨Int.le_trans (by decide) b1380.1, Int.le_trans b1380.2 (by decide)⟩) (fun R1421 T1422 H1423 p1424 => ?_))
          obtain ⟨e1425, w1427, f1428, z1429, e1426, b1430⟩ := p1424
          subst e1425
          subst e1426
          have f1431 := f1419.tr f1428 rfl
          show wp _ _ 105 35 [(3, vI z1379), (0, .ref r0), (1, vI a1), (2, vI a2)] [vI z1429] _ H1423 _
          have h1432 : CEN T H1423 ce e d := (CEN_fr w1377 gce f1428 rfl a1391)
          exact wp_ireturn e105 c105_35 rfl ⟨rfl, w1427, f1431, z1429, rfl, ⟨b1430.1, b1430.2⟩, (h1432)⟩
    · exfalso
      omega
/-! StrikeAwake.likeliest(I)I  -/
abbrev uq_107 (r0 : Nat) (a1 : Int) (cu : Nat) (wa : Nat) (ce : Nat) (e : xD) (d : xD) (n : Int) (T : wq_T) (H : wq_H) : Option Value → wq_T → wq_H → Prop := fun r T' H' => T = T' ∧ WT T H' ∧ wfr [(12, 5), (12, 6), (12, 7), (12, 8), (12, 9), (1, 10), (6, 5), (8, 999), (10, 999), (15, 999), (9, 999), (18, 999), (19, 999), (7, 999), (11, 999), (17, 999), (13, 999)] T H H' ∧ ∃ z : Int, some (vI z) = r ∧ ((-2147483648) ≤ z ∧ z ≤ 2147483647) ∧ ((CEN T H' ce e d))
set_option maxHeartbeats 4000000 in
theorem u_107 {kt : Nat → Option mc_E} {T : wq_T} {H : wq_H} {r0 : Nat} {a1 : Int} {cu : Nat} {wa : Nat} {ce : Nat} {e : xD} {d : xD} {n : Int} (hW : WT T H) (g0 : T.2.2.2 r0 = some 1) (i1 : (-2147483648) ≤ a1 ∧ a1 ≤ 2147483647) (qcu : H r0 6 = (cu : Int)) (gcu : T.2.2.2 cu = some 27) (qwa : H r0 2 = (wa : Int)) (gwa : T.2.2.2 wa = some 6) (qce : H r0 3 = (ce : Int)) (gce : T.2.2.2 ce = some 12) (p0 : ∀ i, i ≠ 13 → e i = d i) (p1 : XW d) (p2 : e 0 3 = d 0 3) (p3 : e 0 0 = d 0 0) (p4 : H r0 8 = 0 ∨ n = xlots d) (p5 : H r0 8 ≠ 0 ∨ (d 0 3 = 0 ∧ d 0 0 = 0)) (hCU_cu : CU T H cu e d n) (hCEN_ce : CEN T H ce e d) (hHDR_ce : HDR T H ce ) : wpc kt 7 107 [.ref r0, vI a1] T H (uq_107 r0 a1 cu wa ce e d n T H) := by
  refine wp_enter e107 (Nat.le_of_ble_eq_true rfl) rfl ?_
  have f0 : wfr [(12, 5), (12, 6), (12, 7), (12, 8), (12, 9), (1, 10), (6, 5), (8, 999), (10, 999), (15, 999), (9, 999), (18, 999), (19, 999), (7, 999), (11, 999), (17, 999), (13, 999)] T H H := wfr.rf
  show wp _ _ 107 0 [(0, .ref r0), (1, vI a1)] [] _ H _
  have u1139 := CU_k hCU_cu
  have b1140 : 0 ≤ H r0 8 ∧ H r0 8 ≤ 1 := hW.box g0 (n := 13) rfl (by decide) rfl
  have _c7 : d 0 0 ≤ 24 := p1.2.1.2.1
  refine wp_of e107 c107_0 (rw_aload_n (pc' := 1) (v := .ref r0) rfl rfl rfl ?_)
  refine wp_of e107 c107_1 (rw_aload_n (pc' := 2) (v := .ref r0) rfl rfl rfl ?_)
  refine wp_of e107 c107_2 (rw_iload_n (pc' := 3) (z := a1) rfl rfl ?_)
  refine wp_of e107 c107_3 (xc_V (pc' := 6) (r := r0) (as := [vI a1]) (st := [.ref r0]) (lm_0_105) rfl rfl (Nat.le_of_ble_eq_true rfl) hW g0 sh_1 (by decide) rfl (by decide) (u_55  hW g0 ⟨i1.1, i1.2⟩ qcu gcu) (fun R1141 T1142 H1143 p1144 => ?_))
  obtain ⟨e1145, e1147, z1148, e1146, b1149, p1150⟩ := p1144
  subst e1145
  subst e1146
  subst e1147
  rcases p1150 with ⟨a1151, a1152⟩ | ⟨a1153, a1154⟩
  · show wp _ _ 107 6 [(0, .ref r0), (1, vI a1)] [vI z1148, .ref r0] _ H _
    refine wp_of e107 c107_6 (xc_V (pc' := 9) (r := r0) (as := [vI z1148]) (st := []) (lm_0_198) rfl rfl (Nat.le_of_ble_eq_true rfl) hW g0 sh_1 (by decide) rfl (by decide) (u_102 (e := e) (d := d) (n := n) hW g0 ⟨b1149.1, b1149.2⟩ qcu gcu qwa gwa qce gce (by assumption) (by assumption) (by omega) (by omega) (by omega) hCU_cu hCEN_ce hHDR_ce) (fun R1155 T1156 H1157 p1158 => ?_))
    obtain ⟨e1159, w1161, f1162, z1163, e1160, b1164, p1165⟩ := p1158
    subst e1159
    subst e1160
    rcases p1165 with ⟨a1166, a1167, a1168, a1169, a1170, a1171, a1172⟩ | ⟨a1173, a1174, a1175⟩
    · have f1176 := f0.tr f1162 rfl
      show wp _ _ 107 9 [(0, .ref r0), (1, vI a1)] [vI z1163] _ H1157 _
      refine wp_of e107 c107_9 (rw_istore_n (pc' := 10) (z := z1163) (L' := [(2, vI z1163), (0, .ref r0), (1, vI a1)]) rfl rfl rfl ?_)
      refine wp_of e107 c107_10 (rw_iload_n (pc' := 11) (z := z1163) rfl rfl ?_)
      refine wp_of e107 c107_11 (rw_if_eq (p1 := 20) (p2 := 14) (by decide) rfl ⟨Int.le_trans (by decide) b1164.1, Int.le_trans b1164.2 (by decide)⟩ (fun c1177 => ?_) (fun c1177 => ?_))
      · refine wp_of e107 c107_20 (rw_aload_n (pc' := 21) (v := .ref r0) rfl rfl rfl ?_)
        refine wp_of e107 c107_21 (rw_aload_n (pc' := 22) (v := .ref r0) rfl rfl rfl ?_)
        have k1178 : H1157 r0 6 = H r0 6 := (f1162 r0 6 _ g0 rfl)
        have q1179 : H1157 r0 6 = (cu : Int) := k1178.trans qcu
        refine wp_of e107 c107_22 (xg_K (pc' := 25) lf_0_51 w1161 g0 sh_1 (by decide) (by decide) rfl q1179 rfl ?_)
        refine wp_of e107 c107_25 (rw_aload_n (pc' := 26) (v := .ref r0) rfl rfl rfl ?_)
        have k1180 : H1157 r0 3 = H r0 3 := (f1162 r0 3 _ g0 rfl)
        have q1181 : H1157 r0 3 = (ce : Int) := k1180.trans qce
        refine wp_of e107 c107_26 (xg_K (pc' := 29) lf_0_30 w1161 g0 sh_1 (by decide) (by decide) rfl q1181 rfl ?_)
        refine wp_of e107 c107_29 (xg_I (pc' := 32) lf_0_207 w1161 gce sh_12 (by decide) (by decide) ty_12_7 rfl rfl (fun b1182 b1183 => ?_))
        refine wp_of e107 c107_32 (rw_iload_n (pc' := 33) (z := a1) rfl rfl ?_)
        refine wp_of e107 c107_33 (xc_V (pc' := 36) (r := cu) (as := [vI (H1157 ce 7), vI a1]) (st := [.ref r0]) (lm_0_183) rfl rfl (Nat.le_of_ble_eq_true rfl) w1161 gcu sh_27 (by decide) rfl (by decide) (s_96 w1161 gcu ⟨b1182, Int.le_trans b1183 (by decide)⟩ ⟨by omega, by omega⟩) (fun R1184 T1185 H1186 p1187 => ?_))
        obtain ⟨e1188, e1190, z1191, e1189, b1192⟩ := p1187
        subst e1188
        subst e1189
        subst e1190
        show wp _ _ 107 36 [(2, vI z1163), (0, .ref r0), (1, vI a1)] [vI z1191, .ref r0] _ H1157 _
        refine wp_of e107 c107_36 (xc_V (pc' := 39) (r := r0) (as := [vI z1191]) (st := []) (lm_0_99) rfl rfl (Nat.le_of_ble_eq_true rfl) w1161 g0 sh_1 (by decide) rfl (by decide) (s_51 w1161 g0 ⟨Int.le_trans (by decide) b1192.1, Int.le_trans b1192.2 (by decide)⟩) (fun R1193 T1194 H1195 p1196 => ?_))
        obtain ⟨e1197, w1199, f1200, z1201, e1198, b1202⟩ := p1196
        subst e1197
        subst e1198
        have f1203 := f1176.tr f1200 rfl
        show wp _ _ 107 39 [(2, vI z1163), (0, .ref r0), (1, vI a1)] [vI z1201] _ H1195 _
        have h1204 : CEN T H1195 ce e d := (CEN_fr w1161 gce f1200 rfl a1170)
        exact wp_ireturn e107 c107_39 rfl ⟨rfl, w1199, f1203, z1201, rfl, ⟨b1202.1, b1202.2⟩, (h1204)⟩
      · exfalso
        omega
    · have f1205 := f0.tr f1162 rfl
      show wp _ _ 107 9 [(0, .ref r0), (1, vI a1)] [vI z1163] _ H1157 _
      refine wp_of e107 c107_9 (rw_istore_n (pc' := 10) (z := z1163) (L' := [(2, vI z1163), (0, .ref r0), (1, vI a1)]) rfl rfl rfl ?_)
      refine wp_of e107 c107_10 (rw_iload_n (pc' := 11) (z := z1163) rfl rfl ?_)
      refine wp_of e107 c107_11 (rw_if_eq (p1 := 20) (p2 := 14) (by decide) rfl ⟨Int.le_trans (by decide) b1164.1, Int.le_trans b1164.2 (by decide)⟩ (fun c1206 => ?_) (fun c1206 => ?_))
      · exfalso
        omega
      · refine wp_of e107 c107_14 (rw_aload_n (pc' := 15) (v := .ref r0) rfl rfl rfl ?_)
        refine wp_of e107 c107_15 (rw_iload_n (pc' := 16) (z := z1163) rfl rfl ?_)
        refine wp_of e107 c107_16 (xc_V (pc' := 19) (r := r0) (as := [vI z1163]) (st := []) (lm_0_70) rfl rfl (Nat.le_of_ble_eq_true rfl) w1161 g0 sh_1 (by decide) rfl (by decide) (s_12 w1161 g0 ⟨Int.le_trans (by decide) b1164.1, Int.le_trans b1164.2 (by decide)⟩) (fun R1207 T1208 H1209 p1210 => ?_))
        obtain ⟨e1211, w1213, f1214, z1215, e1212, b1216⟩ := p1210
        subst e1211
        subst e1212
        have f1217 := f1205.tr f1214 rfl
        show wp _ _ 107 19 [(2, vI z1163), (0, .ref r0), (1, vI a1)] [vI z1215] _ H1209 _
        have h1218 : CEN T H1209 ce e d := (CEN_fr w1161 gce f1214 rfl a1175)
        exact wp_ireturn e107 c107_19 rfl ⟨rfl, w1213, f1217, z1215, rfl, ⟨b1216.1, b1216.2⟩, (h1218)⟩
  · show wp _ _ 107 6 [(0, .ref r0), (1, vI a1)] [vI z1148, .ref r0] _ H _
    refine wp_of e107 c107_6 (xc_V (pc' := 9) (r := r0) (as := [vI z1148]) (st := []) (lm_0_198) rfl rfl (Nat.le_of_ble_eq_true rfl) hW g0 sh_1 (by decide) rfl (by decide) (u_102 (e := e) (d := d) (n := n) hW g0 ⟨b1149.1, b1149.2⟩ qcu gcu qwa gwa qce gce (by assumption) (by assumption) (by omega) (by omega) (by omega) hCU_cu hCEN_ce hHDR_ce) (fun R1219 T1220 H1221 p1222 => ?_))
    obtain ⟨e1223, w1225, f1226, z1227, e1224, b1228, p1229⟩ := p1222
    subst e1223
    subst e1224
    rcases p1229 with ⟨a1230, a1231, a1232, a1233, a1234, a1235, a1236⟩ | ⟨a1237, a1238, a1239⟩
    · have f1240 := f0.tr f1226 rfl
      show wp _ _ 107 9 [(0, .ref r0), (1, vI a1)] [vI z1227] _ H1221 _
      refine wp_of e107 c107_9 (rw_istore_n (pc' := 10) (z := z1227) (L' := [(2, vI z1227), (0, .ref r0), (1, vI a1)]) rfl rfl rfl ?_)
      refine wp_of e107 c107_10 (rw_iload_n (pc' := 11) (z := z1227) rfl rfl ?_)
      refine wp_of e107 c107_11 (rw_if_eq (p1 := 20) (p2 := 14) (by decide) rfl ⟨Int.le_trans (by decide) b1228.1, Int.le_trans b1228.2 (by decide)⟩ (fun c1241 => ?_) (fun c1241 => ?_))
      · refine wp_of e107 c107_20 (rw_aload_n (pc' := 21) (v := .ref r0) rfl rfl rfl ?_)
        refine wp_of e107 c107_21 (rw_aload_n (pc' := 22) (v := .ref r0) rfl rfl rfl ?_)
        have k1242 : H1221 r0 6 = H r0 6 := (f1226 r0 6 _ g0 rfl)
        have q1243 : H1221 r0 6 = (cu : Int) := k1242.trans qcu
        refine wp_of e107 c107_22 (xg_K (pc' := 25) lf_0_51 w1225 g0 sh_1 (by decide) (by decide) rfl q1243 rfl ?_)
        refine wp_of e107 c107_25 (rw_aload_n (pc' := 26) (v := .ref r0) rfl rfl rfl ?_)
        have k1244 : H1221 r0 3 = H r0 3 := (f1226 r0 3 _ g0 rfl)
        have q1245 : H1221 r0 3 = (ce : Int) := k1244.trans qce
        refine wp_of e107 c107_26 (xg_K (pc' := 29) lf_0_30 w1225 g0 sh_1 (by decide) (by decide) rfl q1245 rfl ?_)
        refine wp_of e107 c107_29 (xg_I (pc' := 32) lf_0_207 w1225 gce sh_12 (by decide) (by decide) ty_12_7 rfl rfl (fun b1246 b1247 => ?_))
        refine wp_of e107 c107_32 (rw_iload_n (pc' := 33) (z := a1) rfl rfl ?_)
        refine wp_of e107 c107_33 (xc_V (pc' := 36) (r := cu) (as := [vI (H1221 ce 7), vI a1]) (st := [.ref r0]) (lm_0_183) rfl rfl (Nat.le_of_ble_eq_true rfl) w1225 gcu sh_27 (by decide) rfl (by decide) (s_96 w1225 gcu ⟨b1246, Int.le_trans b1247 (by decide)⟩ ⟨by omega, by omega⟩) (fun R1248 T1249 H1250 p1251 => ?_))
        obtain ⟨e1252, e1254, z1255, e1253, b1256⟩ := p1251
        subst e1252
        subst e1253
        subst e1254
        show wp _ _ 107 36 [(2, vI z1227), (0, .ref r0), (1, vI a1)] [vI z1255, .ref r0] _ H1221 _
        refine wp_of e107 c107_36 (xc_V (pc' := 39) (r := r0) (as := [vI z1255]) (st := []) (lm_0_99) rfl rfl (Nat.le_of_ble_eq_true rfl) w1225 g0 sh_1 (by decide) rfl (by decide) (s_51 w1225 g0 ⟨Int.le_trans (by decide) b1256.1, Int.le_trans b1256.2 (by decide)⟩) (fun R1257 T1258 H1259 p1260 => ?_))
        obtain ⟨e1261, w1263, f1264, z1265, e1262, b1266⟩ := p1260
        subst e1261
        subst e1262
        have f1267 := f1240.tr f1264 rfl
        show wp _ _ 107 39 [(2, vI z1227), (0, .ref r0), (1, vI a1)] [vI z1265] _ H1259 _
        have h1268 : CEN T H1259 ce e d := (CEN_fr w1225 gce f1264 rfl a1234)
        exact wp_ireturn e107 c107_39 rfl ⟨rfl, w1263, f1267, z1265, rfl, ⟨b1266.1, b1266.2⟩, (h1268)⟩
      · exfalso
        omega
    · have f1269 := f0.tr f1226 rfl
      show wp _ _ 107 9 [(0, .ref r0), (1, vI a1)] [vI z1227] _ H1221 _
      refine wp_of e107 c107_9 (rw_istore_n (pc' := 10) (z := z1227) (L' := [(2, vI z1227), (0, .ref r0), (1, vI a1)]) rfl rfl rfl ?_)
      refine wp_of e107 c107_10 (rw_iload_n (pc' := 11) (z := z1227) rfl rfl ?_)
      refine wp_of e107 c107_11 (rw_if_eq (p1 := 20) (p2 := 14) (by decide) rfl ⟨Int.le_trans (by decide) b1228.1, Int.le_trans b1228.2 (by decide)⟩ (fun c1270 => ?_) (fun c1270 => ?_))
      · exfalso
        omega
      · refine wp_of e107 c107_14 (rw_aload_n (pc' := 15) (v := .ref r0) rfl rfl rfl ?_)
        refine wp_of e107 c107_15 (rw_iload_n (pc' := 16) (z := z1227) rfl rfl ?_)
        refine wp_of e107 c107_16 (xc_V (pc' := 19) (r := r0) (as := [vI z1227]) (st := []) (lm_0_70) rfl rfl (Nat.le_of_ble_eq_true rfl) w1225 g0 sh_1 (by decide) rfl (by decide) (s_12 w1225 g0 ⟨Int.le_trans (by decide) b1228.1, Int.le_trans b1228.2 (by decide)⟩) (fun R1271 T1272 H1273 p1274 => ?_))
        obtain ⟨e1275, w1277, f1278, z1279, e1276, b1280⟩ := p1274
        subst e1275
        subst e1276
        have f1281 := f1269.tr f1278 rfl
        show wp _ _ 107 19 [(2, vI z1227), (0, .ref r0), (1, vI a1)] [vI z1279] _ H1273 _
        have h1282 : CEN T H1273 ce e d := (CEN_fr w1225 gce f1278 rfl a1239)
        exact wp_ireturn e107 c107_19 rfl ⟨rfl, w1277, f1281, z1279, rfl, ⟨b1280.1, b1280.2⟩, (h1282)⟩
/-! StrikeAwake.greatest()J  -/
abbrev uq_108 (r0 : Nat) (cu : Nat) (wa : Nat) (ce : Nat) (e : xD) (d : xD) (n : Int) (T : wq_T) (H : wq_H) : Option Value → wq_T → wq_H → Prop := fun r T' H' => T = T' ∧ WT T H' ∧ wfr [(12, 5), (12, 6), (12, 7), (12, 8), (12, 9), (1, 10), (6, 5), (8, 999), (10, 999), (15, 999), (9, 999), (18, 999), (19, 999), (7, 999), (11, 999), (17, 999), (13, 999)] T H H' ∧ ∃ z : Int, some (vL z) = r ∧ ((-9223372036854775808) ≤ z ∧ z ≤ 9223372036854775807) ∧ ((CEN T H' ce e d))
set_option maxHeartbeats 4000000 in
theorem u_108 {kt : Nat → Option mc_E} {T : wq_T} {H : wq_H} {r0 : Nat} {cu : Nat} {wa : Nat} {ce : Nat} {e : xD} {d : xD} {n : Int} (hW : WT T H) (g0 : T.2.2.2 r0 = some 1) (qcu : H r0 6 = (cu : Int)) (gcu : T.2.2.2 cu = some 27) (qwa : H r0 2 = (wa : Int)) (gwa : T.2.2.2 wa = some 6) (qce : H r0 3 = (ce : Int)) (gce : T.2.2.2 ce = some 12) (p0 : ∀ i, i ≠ 13 → e i = d i) (p1 : XW d) (p2 : e 0 3 = d 0 3) (p3 : e 0 0 = d 0 0) (p4 : H r0 8 = 0 ∨ n = xlots d) (p5 : H r0 8 ≠ 0 ∨ (d 0 3 = 0 ∧ d 0 0 = 0)) (hCU_cu : CU T H cu e d n) (hCEN_ce : CEN T H ce e d) (hHDR_ce : HDR T H ce ) : wpc kt 7 108 [.ref r0] T H (uq_108 r0 cu wa ce e d n T H) := by
  refine wp_enter e108 (Nat.le_of_ble_eq_true rfl) rfl ?_
  have f0 : wfr [(12, 5), (12, 6), (12, 7), (12, 8), (12, 9), (1, 10), (6, 5), (8, 999), (10, 999), (15, 999), (9, 999), (18, 999), (19, 999), (7, 999), (11, 999), (17, 999), (13, 999)] T H H := wfr.rf
  show wp _ _ 108 0 [(0, .ref r0)] [] _ H _
  have u1048 := CU_k hCU_cu
  have b1049 : 0 ≤ H r0 8 ∧ H r0 8 ≤ 1 := hW.box g0 (n := 13) rfl (by decide) rfl
  have _c7 : d 0 0 ≤ 24 := p1.2.1.2.1
  refine wp_of e108 c108_0 (rw_aload_n (pc' := 1) (v := .ref r0) rfl rfl rfl ?_)
  refine wp_of e108 c108_1 (rw_aload_n (pc' := 2) (v := .ref r0) rfl rfl rfl ?_)
  refine wp_of e108 c108_2 (xg_I (pc' := 5) lf_0_58 hW g0 sh_1 (by decide) (by decide) ty_1_8 rfl rfl (fun b1050 b1051 => ?_))
  refine wp_of e108 c108_5 (xc_V (pc' := 8) (r := r0) (as := [vI (H r0 8)]) (st := []) (lm_0_198) rfl rfl (Nat.le_of_ble_eq_true rfl) hW g0 sh_1 (by decide) rfl (by decide) (u_102 (e := e) (d := d) (n := n) hW g0 ⟨b1050, b1051⟩ qcu gcu qwa gwa qce gce (by assumption) (by assumption) (by omega) (by omega) (by omega) hCU_cu hCEN_ce hHDR_ce) (fun R1052 T1053 H1054 p1055 => ?_))
  obtain ⟨e1056, w1058, f1059, z1060, e1057, b1061, p1062⟩ := p1055
  subst e1056
  subst e1057
  rcases p1062 with ⟨a1063, a1064, a1065, a1066, a1067, a1068, a1069⟩ | ⟨a1070, a1071, a1072⟩
  · have f1073 := f0.tr f1059 rfl
    show wp _ _ 108 8 [(0, .ref r0)] [vI z1060] _ H1054 _
    refine wp_of e108 c108_8 (rw_istore_n (pc' := 9) (z := z1060) (L' := [(1, vI z1060), (0, .ref r0)]) rfl rfl rfl ?_)
    refine wp_of e108 c108_9 (rw_iload_n (pc' := 10) (z := z1060) rfl rfl ?_)
    refine wp_of e108 c108_10 (rw_if_eq (p1 := 20) (p2 := 13) (by decide) rfl ⟨Int.le_trans (by decide) b1061.1, Int.le_trans b1061.2 (by decide)⟩ (fun c1074 => ?_) (fun c1074 => ?_))
    · refine wp_of e108 c108_20 (rw_aload_n (pc' := 21) (v := .ref r0) rfl rfl rfl ?_)
      refine wp_of e108 c108_21 (rw_iconst (pc' := 22) rfl ?_)
      refine wp_of e108 c108_22 (xp_I (pc' := 25) lf_0_102 w1058 g0 sh_1 (by decide) (by decide) ty_1_10 rfl rfl (by decide) (by decide) ⟨by decide, by decide⟩ rfl (fun H1075 e1076 w1077 => ?_))
      have f1078 := f1073.put' e1076 g0 rfl
      have k1079 : H1075 r0 10 = 0 := wq_u_s e1076
      refine wp_of e108 c108_25 (rw_aload_n (pc' := 26) (v := .ref r0) rfl rfl rfl ?_)
      have k1080 : H1075 r0 3 = H r0 3 := ((wq_u_j e1076 rfl).trans (f1059 r0 3 _ g0 rfl))
      have q1081 : H1075 r0 3 = (ce : Int) := k1080.trans qce
      refine wp_of e108 c108_26 (xg_K (pc' := 29) lf_0_30 w1077 g0 sh_1 (by decide) (by decide) rfl q1081 rfl ?_)
      refine wp_of e108 c108_29 (xg_L (pc' := 32) lf_0_210 w1077 gce sh_12 (by decide) (by decide) ty_12_8 rfl rfl (fun b1082 b1083 => ?_))
      have h1084 : CEN T H1075 ce e d := (CEN_fr w1058 gce ((wfr.rf (l := [(1, 10)])).put' e1076 g0 rfl) rfl a1067)
      exact wp_lreturn e108 c108_32 rfl ⟨rfl, w1077, f1078, H1075 ce 8, rfl, ⟨b1082, b1083⟩, (h1084)⟩
    · exfalso
      omega
  · have f1085 := f0.tr f1059 rfl
    show wp _ _ 108 8 [(0, .ref r0)] [vI z1060] _ H1054 _
    refine wp_of e108 c108_8 (rw_istore_n (pc' := 9) (z := z1060) (L' := [(1, vI z1060), (0, .ref r0)]) rfl rfl rfl ?_)
    refine wp_of e108 c108_9 (rw_iload_n (pc' := 10) (z := z1060) rfl rfl ?_)
    refine wp_of e108 c108_10 (rw_if_eq (p1 := 20) (p2 := 13) (by decide) rfl ⟨Int.le_trans (by decide) b1061.1, Int.le_trans b1061.2 (by decide)⟩ (fun c1086 => ?_) (fun c1086 => ?_))
    · exfalso
      omega
    · refine wp_of e108 c108_13 (rw_aload_n (pc' := 14) (v := .ref r0) rfl rfl rfl ?_)
      refine wp_of e108 c108_14 (rw_iload_n (pc' := 15) (z := z1060) rfl rfl ?_)
      refine wp_of e108 c108_15 (xc_V (pc' := 18) (r := r0) (as := [vI z1060]) (st := []) (lm_0_70) rfl rfl (Nat.le_of_ble_eq_true rfl) w1058 g0 sh_1 (by decide) rfl (by decide) (s_12 w1058 g0 ⟨Int.le_trans (by decide) b1061.1, Int.le_trans b1061.2 (by decide)⟩) (fun R1087 T1088 H1089 p1090 => ?_))
      obtain ⟨e1091, w1093, f1094, z1095, e1092, b1096⟩ := p1090
      subst e1091
      subst e1092
      have f1097 := f1085.tr f1094 rfl
      show wp _ _ 108 18 [(1, vI z1060), (0, .ref r0)] [vI z1095] _ H1089 _
      refine wp_of e108 c108_18 (rw_i2l (pc' := 19) rfl ⟨b1096.1, b1096.2⟩ ?_)
      have h1098 : CEN T H1089 ce e d := (CEN_fr w1058 gce f1094 rfl a1072)
      exact wp_lreturn e108 c108_19 rfl ⟨rfl, w1093, f1097, z1095, rfl, ⟨Int.le_trans (by decide) b1096.1, Int.le_trans b1096.2 (by decide)⟩, (h1098)⟩
/-! StrikeAwake.together(II)I  -/
abbrev uq_109 (r0 : Nat) (a1 : Int) (a2 : Int) (cu : Nat) (wa : Nat) (ce : Nat) (e : xD) (d : xD) (n : Int) (T : wq_T) (H : wq_H) : Option Value → wq_T → wq_H → Prop := fun r T' H' => T = T' ∧ WT T H' ∧ wfr [(12, 5), (12, 6), (12, 7), (12, 8), (12, 9), (1, 10), (6, 5), (8, 999), (10, 999), (15, 999), (9, 999), (18, 999), (19, 999), (7, 999), (11, 999), (17, 999), (13, 999)] T H H' ∧ ∃ z : Int, some (vI z) = r ∧ ((-2147483648) ≤ z ∧ z ≤ 2147483647) ∧ ((CEN T H' ce e d))
set_option maxHeartbeats 4000000 in
theorem u_109 {kt : Nat → Option mc_E} {T : wq_T} {H : wq_H} {r0 : Nat} {a1 : Int} {a2 : Int} {cu : Nat} {wa : Nat} {ce : Nat} {e : xD} {d : xD} {n : Int} (hW : WT T H) (g0 : T.2.2.2 r0 = some 1) (i1 : (-2147483648) ≤ a1 ∧ a1 ≤ 2147483647) (i2 : (-2147483648) ≤ a2 ∧ a2 ≤ 2147483647) (qcu : H r0 6 = (cu : Int)) (gcu : T.2.2.2 cu = some 27) (qwa : H r0 2 = (wa : Int)) (gwa : T.2.2.2 wa = some 6) (qce : H r0 3 = (ce : Int)) (gce : T.2.2.2 ce = some 12) (p0 : ∀ i, i ≠ 13 → e i = d i) (p1 : XW d) (p2 : e 0 3 = d 0 3) (p3 : e 0 0 = d 0 0) (p4 : H r0 8 = 0 ∨ n = xlots d) (p5 : H r0 8 ≠ 0 ∨ (d 0 3 = 0 ∧ d 0 0 = 0)) (hCU_cu : CU T H cu e d n) (hCEN_ce : CEN T H ce e d) (hHDR_ce : HDR T H ce ) : wpc kt 6 109 [.ref r0, vI a1, vI a2] T H (uq_109 r0 a1 a2 cu wa ce e d n T H) := by
  refine wp_enter e109 (Nat.le_of_ble_eq_true rfl) rfl ?_
  have f0 : wfr [(12, 5), (12, 6), (12, 7), (12, 8), (12, 9), (1, 10), (6, 5), (8, 999), (10, 999), (15, 999), (9, 999), (18, 999), (19, 999), (7, 999), (11, 999), (17, 999), (13, 999)] T H H := wfr.rf
  show wp _ _ 109 0 [(0, .ref r0), (1, vI a1), (2, vI a2)] [] _ H _
  have u1270 := CU_k hCU_cu
  have b1271 : 0 ≤ H r0 8 ∧ H r0 8 ≤ 1 := hW.box g0 (n := 13) rfl (by decide) rfl
  have _c7 : d 0 0 ≤ 24 := p1.2.1.2.1
  refine wp_of e109 c109_0 (rw_aload_n (pc' := 1) (v := .ref r0) rfl rfl rfl ?_)
  refine wp_of e109 c109_1 (rw_aload_n (pc' := 2) (v := .ref r0) rfl rfl rfl ?_)
  refine wp_of e109 c109_2 (rw_iload_n (pc' := 3) (z := a1) rfl rfl ?_)
  refine wp_of e109 c109_3 (xc_V (pc' := 6) (r := r0) (as := [vI a1]) (st := [.ref r0]) (lm_0_105) rfl rfl (Nat.le_of_ble_eq_true rfl) hW g0 sh_1 (by decide) rfl (by decide) (u_55  hW g0 ⟨i1.1, i1.2⟩ qcu gcu) (fun R1272 T1273 H1274 p1275 => ?_))
  obtain ⟨e1276, e1278, z1279, e1277, b1280, p1281⟩ := p1275
  subst e1276
  subst e1277
  subst e1278
  rcases p1281 with ⟨a1282, a1283⟩ | ⟨a1284, a1285⟩
  · show wp _ _ 109 6 [(0, .ref r0), (1, vI a1), (2, vI a2)] [vI z1279, .ref r0] _ H _
    refine wp_of e109 c109_6 (rw_if_eq (p1 := 26) (p2 := 9) (by decide) rfl ⟨Int.le_trans (by decide) b1280.1, Int.le_trans b1280.2 (by decide)⟩ (fun c1286 => ?_) (fun c1286 => ?_))
    · exfalso
      omega
    · refine wp_of e109 c109_9 (rw_aload_n (pc' := 10) (v := .ref r0) rfl rfl rfl ?_)
      refine wp_of e109 c109_10 (rw_iload_n (pc' := 11) (z := a2) rfl rfl ?_)
      refine wp_of e109 c109_11 (xc_V (pc' := 14) (r := r0) (as := [vI a2]) (st := [.ref r0]) (lm_0_105) rfl rfl (Nat.le_of_ble_eq_true rfl) hW g0 sh_1 (by decide) rfl (by decide) (u_55  hW g0 ⟨i2.1, i2.2⟩ qcu gcu) (fun R1287 T1288 H1289 p1290 => ?_))
      obtain ⟨e1291, e1293, z1294, e1292, b1295, p1296⟩ := p1290
      subst e1291
      subst e1292
      subst e1293
      rcases p1296 with ⟨a1297, a1298⟩ | ⟨a1299, a1300⟩
      · show wp _ _ 109 14 [(0, .ref r0), (1, vI a1), (2, vI a2)] [vI z1294, .ref r0] _ H _
        refine wp_of e109 c109_14 (rw_if_eq (p1 := 26) (p2 := 17) (by decide) rfl ⟨Int.le_trans (by decide) b1295.1, Int.le_trans b1295.2 (by decide)⟩ (fun c1301 => ?_) (fun c1301 => ?_))
        · exfalso
          omega
        · refine wp_of e109 c109_17 (rw_iload_n (pc' := 18) (z := a1) rfl rfl ?_)
          refine wp_of e109 c109_18 (rw_iload_n (pc' := 19) (z := a2) rfl rfl ?_)
          refine wp_of e109 c109_19 (rw_icmp_eq (p1 := 26) (p2 := 22) (by decide) rfl ⟨i1.1, i1.2⟩ ⟨i2.1, i2.2⟩ (fun c1302 => ?_) (fun c1302 => ?_))
          · refine wp_of e109 c109_26 (rw_iconst (pc' := 27) rfl ?_)
            refine wp_of e109 c109_27 (xc_V (pc' := 30) (r := r0) (as := [vI 0]) (st := []) (lm_0_174) rfl rfl (Nat.le_of_ble_eq_true rfl) hW g0 sh_1 (by decide) rfl (by decide) (u_83 (e := e) (d := d) (n := n) hW g0 ⟨by decide, by decide⟩ qcu gcu qwa gwa qce gce (by assumption) (by assumption) (by omega) (by omega) (by omega) hCU_cu hCEN_ce hHDR_ce) (fun R1303 T1304 H1305 p1306 => ?_))
            obtain ⟨e1307, w1309, f1310, z1311, e1308, b1312, p1313⟩ := p1306
            subst e1307
            subst e1308
            rcases p1313 with ⟨a1314, a1315, a1316, a1317, a1318, a1319⟩ | ⟨a1320, a1321, a1322⟩
            · have f1323 := f0.tr f1310 rfl
              show wp _ _ 109 30 [(0, .ref r0), (1, vI a1), (2, vI a2)] [vI z1311] _ H1305 _
              refine wp_of e109 c109_30 (rw_istore_n (pc' := 31) (z := z1311) (L' := [(3, vI z1311), (0, .ref r0), (1, vI a1), (2, vI a2)]) rfl rfl rfl ?_)
              refine wp_of e109 c109_31 (rw_iload_n (pc' := 32) (z := z1311) rfl rfl ?_)
              refine wp_of e109 c109_32 (rw_if_eq (p1 := 41) (p2 := 35) (by decide) rfl ⟨Int.le_trans (by decide) b1312.1, Int.le_trans b1312.2 (by decide)⟩ (fun c1324 => ?_) (fun c1324 => ?_))
              · refine wp_of e109 c109_41 (rw_aload_n (pc' := 42) (v := .ref r0) rfl rfl rfl ?_)
                refine wp_of e109 c109_42 (rw_aload_n (pc' := 43) (v := .ref r0) rfl rfl rfl ?_)
                have k1325 : H1305 r0 3 = H r0 3 := (f1310 r0 3 _ g0 rfl)
                have q1326 : H1305 r0 3 = (ce : Int) := k1325.trans qce
                refine wp_of e109 c109_43 (xg_K (pc' := 46) lf_0_30 w1309 g0 sh_1 (by decide) (by decide) rfl q1326 rfl ?_)
                refine wp_of e109 c109_46 (rw_aload_n (pc' := 47) (v := .ref r0) rfl rfl rfl ?_)
                have k1327 : H1305 r0 6 = H r0 6 := (f1310 r0 6 _ g0 rfl)
                have q1328 : H1305 r0 6 = (cu : Int) := k1327.trans qcu
                refine wp_of e109 c109_47 (xg_K (pc' := 50) lf_0_51 w1309 g0 sh_1 (by decide) (by decide) rfl q1328 rfl ?_)
                refine wp_of e109 c109_50 (rw_iload_n (pc' := 51) (z := a1) rfl rfl ?_)
                refine wp_of e109 c109_51 (rw_iload_n (pc' := 52) (z := a2) rfl rfl ?_)
                refine wp_of e109 c109_52 (xc_V (pc' := 55) (r := ce) (as := [.ref cu, vI a1, vI a2]) (st := [.ref r0]) (lm_0_213) rfl rfl (Nat.le_of_ble_eq_true rfl) w1309 gce sh_12 (by decide) rfl (by decide) (s_110 w1309 gce gcu ⟨by omega, by omega⟩ ⟨by omega, by omega⟩) (fun R1329 T1330 H1331 p1332 => ?_))
                obtain ⟨e1333, e1335, z1336, e1334, b1337⟩ := p1332
                subst e1333
                subst e1334
                subst e1335
                show wp _ _ 109 55 [(3, vI z1311), (0, .ref r0), (1, vI a1), (2, vI a2)] [vI z1336, .ref r0] _ H1305 _
                refine wp_of e109 c109_55 (xc_V (pc' := 58) (r := r0) (as := [vI z1336]) (st := []) (lm_0_99) rfl rfl (Nat.le_of_ble_eq_true rfl) w1309 g0 sh_1 (by decide) rfl (by decide) (s_51 w1309 g0 ⟨b1337.1, b1337.2⟩) (fun R1338 T1339 H1340 p1341 => ?_))
                obtain ⟨e1342, w1344, f1345, z1346, e1343, b1347⟩ := p1341
                subst e1342
                subst e1343
                have f1348 := f1323.tr f1345 rfl
                show wp _ _ 109 58 [(3, vI z1311), (0, .ref r0), (1, vI a1), (2, vI a2)] [vI z1346] _ H1340 _
                have h1349 : CEN T H1340 ce e d := (CEN_fr w1309 gce f1345 rfl a1317)
                exact wp_ireturn e109 c109_58 rfl ⟨rfl, w1344, f1348, z1346, rfl, ⟨b1347.1, b1347.2⟩, (h1349)⟩
              · exfalso
                omega
            · have f1350 := f0.tr f1310 rfl
              show wp _ _ 109 30 [(0, .ref r0), (1, vI a1), (2, vI a2)] [vI z1311] _ H1305 _
              refine wp_of e109 c109_30 (rw_istore_n (pc' := 31) (z := z1311) (L' := [(3, vI z1311), (0, .ref r0), (1, vI a1), (2, vI a2)]) rfl rfl rfl ?_)
              refine wp_of e109 c109_31 (rw_iload_n (pc' := 32) (z := z1311) rfl rfl ?_)
              refine wp_of e109 c109_32 (rw_if_eq (p1 := 41) (p2 := 35) (by decide) rfl ⟨Int.le_trans (by decide) b1312.1, Int.le_trans b1312.2 (by decide)⟩ (fun c1351 => ?_) (fun c1351 => ?_))
              · exfalso
                omega
              · refine wp_of e109 c109_35 (rw_aload_n (pc' := 36) (v := .ref r0) rfl rfl rfl ?_)
                refine wp_of e109 c109_36 (rw_iload_n (pc' := 37) (z := z1311) rfl rfl ?_)
                refine wp_of e109 c109_37 (xc_V (pc' := 40) (r := r0) (as := [vI z1311]) (st := []) (lm_0_70) rfl rfl (Nat.le_of_ble_eq_true rfl) w1309 g0 sh_1 (by decide) rfl (by decide) (s_12 w1309 g0 ⟨Int.le_trans (by decide) b1312.1, Int.le_trans b1312.2 (by decide)⟩) (fun R1352 T1353 H1354 p1355 => ?_))
                obtain ⟨e1356, w1358, f1359, z1360, e1357, b1361⟩ := p1355
                subst e1356
                subst e1357
                have f1362 := f1350.tr f1359 rfl
                show wp _ _ 109 40 [(3, vI z1311), (0, .ref r0), (1, vI a1), (2, vI a2)] [vI z1360] _ H1354 _
                have h1363 : CEN T H1354 ce e d := (CEN_fr w1309 gce f1359 rfl a1322)
                exact wp_ireturn e109 c109_40 rfl ⟨rfl, w1358, f1362, z1360, rfl, ⟨b1361.1, b1361.2⟩, (h1363)⟩
          · refine wp_of e109 c109_22 (rw_iconst (pc' := 23) rfl ?_)
            refine wp_of e109 c109_23 (rw_goto (p1 := 27) (by decide) ?_)
            refine wp_of e109 c109_27 (xc_V (pc' := 30) (r := r0) (as := [vI 1]) (st := []) (lm_0_174) rfl rfl (Nat.le_of_ble_eq_true rfl) hW g0 sh_1 (by decide) rfl (by decide) (u_83 (e := e) (d := d) (n := n) hW g0 ⟨by decide, by decide⟩ qcu gcu qwa gwa qce gce (by assumption) (by assumption) (by omega) (by omega) (by omega) hCU_cu hCEN_ce hHDR_ce) (fun R1364 T1365 H1366 p1367 => ?_))
            obtain ⟨e1368, w1370, f1371, z1372, e1369, b1373, p1374⟩ := p1367
            subst e1368
            subst e1369
            rcases p1374 with ⟨a1375, a1376, a1377, a1378, a1379, a1380⟩ | ⟨a1381, a1382, a1383⟩
            · have f1384 := f0.tr f1371 rfl
              show wp _ _ 109 30 [(0, .ref r0), (1, vI a1), (2, vI a2)] [vI z1372] _ H1366 _
              refine wp_of e109 c109_30 (rw_istore_n (pc' := 31) (z := z1372) (L' := [(3, vI z1372), (0, .ref r0), (1, vI a1), (2, vI a2)]) rfl rfl rfl ?_)
              refine wp_of e109 c109_31 (rw_iload_n (pc' := 32) (z := z1372) rfl rfl ?_)
              refine wp_of e109 c109_32 (rw_if_eq (p1 := 41) (p2 := 35) (by decide) rfl ⟨Int.le_trans (by decide) b1373.1, Int.le_trans b1373.2 (by decide)⟩ (fun c1385 => ?_) (fun c1385 => ?_))
              · refine wp_of e109 c109_41 (rw_aload_n (pc' := 42) (v := .ref r0) rfl rfl rfl ?_)
                refine wp_of e109 c109_42 (rw_aload_n (pc' := 43) (v := .ref r0) rfl rfl rfl ?_)
                have k1386 : H1366 r0 3 = H r0 3 := (f1371 r0 3 _ g0 rfl)
                have q1387 : H1366 r0 3 = (ce : Int) := k1386.trans qce
                refine wp_of e109 c109_43 (xg_K (pc' := 46) lf_0_30 w1370 g0 sh_1 (by decide) (by decide) rfl q1387 rfl ?_)
                refine wp_of e109 c109_46 (rw_aload_n (pc' := 47) (v := .ref r0) rfl rfl rfl ?_)
                have k1388 : H1366 r0 6 = H r0 6 := (f1371 r0 6 _ g0 rfl)
                have q1389 : H1366 r0 6 = (cu : Int) := k1388.trans qcu
                refine wp_of e109 c109_47 (xg_K (pc' := 50) lf_0_51 w1370 g0 sh_1 (by decide) (by decide) rfl q1389 rfl ?_)
                refine wp_of e109 c109_50 (rw_iload_n (pc' := 51) (z := a1) rfl rfl ?_)
                refine wp_of e109 c109_51 (rw_iload_n (pc' := 52) (z := a2) rfl rfl ?_)
                refine wp_of e109 c109_52 (xc_V (pc' := 55) (r := ce) (as := [.ref cu, vI a1, vI a2]) (st := [.ref r0]) (lm_0_213) rfl rfl (Nat.le_of_ble_eq_true rfl) w1370 gce sh_12 (by decide) rfl (by decide) (s_110 w1370 gce gcu ⟨by omega, by omega⟩ ⟨by omega, by omega⟩) (fun R1390 T1391 H1392 p1393 => ?_))
                obtain ⟨e1394, e1396, z1397, e1395, b1398⟩ := p1393
                subst e1394
                subst e1395
                subst e1396
                show wp _ _ 109 55 [(3, vI z1372), (0, .ref r0), (1, vI a1), (2, vI a2)] [vI z1397, .ref r0] _ H1366 _
                refine wp_of e109 c109_55 (xc_V (pc' := 58) (r := r0) (as := [vI z1397]) (st := []) (lm_0_99) rfl rfl (Nat.le_of_ble_eq_true rfl) w1370 g0 sh_1 (by decide) rfl (by decide) (s_51 w1370 g0 ⟨b1398.1, b1398.2⟩) (fun R1399 T1400 H1401 p1402 => ?_))
                obtain ⟨e1403, w1405, f1406, z1407, e1404, b1408⟩ := p1402
                subst e1403
                subst e1404
                have f1409 := f1384.tr f1406 rfl
                show wp _ _ 109 58 [(3, vI z1372), (0, .ref r0), (1, vI a1), (2, vI a2)] [vI z1407] _ H1401 _
                have h1410 : CEN T H1401 ce e d := (CEN_fr w1370 gce f1406 rfl a1378)
                exact wp_ireturn e109 c109_58 rfl ⟨rfl, w1405, f1409, z1407, rfl, ⟨b1408.1, b1408.2⟩, (h1410)⟩
              · exfalso
                omega
            · have f1411 := f0.tr f1371 rfl
              show wp _ _ 109 30 [(0, .ref r0), (1, vI a1), (2, vI a2)] [vI z1372] _ H1366 _
              refine wp_of e109 c109_30 (rw_istore_n (pc' := 31) (z := z1372) (L' := [(3, vI z1372), (0, .ref r0), (1, vI a1), (2, vI a2)]) rfl rfl rfl ?_)
              refine wp_of e109 c109_31 (rw_iload_n (pc' := 32) (z := z1372) rfl rfl ?_)
              refine wp_of e109 c109_32 (rw_if_eq (p1 := 41) (p2 := 35) (by decide) rfl ⟨Int.le_trans (by decide) b1373.1, Int.le_trans b1373.2 (by decide)⟩ (fun c1412 => ?_) (fun c1412 => ?_))
              · exfalso
                omega
              · refine wp_of e109 c109_35 (rw_aload_n (pc' := 36) (v := .ref r0) rfl rfl rfl ?_)
                refine wp_of e109 c109_36 (rw_iload_n (pc' := 37) (z := z1372) rfl rfl ?_)
                refine wp_of e109 c109_37 (xc_V (pc' := 40) (r := r0) (as := [vI z1372]) (st := []) (lm_0_70) rfl rfl (Nat.le_of_ble_eq_true rfl) w1370 g0 sh_1 (by decide) rfl (by decide) (s_12 w1370 g0 ⟨Int.le_trans (by decide) b1373.1, Int.le_trans b1373.2 (by decide)⟩) (fun R1413 T1414 H1415 p1416 => ?_))
                obtain ⟨e1417, w1419, f1420, z1421, e1418, b1422⟩ := p1416
                subst e1417
                subst e1418
                have f1423 := f1411.tr f1420 rfl
                show wp _ _ 109 40 [(3, vI z1372), (0, .ref r0), (1, vI a1), (2, vI a2)] [vI z1421] _ H1415 _
                have h1424 : CEN T H1415 ce e d := (CEN_fr w1370 gce f1420 rfl a1383)
                exact wp_ireturn e109 c109_40 rfl ⟨rfl, w1419, f1423, z1421, rfl, ⟨b1422.1, b1422.2⟩, (h1424)⟩
      · show wp _ _ 109 14 [(0, .ref r0), (1, vI a1), (2, vI a2)] [vI z1294, .ref r0] _ H _
        refine wp_of e109 c109_14 (rw_if_eq (p1 := 26) (p2 := 17) (by decide) rfl ⟨Int.le_trans (by decide) b1295.1, Int.le_trans b1295.2 (by decide)⟩ (fun c1425 => ?_) (fun c1425 => ?_))
        · refine wp_of e109 c109_26 (rw_iconst (pc' := 27) rfl ?_)
          refine wp_of e109 c109_27 (xc_V (pc' := 30) (r := r0) (as := [vI 0]) (st := []) (lm_0_174) rfl rfl (Nat.le_of_ble_eq_true rfl) hW g0 sh_1 (by decide) rfl (by decide) (u_83 (e := e) (d := d) (n := n) hW g0 ⟨by decide, by decide⟩ qcu gcu qwa gwa qce gce (by assumption) (by assumption) (by omega) (by omega) (by omega) hCU_cu hCEN_ce hHDR_ce) (fun R1426 T1427 H1428 p1429 => ?_))
          obtain ⟨e1430, w1432, f1433, z1434, e1431, b1435, p1436⟩ := p1429
          subst e1430
          subst e1431
          rcases p1436 with ⟨a1437, a1438, a1439, a1440, a1441, a1442⟩ | ⟨a1443, a1444, a1445⟩
          · have f1446 := f0.tr f1433 rfl
            show wp _ _ 109 30 [(0, .ref r0), (1, vI a1), (2, vI a2)] [vI z1434] _ H1428 _
            refine wp_of e109 c109_30 (rw_istore_n (pc' := 31) (z := z1434) (L' := [(3, vI z1434), (0, .ref r0), (1, vI a1), (2, vI a2)]) rfl rfl rfl ?_)
            refine wp_of e109 c109_31 (rw_iload_n (pc' := 32) (z := z1434) rfl rfl ?_)
            refine wp_of e109 c109_32 (rw_if_eq (p1 := 41) (p2 := 35) (by decide) rfl ⟨Int.le_trans (by decide) b1435.1, Int.le_trans b1435.2 (by decide)⟩ (fun c1447 => ?_) (fun c1447 => ?_))
            · refine wp_of e109 c109_41 (rw_aload_n (pc' := 42) (v := .ref r0) rfl rfl rfl ?_)
              refine wp_of e109 c109_42 (rw_aload_n (pc' := 43) (v := .ref r0) rfl rfl rfl ?_)
              have k1448 : H1428 r0 3 = H r0 3 := (f1433 r0 3 _ g0 rfl)
              have q1449 : H1428 r0 3 = (ce : Int) := k1448.trans qce
              refine wp_of e109 c109_43 (xg_K (pc' := 46) lf_0_30 w1432 g0 sh_1 (by decide) (by decide) rfl q1449 rfl ?_)
              refine wp_of e109 c109_46 (rw_aload_n (pc' := 47) (v := .ref r0) rfl rfl rfl ?_)
              have k1450 : H1428 r0 6 = H r0 6 := (f1433 r0 6 _ g0 rfl)
              have q1451 : H1428 r0 6 = (cu : Int) := k1450.trans qcu
              refine wp_of e109 c109_47 (xg_K (pc' := 50) lf_0_51 w1432 g0 sh_1 (by decide) (by decide) rfl q1451 rfl ?_)
              refine wp_of e109 c109_50 (rw_iload_n (pc' := 51) (z := a1) rfl rfl ?_)
              refine wp_of e109 c109_51 (rw_iload_n (pc' := 52) (z := a2) rfl rfl ?_)
              refine wp_of e109 c109_52 (xc_V (pc' := 55) (r := ce) (as := [.ref cu, vI a1, vI a2]) (st := [.ref r0]) (lm_0_213) rfl rfl (Nat.le_of_ble_eq_true rfl) w1432 gce sh_12 (by decide) rfl (by decide) (s_110 w1432 gce gcu ⟨by omega, by omega⟩ ⟨by omega, by omega⟩) (fun R1452 T1453 H1454 p1455 => ?_))
              obtain ⟨e1456, e1458, z1459, e1457, b1460⟩ := p1455
              subst e1456
              subst e1457
              subst e1458
              show wp _ _ 109 55 [(3, vI z1434), (0, .ref r0), (1, vI a1), (2, vI a2)] [vI z1459, .ref r0] _ H1428 _
              refine wp_of e109 c109_55 (xc_V (pc' := 58) (r := r0) (as := [vI z1459]) (st := []) (lm_0_99) rfl rfl (Nat.le_of_ble_eq_true rfl) w1432 g0 sh_1 (by decide) rfl (by decide) (s_51 w1432 g0 ⟨b1460.1, b1460.2⟩) (fun R1461 T1462 H1463 p1464 => ?_))
              obtain ⟨e1465, w1467, f1468, z1469, e1466, b1470⟩ := p1464
              subst e1465
              subst e1466
              have f1471 := f1446.tr f1468 rfl
              show wp _ _ 109 58 [(3, vI z1434), (0, .ref r0), (1, vI a1), (2, vI a2)] [vI z1469] _ H1463 _
              have h1472 : CEN T H1463 ce e d := (CEN_fr w1432 gce f1468 rfl a1440)
              exact wp_ireturn e109 c109_58 rfl ⟨rfl, w1467, f1471, z1469, rfl, ⟨b1470.1, b1470.2⟩, (h1472)⟩
            · exfalso
              omega
          · have f1473 := f0.tr f1433 rfl
            show wp _ _ 109 30 [(0, .ref r0), (1, vI a1), (2, vI a2)] [vI z1434] _ H1428 _
            refine wp_of e109 c109_30 (rw_istore_n (pc' := 31) (z := z1434) (L' := [(3, vI z1434), (0, .ref r0), (1, vI a1), (2, vI a2)]) rfl rfl rfl ?_)
            refine wp_of e109 c109_31 (rw_iload_n (pc' := 32) (z := z1434) rfl rfl ?_)
            refine wp_of e109 c109_32 (rw_if_eq (p1 := 41) (p2 := 35) (by decide) rfl ⟨Int.le_trans (by decide) b1435.1, Int.le_trans b1435.2 (by decide)⟩ (fun c1474 => ?_) (fun c1474 => ?_))
            · exfalso
              omega
            · refine wp_of e109 c109_35 (rw_aload_n (pc' := 36) (v := .ref r0) rfl rfl rfl ?_)
              refine wp_of e109 c109_36 (rw_iload_n (pc' := 37) (z := z1434) rfl rfl ?_)
              refine wp_of e109 c109_37 (xc_V (pc' := 40) (r := r0) (as := [vI z1434]) (st := []) (lm_0_70) rfl rfl (Nat.le_of_ble_eq_true rfl) w1432 g0 sh_1 (by decide) rfl (by decide) (s_12 w1432 g0 ⟨Int.le_trans (by decide) b1435.1, Int.le_trans b1435.2 (by decide)⟩) (fun R1475 T1476 H1477 p1478 => ?_))
              obtain ⟨e1479, w1481, f1482, z1483, e1480, b1484⟩ := p1478
              subst e1479
              subst e1480
              have f1485 := f1473.tr f1482 rfl
              show wp _ _ 109 40 [(3, vI z1434), (0, .ref r0), (1, vI a1), (2, vI a2)] [vI z1483] _ H1477 _
              have h1486 : CEN T H1477 ce e d := (CEN_fr w1432 gce f1482 rfl a1445)
              exact wp_ireturn e109 c109_40 rfl ⟨rfl, w1481, f1485, z1483, rfl, ⟨b1484.1, b1484.2⟩, (h1486)⟩
        · exfalso
          omega
  · show wp _ _ 109 6 [(0, .ref r0), (1, vI a1), (2, vI a2)] [vI z1279, .ref r0] _ H _
    refine wp_of e109 c109_6 (rw_if_eq (p1 := 26) (p2 := 9) (by decide) rfl ⟨Int.le_trans (by decide) b1280.1, Int.le_trans b1280.2 (by decide)⟩ (fun c1487 => ?_) (fun c1487 => ?_))
    · refine wp_of e109 c109_26 (rw_iconst (pc' := 27) rfl ?_)
      refine wp_of e109 c109_27 (xc_V (pc' := 30) (r := r0) (as := [vI 0]) (st := []) (lm_0_174) rfl rfl (Nat.le_of_ble_eq_true rfl) hW g0 sh_1 (by decide) rfl (by decide) (u_83 (e := e) (d := d) (n := n) hW g0 ⟨by decide, by decide⟩ qcu gcu qwa gwa qce gce (by assumption) (by assumption) (by omega) (by omega) (by omega) hCU_cu hCEN_ce hHDR_ce) (fun R1488 T1489 H1490 p1491 => ?_))
      obtain ⟨e1492, w1494, f1495, z1496, e1493, b1497, p1498⟩ := p1491
      subst e1492
      subst e1493
      rcases p1498 with ⟨a1499, a1500, a1501, a1502, a1503, a1504⟩ | ⟨a1505, a1506, a1507⟩
      · have f1508 := f0.tr f1495 rfl
        show wp _ _ 109 30 [(0, .ref r0), (1, vI a1), (2, vI a2)] [vI z1496] _ H1490 _
        refine wp_of e109 c109_30 (rw_istore_n (pc' := 31) (z := z1496) (L' := [(3, vI z1496), (0, .ref r0), (1, vI a1), (2, vI a2)]) rfl rfl rfl ?_)
        refine wp_of e109 c109_31 (rw_iload_n (pc' := 32) (z := z1496) rfl rfl ?_)
        refine wp_of e109 c109_32 (rw_if_eq (p1 := 41) (p2 := 35) (by decide) rfl ⟨Int.le_trans (by decide) b1497.1, Int.le_trans b1497.2 (by decide)⟩ (fun c1509 => ?_) (fun c1509 => ?_))
        · refine wp_of e109 c109_41 (rw_aload_n (pc' := 42) (v := .ref r0) rfl rfl rfl ?_)
          refine wp_of e109 c109_42 (rw_aload_n (pc' := 43) (v := .ref r0) rfl rfl rfl ?_)
          have k1510 : H1490 r0 3 = H r0 3 := (f1495 r0 3 _ g0 rfl)
          have q1511 : H1490 r0 3 = (ce : Int) := k1510.trans qce
          refine wp_of e109 c109_43 (xg_K (pc' := 46) lf_0_30 w1494 g0 sh_1 (by decide) (by decide) rfl q1511 rfl ?_)
          refine wp_of e109 c109_46 (rw_aload_n (pc' := 47) (v := .ref r0) rfl rfl rfl ?_)
          have k1512 : H1490 r0 6 = H r0 6 := (f1495 r0 6 _ g0 rfl)
          have q1513 : H1490 r0 6 = (cu : Int) := k1512.trans qcu
          refine wp_of e109 c109_47 (xg_K (pc' := 50) lf_0_51 w1494 g0 sh_1 (by decide) (by decide) rfl q1513 rfl ?_)
          refine wp_of e109 c109_50 (rw_iload_n (pc' := 51) (z := a1) rfl rfl ?_)
          refine wp_of e109 c109_51 (rw_iload_n (pc' := 52) (z := a2) rfl rfl ?_)
          refine wp_of e109 c109_52 (xc_V (pc' := 55) (r := ce) (as := [.ref cu, vI a1, vI a2]) (st := [.ref r0]) (lm_0_213) rfl rfl (Nat.le_of_ble_eq_true rfl) w1494 gce sh_12 (by decide) rfl (by decide) (s_110 w1494 gce gcu ⟨by omega, by omega⟩ ⟨by omega, by omega⟩) (fun R1514 T1515 H1516 p1517 => ?_))
          obtain ⟨e1518, e1520, z1521, e1519, b1522⟩ := p1517
          subst e1518
          subst e1519
          subst e1520
          show wp _ _ 109 55 [(3, vI z1496), (0, .ref r0), (1, vI a1), (2, vI a2)] [vI z1521, .ref r0] _ H1490 _
          refine wp_of e109 c109_55 (xc_V (pc' := 58) (r := r0) (as := [vI z1521]) (st := []) (lm_0_99) rfl rfl (Nat.le_of_ble_eq_true rfl) w1494 g0 sh_1 (by decide) rfl (by decide) (s_51 w1494 g0 ⟨b1522.1, b1522.2⟩) (fun R1523 T1524 H1525 p1526 => ?_))
          obtain ⟨e1527, w1529, f1530, z1531, e1528, b1532⟩ := p1526
          subst e1527
          subst e1528
          have f1533 := f1508.tr f1530 rfl
          show wp _ _ 109 58 [(3, vI z1496), (0, .ref r0), (1, vI a1), (2, vI a2)] [vI z1531] _ H1525 _
          have h1534 : CEN T H1525 ce e d := (CEN_fr w1494 gce f1530 rfl a1502)
          exact wp_ireturn e109 c109_58 rfl ⟨rfl, w1529, f1533, z1531, rfl, ⟨b1532.1, b1532.2⟩, (h1534)⟩
        · exfalso
          omega
      · have f1535 := f0.tr f1495 rfl
        show wp _ _ 109 30 [(0, .ref r0), (1, vI a1), (2, vI a2)] [vI z1496] _ H1490 _
        refine wp_of e109 c109_30 (rw_istore_n (pc' := 31) (z := z1496) (L' := [(3, vI z1496), (0, .ref r0), (1, vI a1), (2, vI a2)]) rfl rfl rfl ?_)
        refine wp_of e109 c109_31 (rw_iload_n (pc' := 32) (z := z1496) rfl rfl ?_)
        refine wp_of e109 c109_32 (rw_if_eq (p1 := 41) (p2 := 35) (by decide) rfl ⟨Int.le_trans (by decide) b1497.1, Int.le_trans b1497.2 (by decide)⟩ (fun c1536 => ?_) (fun c1536 => ?_))
        · exfalso
          omega
        · refine wp_of e109 c109_35 (rw_aload_n (pc' := 36) (v := .ref r0) rfl rfl rfl ?_)
          refine wp_of e109 c109_36 (rw_iload_n (pc' := 37) (z := z1496) rfl rfl ?_)
          refine wp_of e109 c109_37 (xc_V (pc' := 40) (r := r0) (as := [vI z1496]) (st := []) (lm_0_70) rfl rfl (Nat.le_of_ble_eq_true rfl) w1494 g0 sh_1 (by decide) rfl (by decide) (s_12 w1494 g0 ⟨Int.le_trans (by decide) b1497.1, Int.le_trans b1497.2 (by decide)⟩) (fun R1537 T1538 H1539 p1540 => ?_))
          obtain ⟨e1541, w1543, f1544, z1545, e1542, b1546⟩ := p1540
          subst e1541
          subst e1542
          have f1547 := f1535.tr f1544 rfl
          show wp _ _ 109 40 [(3, vI z1496), (0, .ref r0), (1, vI a1), (2, vI a2)] [vI z1545] _ H1539 _
          have h1548 : CEN T H1539 ce e d := (CEN_fr w1494 gce f1544 rfl a1507)
          exact wp_ireturn e109 c109_40 rfl ⟨rfl, w1543, f1547, z1545, rfl, ⟨b1546.1, b1546.2⟩, (h1548)⟩
    · exfalso
      omega
/-! StrikeAwake.possible(I)J  -/
abbrev uq_112 (r0 : Nat) (a1 : Int) (cu : Nat) (wa : Nat) (ce : Nat) (e : xD) (d : xD) (n : Int) (T : wq_T) (H : wq_H) : Option Value → wq_T → wq_H → Prop := fun r T' H' => T = T' ∧ WT T H' ∧ wfr [(12, 5), (12, 6), (12, 7), (12, 8), (12, 9), (1, 10), (6, 5), (8, 999), (10, 999), (15, 999), (9, 999), (18, 999), (19, 999), (7, 999), (11, 999), (17, 999), (13, 999)] T H H' ∧ ∃ z : Int, some (vL z) = r ∧ ((-9223372036854775808) ≤ z ∧ z ≤ 9223372036854775807) ∧ ((CEN T H' ce e d))
set_option maxHeartbeats 4000000 in
theorem u_112 {kt : Nat → Option mc_E} {T : wq_T} {H : wq_H} {r0 : Nat} {a1 : Int} {cu : Nat} {wa : Nat} {ce : Nat} {e : xD} {d : xD} {n : Int} (hW : WT T H) (g0 : T.2.2.2 r0 = some 1) (i1 : (-2147483648) ≤ a1 ∧ a1 ≤ 2147483647) (qcu : H r0 6 = (cu : Int)) (gcu : T.2.2.2 cu = some 27) (qwa : H r0 2 = (wa : Int)) (gwa : T.2.2.2 wa = some 6) (qce : H r0 3 = (ce : Int)) (gce : T.2.2.2 ce = some 12) (p0 : ∀ i, i ≠ 13 → e i = d i) (p1 : XW d) (p2 : e 0 3 = d 0 3) (p3 : e 0 0 = d 0 0) (p4 : H r0 8 = 0 ∨ n = xlots d) (p5 : H r0 8 ≠ 0 ∨ (d 0 3 = 0 ∧ d 0 0 = 0)) (hCU_cu : CU T H cu e d n) (hCEN_ce : CEN T H ce e d) (hHDR_ce : HDR T H ce ) : wpc kt 6 112 [.ref r0, vI a1] T H (uq_112 r0 a1 cu wa ce e d n T H) := by
  refine wp_enter e112 (Nat.le_of_ble_eq_true rfl) rfl ?_
  have f0 : wfr [(12, 5), (12, 6), (12, 7), (12, 8), (12, 9), (1, 10), (6, 5), (8, 999), (10, 999), (15, 999), (9, 999), (18, 999), (19, 999), (7, 999), (11, 999), (17, 999), (13, 999)] T H H := wfr.rf
  show wp _ _ 112 0 [(0, .ref r0), (1, vI a1)] [] _ H _
  have u1121 := CU_k hCU_cu
  have b1122 : 0 ≤ H r0 8 ∧ H r0 8 ≤ 1 := hW.box g0 (n := 13) rfl (by decide) rfl
  have _c7 : d 0 0 ≤ 24 := p1.2.1.2.1
  refine wp_of e112 c112_0 (rw_aload_n (pc' := 1) (v := .ref r0) rfl rfl rfl ?_)
  refine wp_of e112 c112_1 (rw_aload_n (pc' := 2) (v := .ref r0) rfl rfl rfl ?_)
  refine wp_of e112 c112_2 (rw_iload_n (pc' := 3) (z := a1) rfl rfl ?_)
  refine wp_of e112 c112_3 (xc_V (pc' := 6) (r := r0) (as := [vI a1]) (st := [.ref r0]) (lm_0_105) rfl rfl (Nat.le_of_ble_eq_true rfl) hW g0 sh_1 (by decide) rfl (by decide) (u_55  hW g0 ⟨i1.1, i1.2⟩ qcu gcu) (fun R1123 T1124 H1125 p1126 => ?_))
  obtain ⟨e1127, e1129, z1130, e1128, b1131, p1132⟩ := p1126
  subst e1127
  subst e1128
  subst e1129
  rcases p1132 with ⟨a1133, a1134⟩ | ⟨a1135, a1136⟩
  · show wp _ _ 112 6 [(0, .ref r0), (1, vI a1)] [vI z1130, .ref r0] _ H _
    refine wp_of e112 c112_6 (xc_V (pc' := 9) (r := r0) (as := [vI z1130]) (st := []) (lm_0_174) rfl rfl (Nat.le_of_ble_eq_true rfl) hW g0 sh_1 (by decide) rfl (by decide) (u_83 (e := e) (d := d) (n := n) hW g0 ⟨b1131.1, b1131.2⟩ qcu gcu qwa gwa qce gce (by assumption) (by assumption) (by omega) (by omega) (by omega) hCU_cu hCEN_ce hHDR_ce) (fun R1137 T1138 H1139 p1140 => ?_))
    obtain ⟨e1141, w1143, f1144, z1145, e1142, b1146, p1147⟩ := p1140
    subst e1141
    subst e1142
    rcases p1147 with ⟨a1148, a1149, a1150, a1151, a1152, a1153⟩ | ⟨a1154, a1155, a1156⟩
    · have f1157 := f0.tr f1144 rfl
      show wp _ _ 112 9 [(0, .ref r0), (1, vI a1)] [vI z1145] _ H1139 _
      refine wp_of e112 c112_9 (rw_istore_n (pc' := 10) (z := z1145) (L' := [(2, vI z1145), (0, .ref r0), (1, vI a1)]) rfl rfl rfl ?_)
      refine wp_of e112 c112_10 (rw_iload_n (pc' := 11) (z := z1145) rfl rfl ?_)
      refine wp_of e112 c112_11 (rw_if_eq (p1 := 21) (p2 := 14) (by decide) rfl ⟨Int.le_trans (by decide) b1146.1, Int.le_trans b1146.2 (by decide)⟩ (fun c1158 => ?_) (fun c1158 => ?_))
      · refine wp_of e112 c112_21 (rw_aload_n (pc' := 22) (v := .ref r0) rfl rfl rfl ?_)
        refine wp_of e112 c112_22 (rw_iconst (pc' := 23) rfl ?_)
        refine wp_of e112 c112_23 (xp_I (pc' := 26) lf_0_102 w1143 g0 sh_1 (by decide) (by decide) ty_1_10 rfl rfl (by decide) (by decide) ⟨by decide, by decide⟩ rfl (fun H1159 e1160 w1161 => ?_))
        have f1162 := f1157.put' e1160 g0 rfl
        have k1163 : H1159 r0 10 = 0 := wq_u_s e1160
        refine wp_of e112 c112_26 (rw_aload_n (pc' := 27) (v := .ref r0) rfl rfl rfl ?_)
        have k1164 : H1159 r0 3 = H r0 3 := ((wq_u_j e1160 rfl).trans (f1144 r0 3 _ g0 rfl))
        have q1165 : H1159 r0 3 = (ce : Int) := k1164.trans qce
        refine wp_of e112 c112_27 (xg_K (pc' := 30) lf_0_30 w1161 g0 sh_1 (by decide) (by decide) rfl q1165 rfl ?_)
        refine wp_of e112 c112_30 (rw_aload_n (pc' := 31) (v := .ref r0) rfl rfl rfl ?_)
        have k1166 : H1159 r0 6 = H r0 6 := ((wq_u_j e1160 rfl).trans (f1144 r0 6 _ g0 rfl))
        have q1167 : H1159 r0 6 = (cu : Int) := k1166.trans qcu
        refine wp_of e112 c112_31 (xg_K (pc' := 34) lf_0_51 w1161 g0 sh_1 (by decide) (by decide) rfl q1167 rfl ?_)
        refine wp_of e112 c112_34 (rw_iload_n (pc' := 35) (z := a1) rfl rfl ?_)
        refine wp_of e112 c112_35 (xc_V (pc' := 38) (r := ce) (as := [.ref cu, vI a1]) (st := []) (lm_0_216) rfl rfl (Nat.le_of_ble_eq_true rfl) w1161 gce sh_12 (by decide) rfl (by decide) (s_113 w1161 gce gcu ⟨by omega, by omega⟩) (fun R1168 T1169 H1170 p1171 => ?_))
        obtain ⟨e1172, e1174, z1175, e1173, b1176⟩ := p1171
        subst e1172
        subst e1173
        subst e1174
        show wp _ _ 112 38 [(2, vI z1145), (0, .ref r0), (1, vI a1)] [vL z1175] _ H1159 _
        have h1177 : CEN T H1159 ce e d := (CEN_fr w1143 gce ((wfr.rf (l := [(1, 10)])).put' e1160 g0 rfl) rfl a1151)
        exact wp_lreturn e112 c112_38 rfl ⟨rfl, w1161, f1162, z1175, rfl, ⟨b1176.1, b1176.2⟩, (h1177)⟩
      · exfalso
        omega
    · have f1178 := f0.tr f1144 rfl
      show wp _ _ 112 9 [(0, .ref r0), (1, vI a1)] [vI z1145] _ H1139 _
      refine wp_of e112 c112_9 (rw_istore_n (pc' := 10) (z := z1145) (L' := [(2, vI z1145), (0, .ref r0), (1, vI a1)]) rfl rfl rfl ?_)
      refine wp_of e112 c112_10 (rw_iload_n (pc' := 11) (z := z1145) rfl rfl ?_)
      refine wp_of e112 c112_11 (rw_if_eq (p1 := 21) (p2 := 14) (by decide) rfl ⟨Int.le_trans (by decide) b1146.1, Int.le_trans b1146.2 (by decide)⟩ (fun c1179 => ?_) (fun c1179 => ?_))
      · exfalso
        omega
      · refine wp_of e112 c112_14 (rw_aload_n (pc' := 15) (v := .ref r0) rfl rfl rfl ?_)
        refine wp_of e112 c112_15 (rw_iload_n (pc' := 16) (z := z1145) rfl rfl ?_)
        refine wp_of e112 c112_16 (xc_V (pc' := 19) (r := r0) (as := [vI z1145]) (st := []) (lm_0_70) rfl rfl (Nat.le_of_ble_eq_true rfl) w1143 g0 sh_1 (by decide) rfl (by decide) (s_12 w1143 g0 ⟨Int.le_trans (by decide) b1146.1, Int.le_trans b1146.2 (by decide)⟩) (fun R1180 T1181 H1182 p1183 => ?_))
        obtain ⟨e1184, w1186, f1187, z1188, e1185, b1189⟩ := p1183
        subst e1184
        subst e1185
        have f1190 := f1178.tr f1187 rfl
        show wp _ _ 112 19 [(2, vI z1145), (0, .ref r0), (1, vI a1)] [vI z1188] _ H1182 _
        refine wp_of e112 c112_19 (rw_i2l (pc' := 20) rfl ⟨b1189.1, b1189.2⟩ ?_)
        have h1191 : CEN T H1182 ce e d := (CEN_fr w1143 gce f1187 rfl a1156)
        exact wp_lreturn e112 c112_20 rfl ⟨rfl, w1186, f1190, z1188, rfl, ⟨Int.le_trans (by decide) b1189.1, Int.le_trans b1189.2 (by decide)⟩, (h1191)⟩
  · show wp _ _ 112 6 [(0, .ref r0), (1, vI a1)] [vI z1130, .ref r0] _ H _
    refine wp_of e112 c112_6 (xc_V (pc' := 9) (r := r0) (as := [vI z1130]) (st := []) (lm_0_174) rfl rfl (Nat.le_of_ble_eq_true rfl) hW g0 sh_1 (by decide) rfl (by decide) (u_83 (e := e) (d := d) (n := n) hW g0 ⟨b1131.1, b1131.2⟩ qcu gcu qwa gwa qce gce (by assumption) (by assumption) (by omega) (by omega) (by omega) hCU_cu hCEN_ce hHDR_ce) (fun R1192 T1193 H1194 p1195 => ?_))
    obtain ⟨e1196, w1198, f1199, z1200, e1197, b1201, p1202⟩ := p1195
    subst e1196
    subst e1197
    rcases p1202 with ⟨a1203, a1204, a1205, a1206, a1207, a1208⟩ | ⟨a1209, a1210, a1211⟩
    · have f1212 := f0.tr f1199 rfl
      show wp _ _ 112 9 [(0, .ref r0), (1, vI a1)] [vI z1200] _ H1194 _
      refine wp_of e112 c112_9 (rw_istore_n (pc' := 10) (z := z1200) (L' := [(2, vI z1200), (0, .ref r0), (1, vI a1)]) rfl rfl rfl ?_)
      refine wp_of e112 c112_10 (rw_iload_n (pc' := 11) (z := z1200) rfl rfl ?_)
      refine wp_of e112 c112_11 (rw_if_eq (p1 := 21) (p2 := 14) (by decide) rfl ⟨Int.le_trans (by decide) b1201.1, Int.le_trans b1201.2 (by decide)⟩ (fun c1213 => ?_) (fun c1213 => ?_))
      · refine wp_of e112 c112_21 (rw_aload_n (pc' := 22) (v := .ref r0) rfl rfl rfl ?_)
        refine wp_of e112 c112_22 (rw_iconst (pc' := 23) rfl ?_)
        refine wp_of e112 c112_23 (xp_I (pc' := 26) lf_0_102 w1198 g0 sh_1 (by decide) (by decide) ty_1_10 rfl rfl (by decide) (by decide) ⟨by decide, by decide⟩ rfl (fun H1214 e1215 w1216 => ?_))
        have f1217 := f1212.put' e1215 g0 rfl
        have k1218 : H1214 r0 10 = 0 := wq_u_s e1215
        refine wp_of e112 c112_26 (rw_aload_n (pc' := 27) (v := .ref r0) rfl rfl rfl ?_)
        have k1219 : H1214 r0 3 = H r0 3 := ((wq_u_j e1215 rfl).trans (f1199 r0 3 _ g0 rfl))
        have q1220 : H1214 r0 3 = (ce : Int) := k1219.trans qce
        refine wp_of e112 c112_27 (xg_K (pc' := 30) lf_0_30 w1216 g0 sh_1 (by decide) (by decide) rfl q1220 rfl ?_)
        refine wp_of e112 c112_30 (rw_aload_n (pc' := 31) (v := .ref r0) rfl rfl rfl ?_)
        have k1221 : H1214 r0 6 = H r0 6 := ((wq_u_j e1215 rfl).trans (f1199 r0 6 _ g0 rfl))
        have q1222 : H1214 r0 6 = (cu : Int) := k1221.trans qcu
        refine wp_of e112 c112_31 (xg_K (pc' := 34) lf_0_51 w1216 g0 sh_1 (by decide) (by decide) rfl q1222 rfl ?_)
        refine wp_of e112 c112_34 (rw_iload_n (pc' := 35) (z := a1) rfl rfl ?_)
        refine wp_of e112 c112_35 (xc_V (pc' := 38) (r := ce) (as := [.ref cu, vI a1]) (st := []) (lm_0_216) rfl rfl (Nat.le_of_ble_eq_true rfl) w1216 gce sh_12 (by decide) rfl (by decide) (s_113 w1216 gce gcu ⟨by omega, by omega⟩) (fun R1223 T1224 H1225 p1226 => ?_))
        obtain ⟨e1227, e1229, z1230, e1228, b1231⟩ := p1226
        subst e1227
        subst e1228
        subst e1229
        show wp _ _ 112 38 [(2, vI z1200), (0, .ref r0), (1, vI a1)] [vL z1230] _ H1214 _
        have h1232 : CEN T H1214 ce e d := (CEN_fr w1198 gce ((wfr.rf (l := [(1, 10)])).put' e1215 g0 rfl) rfl a1206)
        exact wp_lreturn e112 c112_38 rfl ⟨rfl, w1216, f1217, z1230, rfl, ⟨b1231.1, b1231.2⟩, (h1232)⟩
      · exfalso
        omega
    · have f1233 := f0.tr f1199 rfl
      show wp _ _ 112 9 [(0, .ref r0), (1, vI a1)] [vI z1200] _ H1194 _
      refine wp_of e112 c112_9 (rw_istore_n (pc' := 10) (z := z1200) (L' := [(2, vI z1200), (0, .ref r0), (1, vI a1)]) rfl rfl rfl ?_)
      refine wp_of e112 c112_10 (rw_iload_n (pc' := 11) (z := z1200) rfl rfl ?_)
      refine wp_of e112 c112_11 (rw_if_eq (p1 := 21) (p2 := 14) (by decide) rfl ⟨Int.le_trans (by decide) b1201.1, Int.le_trans b1201.2 (by decide)⟩ (fun c1234 => ?_) (fun c1234 => ?_))
      · exfalso
        omega
      · refine wp_of e112 c112_14 (rw_aload_n (pc' := 15) (v := .ref r0) rfl rfl rfl ?_)
        refine wp_of e112 c112_15 (rw_iload_n (pc' := 16) (z := z1200) rfl rfl ?_)
        refine wp_of e112 c112_16 (xc_V (pc' := 19) (r := r0) (as := [vI z1200]) (st := []) (lm_0_70) rfl rfl (Nat.le_of_ble_eq_true rfl) w1198 g0 sh_1 (by decide) rfl (by decide) (s_12 w1198 g0 ⟨Int.le_trans (by decide) b1201.1, Int.le_trans b1201.2 (by decide)⟩) (fun R1235 T1236 H1237 p1238 => ?_))
        obtain ⟨e1239, w1241, f1242, z1243, e1240, b1244⟩ := p1238
        subst e1239
        subst e1240
        have f1245 := f1233.tr f1242 rfl
        show wp _ _ 112 19 [(2, vI z1200), (0, .ref r0), (1, vI a1)] [vI z1243] _ H1237 _
        refine wp_of e112 c112_19 (rw_i2l (pc' := 20) rfl ⟨b1244.1, b1244.2⟩ ?_)
        have h1246 : CEN T H1237 ce e d := (CEN_fr w1198 gce f1242 rfl a1211)
        exact wp_lreturn e112 c112_20 rfl ⟨rfl, w1241, f1245, z1243, rfl, ⟨Int.le_trans (by decide) b1244.1, Int.le_trans b1244.2 (by decide)⟩, (h1246)⟩
