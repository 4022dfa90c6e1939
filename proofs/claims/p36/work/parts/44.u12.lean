/-! StrikeAwake.lie(I)I  -/
abbrev uq_132 (r0 : Nat) (a1 : Int) (cu : Nat) (wa : Nat) (ce : Nat) (e : xD) (d : xD) (n : Int) (T : wq_T) (H : wq_H) : Option Value → wq_T → wq_H → Prop := fun r T' H' => T = T' ∧ WT T H' ∧ wfr [(12, 5), (12, 6), (12, 7), (12, 8), (12, 9), (1, 10), (6, 5), (8, 999), (10, 999), (15, 999), (9, 999), (18, 999), (19, 999), (7, 999), (11, 999), (17, 999), (13, 999)] T H H' ∧ ∃ z : Int, some (vI z) = r ∧ ((-2147483648) ≤ z ∧ z ≤ 2147483647) ∧ (((z = -1) ∧ ((a1 < 0 ∨ d 0 6 ≤ a1) ∨ 20000 < n) ∧ CEN T H' ce e d) ∨ (((0 ≤ a1 ∧ a1 < d 0 6) ∧ n ≤ 20000) ∧ (XLZ e d (a1).toNat (xlots d).toNat z) ∧ CEN T H' ce e d))
set_option maxHeartbeats 4000000 in
theorem u_132 {kt : Nat → Option mc_E} {T : wq_T} {H : wq_H} {r0 : Nat} {a1 : Int} {cu : Nat} {wa : Nat} {ce : Nat} {e : xD} {d : xD} {n : Int} (hW : WT T H) (g0 : T.2.2.2 r0 = some 1) (i1 : (-2147483648) ≤ a1 ∧ a1 ≤ 2147483647) (qcu : H r0 6 = (cu : Int)) (gcu : T.2.2.2 cu = some 27) (qwa : H r0 2 = (wa : Int)) (gwa : T.2.2.2 wa = some 6) (qce : H r0 3 = (ce : Int)) (gce : T.2.2.2 ce = some 12) (p0 : ∀ i, i ≠ 13 → e i = d i) (p1 : XW d) (p2 : e 0 3 = d 0 3) (p3 : e 0 0 = d 0 0) (p4 : H r0 8 = 0 ∨ n = xlots d) (p5 : H r0 8 ≠ 0 ∨ (d 0 3 = 0 ∧ d 0 0 = 0)) (hCU_cu : CU T H cu e d n) (hCEN_ce : CEN T H ce e d) (hHDR_ce : HDR T H ce ) : wpc kt 6 132 [.ref r0, vI a1] T H (uq_132 r0 a1 cu wa ce e d n T H) := by
  refine wp_enter e132 (Nat.le_of_ble_eq_true rfl) rfl ?_
  have f0 : wfr [(12, 5), (12, 6), (12, 7), (12, 8), (12, 9), (1, 10), (6, 5), (8, 999), (10, 999), (15, 999), (9, 999), (18, 999), (19, 999), (7, 999), (11, 999), (17, 999), (13, 999)] T H H := wfr.rf
  show wp _ _ 132 0 [(0, .ref r0), (1, vI a1)] [] _ H _
  have u1187 := CU_k hCU_cu
  have b1188 : 0 ≤ H r0 8 ∧ H r0 8 ≤ 1 := hW.box g0 (n := 13) rfl (by decide) rfl
  have _c7 : d 0 0 ≤ 24 := p1.2.1.2.1
  have _xc6 := p1.2.1
  unfold XC at _xc6
  have _e6 : e 0 6 = d 0 6 := by rw [p0 0 (by decide)]
  have _t6 : d 0 3 ≤ 0 → d 0 6 ≤ 0 := fun q => by
    by_cases c : 0 < d 0 6
    · have h := p1.2.2.2.2.2.1 0 c
      unfold xwB at h
      omega
    · omega
  refine wp_of e132 c132_0 (rw_aload_n (pc' := 1) (v := .ref r0) rfl rfl rfl ?_)
  refine wp_of e132 c132_1 (rw_aload_n (pc' := 2) (v := .ref r0) rfl rfl rfl ?_)
  refine wp_of e132 c132_2 (rw_iload_n (pc' := 3) (z := a1) rfl rfl ?_)
  refine wp_of e132 c132_3 (xc_V (pc' := 6) (r := r0) (as := [vI a1]) (st := [.ref r0]) (lm_0_238) rfl rfl (Nat.le_of_ble_eq_true rfl) hW g0 sh_1 (by decide) rfl (by decide) (u_133  hW g0 ⟨i1.1, i1.2⟩ qcu gcu) (fun R1189 T1190 H1191 p1192 => ?_))
  obtain ⟨e1193, e1195, z1196, e1194, b1197, p1198⟩ := p1192
  subst e1193
  subst e1194
  subst e1195
  rcases p1198 with ⟨a1199, a1200⟩ | ⟨a1201, a1202⟩
  · show wp _ _ 132 6 [(0, .ref r0), (1, vI a1)] [vI z1196, .ref r0] _ H _
    refine wp_of e132 c132_6 (xc_V (pc' := 9) (r := r0) (as := [vI z1196]) (st := []) (lm_0_174) rfl rfl (Nat.le_of_ble_eq_true rfl) hW g0 sh_1 (by decide) rfl (by decide) (u_83 (e := e) (d := d) (n := n) hW g0 ⟨b1197.1, b1197.2⟩ qcu gcu qwa gwa qce gce (by assumption) (by assumption) (by omega) (by omega) (by omega) hCU_cu hCEN_ce hHDR_ce) (fun R1203 T1204 H1205 p1206 => ?_))
    obtain ⟨e1207, w1209, f1210, z1211, e1208, b1212, p1213⟩ := p1206
    subst e1207
    subst e1208
    rcases p1213 with ⟨a1214, a1215, a1216, a1217, a1218, a1219⟩ | ⟨a1220, a1221, a1222⟩
    · have f1223 := f0.tr f1210 rfl
      show wp _ _ 132 9 [(0, .ref r0), (1, vI a1)] [vI z1211] _ H1205 _
      refine wp_of e132 c132_9 (rw_istore_n (pc' := 10) (z := z1211) (L' := [(2, vI z1211), (0, .ref r0), (1, vI a1)]) rfl rfl rfl ?_)
      refine wp_of e132 c132_10 (rw_iload_n (pc' := 11) (z := z1211) rfl rfl ?_)
      refine wp_of e132 c132_11 (rw_if_eq (p1 := 20) (p2 := 14) (by decide) rfl ⟨Int.le_trans (by decide) b1212.1, Int.le_trans b1212.2 (by decide)⟩ (fun c1224 => ?_) (fun c1224 => ?_))
      · have h1225 : HV1 T H1205 ce (d 0 3) (fun p i => xhc e d p i (xlots d).toNat) := (a1219).1
        refine wp_of e132 c132_20 (rw_aload_n (pc' := 21) (v := .ref r0) rfl rfl rfl ?_)
        refine wp_of e132 c132_21 (rw_aload_n (pc' := 22) (v := .ref r0) rfl rfl rfl ?_)
        have k1226 : H1205 r0 3 = H r0 3 := (f1210 r0 3 _ g0 rfl)
        have q1227 : H1205 r0 3 = (ce : Int) := k1226.trans qce
        refine wp_of e132 c132_22 (xg_K (pc' := 25) lf_0_30 w1209 g0 sh_1 (by decide) (by decide) rfl q1227 rfl ?_)
        refine wp_of e132 c132_25 (rw_aload_n (pc' := 26) (v := .ref r0) rfl rfl rfl ?_)
        have k1228 : H1205 r0 6 = H r0 6 := (f1210 r0 6 _ g0 rfl)
        have q1229 : H1205 r0 6 = (cu : Int) := k1228.trans qcu
        refine wp_of e132 c132_26 (xg_K (pc' := 29) lf_0_51 w1209 g0 sh_1 (by decide) (by decide) rfl q1229 rfl ?_)
        refine wp_of e132 c132_29 (rw_iload_n (pc' := 30) (z := a1) rfl rfl ?_)
        have h1230 : CU T H1205 cu e d n := (CU_fr hW gcu f1210 rfl hCU_cu)
        refine wp_of e132 c132_30 (xc_V (pc' := 33) (r := ce) (as := [.ref cu, vI a1]) (st := [.ref r0]) (lm_0_241) rfl rfl (Nat.le_of_ble_eq_true rfl) w1209 gce sh_12 (by decide) rfl (by decide) (u_134 (e := e) (d := d) (n := n) w1209 gce gcu ⟨by omega, by omega⟩ (by assumption) (by assumption) (by omega) (by omega) h1230 h1225) (fun R1231 T1232 H1233 p1234 => ?_))
        obtain ⟨e1235, e1237, z1238, e1236, b1239, p1240⟩ := p1234
        subst e1235
        subst e1236
        subst e1237
        rcases p1240 with ⟨a1241, a1242⟩ | ⟨a1243, a1244⟩
        · show wp _ _ 132 33 [(2, vI z1211), (0, .ref r0), (1, vI a1)] [vI z1238, .ref r0] _ H1205 _
          refine wp_of e132 c132_33 (rw_if_eq (p1 := 40) (p2 := 36) (by decide) rfl ⟨Int.le_trans (by decide) b1239.1, Int.le_trans b1239.2 (by decide)⟩ (fun c1245 => ?_) (fun c1245 => ?_))
          · exfalso
            omega
          · refine wp_of e132 c132_36 (rw_iconst (pc' := 37) rfl ?_)
            refine wp_of e132 c132_37 (rw_goto (p1 := 41) (by decide) ?_)
            have _z : XLZ e d (a1).toNat (xlots d).toNat 0 := Or.inl ⟨rfl, by assumption⟩
            refine wp_of e132 c132_41 (xc_V (pc' := 44) (r := r0) (as := [vI 0]) (st := []) (lm_0_99) rfl rfl (Nat.le_of_ble_eq_true rfl) w1209 g0 sh_1 (by decide) rfl (by decide) (u_51  w1209 g0 ⟨by decide, by decide⟩) (fun R1246 T1247 H1248 p1249 => ?_))
            obtain ⟨e1250, w1252, f1253, z1254, e1251, b1255, p1256⟩ := p1249
            subst e1250
            subst e1251
            obtain ⟨a1257, a1258⟩ := p1256
            have f1259 := f1223.tr f1253 rfl
            show wp _ _ 132 44 [(2, vI z1211), (0, .ref r0), (1, vI a1)] [vI z1254] _ H1248 _
            have h1260 : CEN T H1248 ce e d := (CEN_fr w1209 gce f1253 rfl a1217)
            exact wp_ireturn e132 c132_44 rfl ⟨rfl, w1252, f1259, z1254, rfl, ⟨b1255.1, b1255.2⟩, (Or.inr ⟨by omega, XLZ_z _z (by omega), h1260⟩)⟩
        · show wp _ _ 132 33 [(2, vI z1211), (0, .ref r0), (1, vI a1)] [vI z1238, .ref r0] _ H1205 _
          refine wp_of e132 c132_33 (rw_if_eq (p1 := 40) (p2 := 36) (by decide) rfl ⟨Int.le_trans (by decide) b1239.1, Int.le_trans b1239.2 (by decide)⟩ (fun c1261 => ?_) (fun c1261 => ?_))
          · refine wp_of e132 c132_40 (rw_iconst (pc' := 41) rfl ?_)
            have _z : XLZ e d (a1).toNat (xlots d).toNat 1 := Or.inr ⟨rfl, by assumption⟩
            refine wp_of e132 c132_41 (xc_V (pc' := 44) (r := r0) (as := [vI 1]) (st := []) (lm_0_99) rfl rfl (Nat.le_of_ble_eq_true rfl) w1209 g0 sh_1 (by decide) rfl (by decide) (u_51  w1209 g0 ⟨by decide, by decide⟩) (fun R1262 T1263 H1264 p1265 => ?_))
            obtain ⟨e1266, w1268, f1269, z1270, e1267, b1271, p1272⟩ := p1265
            subst e1266
            subst e1267
            obtain ⟨a1273, a1274⟩ := p1272
            have f1275 := f1223.tr f1269 rfl
            show wp _ _ 132 44 [(2, vI z1211), (0, .ref r0), (1, vI a1)] [vI z1270] _ H1264 _
            have h1276 : CEN T H1264 ce e d := (CEN_fr w1209 gce f1269 rfl a1217)
            exact wp_ireturn e132 c132_44 rfl ⟨rfl, w1268, f1275, z1270, rfl, ⟨b1271.1, b1271.2⟩, (Or.inr ⟨by omega, XLZ_z _z (by omega), h1276⟩)⟩
          · exfalso
            omega
      · exfalso
        omega
    · have f1277 := f0.tr f1210 rfl
      show wp _ _ 132 9 [(0, .ref r0), (1, vI a1)] [vI z1211] _ H1205 _
      refine wp_of e132 c132_9 (rw_istore_n (pc' := 10) (z := z1211) (L' := [(2, vI z1211), (0, .ref r0), (1, vI a1)]) rfl rfl rfl ?_)
      refine wp_of e132 c132_10 (rw_iload_n (pc' := 11) (z := z1211) rfl rfl ?_)
      refine wp_of e132 c132_11 (rw_if_eq (p1 := 20) (p2 := 14) (by decide) rfl ⟨Int.le_trans (by decide) b1212.1, Int.le_trans b1212.2 (by decide)⟩ (fun c1278 => ?_) (fun c1278 => ?_))
      · exfalso
        omega
      · refine wp_of e132 c132_14 (rw_aload_n (pc' := 15) (v := .ref r0) rfl rfl rfl ?_)
        refine wp_of e132 c132_15 (rw_iload_n (pc' := 16) (z := z1211) rfl rfl ?_)
        refine wp_of e132 c132_16 (xc_V (pc' := 19) (r := r0) (as := [vI z1211]) (st := []) (lm_0_70) rfl rfl (Nat.le_of_ble_eq_true rfl) w1209 g0 sh_1 (by decide) rfl (by decide) (u_12  w1209 g0 ⟨Int.le_trans (by decide) b1212.1, Int.le_trans b1212.2 (by decide)⟩) (fun R1279 T1280 H1281 p1282 => ?_))
        obtain ⟨e1283, w1285, f1286, z1287, e1284, b1288, p1289⟩ := p1282
        subst e1283
        subst e1284
        obtain ⟨a1290, a1291⟩ := p1289
        have f1292 := f1277.tr f1286 rfl
        show wp _ _ 132 19 [(2, vI z1211), (0, .ref r0), (1, vI a1)] [vI z1287] _ H1281 _
        have h1293 : CEN T H1281 ce e d := (CEN_fr w1209 gce f1286 rfl a1222)
        exact wp_ireturn e132 c132_19 rfl ⟨rfl, w1285, f1292, z1287, rfl, ⟨b1288.1, b1288.2⟩, (Or.inl ⟨by omega, by omega, h1293⟩)⟩
  · show wp _ _ 132 6 [(0, .ref r0), (1, vI a1)] [vI z1196, .ref r0] _ H _
    refine wp_of e132 c132_6 (xc_V (pc' := 9) (r := r0) (as := [vI z1196]) (st := []) (lm_0_174) rfl rfl (Nat.le_of_ble_eq_true rfl) hW g0 sh_1 (by decide) rfl (by decide) (u_83 (e := e) (d := d) (n := n) hW g0 ⟨b1197.1, b1197.2⟩ qcu gcu qwa gwa qce gce (by assumption) (by assumption) (by omega) (by omega) (by omega) hCU_cu hCEN_ce hHDR_ce) (fun R1294 T1295 H1296 p1297 => ?_))
    obtain ⟨e1298, w1300, f1301, z1302, e1299, b1303, p1304⟩ := p1297
    subst e1298
    subst e1299
    rcases p1304 with ⟨a1305, a1306, a1307, a1308, a1309, a1310⟩ | ⟨a1311, a1312, a1313⟩
    · have f1314 := f0.tr f1301 rfl
      show wp _ _ 132 9 [(0, .ref r0), (1, vI a1)] [vI z1302] _ H1296 _
      refine wp_of e132 c132_9 (rw_istore_n (pc' := 10) (z := z1302) (L' := [(2, vI z1302), (0, .ref r0), (1, vI a1)]) rfl rfl rfl ?_)
      refine wp_of e132 c132_10 (rw_iload_n (pc' := 11) (z := z1302) rfl rfl ?_)
      refine wp_of e132 c132_11 (rw_if_eq (p1 := 20) (p2 := 14) (by decide) rfl ⟨Int.le_trans (by decide) b1303.1, Int.le_trans b1303.2 (by decide)⟩ (fun c1315 => ?_) (fun c1315 => ?_))
      · have h1316 : HV1 T H1296 ce (d 0 3) (fun p i => xhc e d p i (xlots d).toNat) := (a1310).1
        refine wp_of e132 c132_20 (rw_aload_n (pc' := 21) (v := .ref r0) rfl rfl rfl ?_)
        refine wp_of e132 c132_21 (rw_aload_n (pc' := 22) (v := .ref r0) rfl rfl rfl ?_)
        have k1317 : H1296 r0 3 = H r0 3 := (f1301 r0 3 _ g0 rfl)
        have q1318 : H1296 r0 3 = (ce : Int) := k1317.trans qce
        refine wp_of e132 c132_22 (xg_K (pc' := 25) lf_0_30 w1300 g0 sh_1 (by decide) (by decide) rfl q1318 rfl ?_)
        refine wp_of e132 c132_25 (rw_aload_n (pc' := 26) (v := .ref r0) rfl rfl rfl ?_)
        have k1319 : H1296 r0 6 = H r0 6 := (f1301 r0 6 _ g0 rfl)
        have q1320 : H1296 r0 6 = (cu : Int) := k1319.trans qcu
        refine wp_of e132 c132_26 (xg_K (pc' := 29) lf_0_51 w1300 g0 sh_1 (by decide) (by decide) rfl q1320 rfl ?_)
        refine wp_of e132 c132_29 (rw_iload_n (pc' := 30) (z := a1) rfl rfl ?_)
        have h1321 : CU T H1296 cu e d n := (CU_fr hW gcu f1301 rfl hCU_cu)
        refine wp_of e132 c132_30 (xc_V (pc' := 33) (r := ce) (as := [.ref cu, vI a1]) (st := [.ref r0]) (lm_0_241) rfl rfl (Nat.le_of_ble_eq_true rfl) w1300 gce sh_12 (by decide) rfl (by decide) (u_134 (e := e) (d := d) (n := n) w1300 gce gcu ⟨by omega, by omega⟩ (by assumption) (by assumption) (by omega) (by omega) h1321 h1316) (fun R1322 T1323 H1324 p1325 => ?_))
        obtain ⟨e1326, e1328, z1329, e1327, b1330, p1331⟩ := p1325
        subst e1326
        subst e1327
        subst e1328
        rcases p1331 with ⟨a1332, a1333⟩ | ⟨a1334, a1335⟩
        · show wp _ _ 132 33 [(2, vI z1302), (0, .ref r0), (1, vI a1)] [vI z1329, .ref r0] _ H1296 _
          refine wp_of e132 c132_33 (rw_if_eq (p1 := 40) (p2 := 36) (by decide) rfl ⟨Int.le_trans (by decide) b1330.1, Int.le_trans b1330.2 (by decide)⟩ (fun c1336 => ?_) (fun c1336 => ?_))
          · exfalso
            omega
          · refine wp_of e132 c132_36 (rw_iconst (pc' := 37) rfl ?_)
            refine wp_of e132 c132_37 (rw_goto (p1 := 41) (by decide) ?_)
            have _z : XLZ e d (a1).toNat (xlots d).toNat 0 := Or.inl ⟨rfl, by assumption⟩
            refine wp_of e132 c132_41 (xc_V (pc' := 44) (r := r0) (as := [vI 0]) (st := []) (lm_0_99) rfl rfl (Nat.le_of_ble_eq_true rfl) w1300 g0 sh_1 (by decide) rfl (by decide) (u_51  w1300 g0 ⟨by decide, by decide⟩) (fun R1337 T1338 H1339 p1340 => ?_))
            obtain ⟨e1341, w1343, f1344, z1345, e1342, b1346, p1347⟩ := p1340
            subst e1341
            subst e1342
            obtain ⟨a1348, a1349⟩ := p1347
            have f1350 := f1314.tr f1344 rfl
            show wp _ _ 132 44 [(2, vI z1302), (0, .ref r0), (1, vI a1)] [vI z1345] _ H1339 _
            have h1351 : CEN T H1339 ce e d := (CEN_fr w1300 gce f1344 rfl a1308)
            exact wp_ireturn e132 c132_44 rfl ⟨rfl, w1343, f1350, z1345, rfl, ⟨b1346.1, b1346.2⟩, (Or.inr ⟨by omega, XLZ_z _z (by omega), h1351⟩)⟩
        · show wp _ _ 132 33 [(2, vI z1302), (0, .ref r0), (1, vI a1)] [vI z1329, .ref r0] _ H1296 _
          refine wp_of e132 c132_33 (rw_if_eq (p1 := 40) (p2 := 36) (by decide) rfl ⟨Int.le_trans (by decide) b1330.1, Int.le_trans b1330.2 (by decide)⟩ (fun c1352 => ?_) (fun c1352 => ?_))
          · refine wp_of e132 c132_40 (rw_iconst (pc' := 41) rfl ?_)
            have _z : XLZ e d (a1).toNat (xlots d).toNat 1 := Or.inr ⟨rfl, by assumption⟩
            refine wp_of e132 c132_41 (xc_V (pc' := 44) (r := r0) (as := [vI 1]) (st := []) (lm_0_99) rfl rfl (Nat.le_of_ble_eq_true rfl) w1300 g0 sh_1 (by decide) rfl (by decide) (u_51  w1300 g0 ⟨by decide, by decide⟩) (fun R1353 T1354 H1355 p1356 => ?_))
            obtain ⟨e1357, w1359, f1360, z1361, e1358, b1362, p1363⟩ := p1356
            subst e1357
            subst e1358
            obtain ⟨a1364, a1365⟩ := p1363
            have f1366 := f1314.tr f1360 rfl
            show wp _ _ 132 44 [(2, vI z1302), (0, .ref r0), (1, vI a1)] [vI z1361] _ H1355 _
            have h1367 : CEN T H1355 ce e d := (CEN_fr w1300 gce f1360 rfl a1308)
            exact wp_ireturn e132 c132_44 rfl ⟨rfl, w1359, f1366, z1361, rfl, ⟨b1362.1, b1362.2⟩, (Or.inr ⟨by omega, XLZ_z _z (by omega), h1367⟩)⟩
          · exfalso
            omega
      · exfalso
        omega
    · have f1368 := f0.tr f1301 rfl
      show wp _ _ 132 9 [(0, .ref r0), (1, vI a1)] [vI z1302] _ H1296 _
      refine wp_of e132 c132_9 (rw_istore_n (pc' := 10) (z := z1302) (L' := [(2, vI z1302), (0, .ref r0), (1, vI a1)]) rfl rfl rfl ?_)
      refine wp_of e132 c132_10 (rw_iload_n (pc' := 11) (z := z1302) rfl rfl ?_)
      refine wp_of e132 c132_11 (rw_if_eq (p1 := 20) (p2 := 14) (by decide) rfl ⟨Int.le_trans (by decide) b1303.1, Int.le_trans b1303.2 (by decide)⟩ (fun c1369 => ?_) (fun c1369 => ?_))
      · exfalso
        omega
      · refine wp_of e132 c132_14 (rw_aload_n (pc' := 15) (v := .ref r0) rfl rfl rfl ?_)
        refine wp_of e132 c132_15 (rw_iload_n (pc' := 16) (z := z1302) rfl rfl ?_)
        refine wp_of e132 c132_16 (xc_V (pc' := 19) (r := r0) (as := [vI z1302]) (st := []) (lm_0_70) rfl rfl (Nat.le_of_ble_eq_true rfl) w1300 g0 sh_1 (by decide) rfl (by decide) (u_12  w1300 g0 ⟨Int.le_trans (by decide) b1303.1, Int.le_trans b1303.2 (by decide)⟩) (fun R1370 T1371 H1372 p1373 => ?_))
        obtain ⟨e1374, w1376, f1377, z1378, e1375, b1379, p1380⟩ := p1373
        subst e1374
        subst e1375
        obtain ⟨a1381, a1382⟩ := p1380
        have f1383 := f1368.tr f1377 rfl
        show wp _ _ 132 19 [(2, vI z1302), (0, .ref r0), (1, vI a1)] [vI z1378] _ H1372 _
        have h1384 : CEN T H1372 ce e d := (CEN_fr w1300 gce f1377 rfl a1313)
        exact wp_ireturn e132 c132_19 rfl ⟨rfl, w1376, f1383, z1378, rfl, ⟨b1379.1, b1379.2⟩, (Or.inl ⟨by omega, by omega, h1384⟩)⟩
/-! StrikeAwake.bars(I)I  -/
abbrev uq_135 (r0 : Nat) (a1 : Int) (cu : Nat) (wa : Nat) (ce : Nat) (gr : Nat) (e : xD) (d : xD) (n : Int) (T : wq_T) (H : wq_H) : Option Value → wq_T → wq_H → Prop := fun r T' H' => T = T' ∧ WT T H' ∧ wfr [(1, 10), (6, 5), (8, 999), (10, 999), (9, 999), (7, 999), (11, 999)] T H H' ∧ ∃ z : Int, some (vI z) = r ∧ ((-2147483648) ≤ z ∧ z ≤ 2147483647) ∧ (((z = -1) ∧ ((a1 < 0 ∨ d 0 6 ≤ a1) ∨ 20000 < n) ∧ CEN T H' ce e d) ∨ (((0 ≤ a1 ∧ a1 < d 0 6) ∧ n ≤ 20000) ∧ (XBO e d (a1).toNat (xlots d).toNat z) ∧ CEN T H' ce e d))
set_option maxHeartbeats 4000000 in
theorem u_135 {kt : Nat → Option mc_E} {T : wq_T} {H : wq_H} {r0 : Nat} {a1 : Int} {cu : Nat} {wa : Nat} {ce : Nat} {gr : Nat} {e : xD} {d : xD} {n : Int} (hW : WT T H) (g0 : T.2.2.2 r0 = some 1) (i1 : (-2147483648) ≤ a1 ∧ a1 ≤ 2147483647) (qcu : H r0 6 = (cu : Int)) (gcu : T.2.2.2 cu = some 27) (qwa : H r0 2 = (wa : Int)) (gwa : T.2.2.2 wa = some 6) (qce : H r0 3 = (ce : Int)) (gce : T.2.2.2 ce = some 12) (qgr : H r0 5 = (gr : Int)) (ggr : T.2.2.2 gr = some 25) (p0 : ∀ i, i ≠ 13 → e i = d i) (p1 : XW d) (p2 : e 0 3 = d 0 3) (p3 : e 0 0 = d 0 0) (p4 : H r0 8 = 0 ∨ n = xlots d) (p5 : H r0 8 ≠ 0 ∨ (d 0 3 = 0 ∧ d 0 0 = 0)) (hCU_cu : CU T H cu e d n) (hCEN_ce : CEN T H ce e d) (hHDR_ce : HDR T H ce ) : wpc kt 5 135 [.ref r0, vI a1] T H (uq_135 r0 a1 cu wa ce gr e d n T H) := by
  refine wp_enter e135 (Nat.le_of_ble_eq_true rfl) rfl ?_
  have f0 : wfr [(1, 10), (6, 5), (8, 999), (10, 999), (9, 999), (7, 999), (11, 999)] T H H := wfr.rf
  show wp _ _ 135 0 [(0, .ref r0), (1, vI a1)] [] _ H _
  have u1131 := CU_k hCU_cu
  have b1132 : 0 ≤ H r0 8 ∧ H r0 8 ≤ 1 := hW.box g0 (n := 13) rfl (by decide) rfl
  have _c7 : d 0 0 ≤ 24 := p1.2.1.2.1
  have _xc6 := p1.2.1
  unfold XC at _xc6
  have _e6 : e 0 6 = d 0 6 := by rw [p0 0 (by decide)]
  have _t6 : d 0 3 ≤ 0 → d 0 6 ≤ 0 := fun q => by
    by_cases c : 0 < d 0 6
    · have h := p1.2.2.2.2.2.1 0 c
      unfold xwB at h
      omega
    · omega
  refine wp_of e135 c135_0 (rw_aload_n (pc' := 1) (v := .ref r0) rfl rfl rfl ?_)
  refine wp_of e135 c135_1 (rw_aload_n (pc' := 2) (v := .ref r0) rfl rfl rfl ?_)
  refine wp_of e135 c135_2 (rw_iload_n (pc' := 3) (z := a1) rfl rfl ?_)
  refine wp_of e135 c135_3 (xc_V (pc' := 6) (r := r0) (as := [vI a1]) (st := [.ref r0]) (lm_0_238) rfl rfl (Nat.le_of_ble_eq_true rfl) hW g0 sh_1 (by decide) rfl (by decide) (u_133  hW g0 ⟨i1.1, i1.2⟩ qcu gcu) (fun R1133 T1134 H1135 p1136 => ?_))
  obtain ⟨e1137, e1139, z1140, e1138, b1141, p1142⟩ := p1136
  subst e1137
  subst e1138
  subst e1139
  rcases p1142 with ⟨a1143, a1144⟩ | ⟨a1145, a1146⟩
  · show wp _ _ 135 6 [(0, .ref r0), (1, vI a1)] [vI z1140, .ref r0] _ H _
    refine wp_of e135 c135_6 (xc_V (pc' := 9) (r := r0) (as := [vI z1140]) (st := []) (lm_0_245) rfl rfl (Nat.le_of_ble_eq_true rfl) hW g0 sh_1 (by decide) rfl (by decide) (u_84 (e := e) (d := d) (n := n) hW g0 ⟨b1141.1, b1141.2⟩ qcu gcu hCU_cu) (fun R1147 T1148 H1149 p1150 => ?_))
    obtain ⟨e1151, e1153, z1154, e1152, b1155, p1156⟩ := p1150
    subst e1151
    subst e1152
    subst e1153
    rcases p1156 with ⟨a1157, a1158, a1159⟩ | ⟨a1160, a1161⟩
    · show wp _ _ 135 9 [(0, .ref r0), (1, vI a1)] [vI z1154] _ H _
      refine wp_of e135 c135_9 (rw_istore_n (pc' := 10) (z := z1154) (L' := [(2, vI z1154), (0, .ref r0), (1, vI a1)]) rfl rfl rfl ?_)
      refine wp_of e135 c135_10 (rw_iload_n (pc' := 11) (z := z1154) rfl rfl ?_)
      refine wp_of e135 c135_11 (rw_if_eq (p1 := 20) (p2 := 14) (by decide) rfl ⟨Int.le_trans (by decide) b1155.1, Int.le_trans b1155.2 (by decide)⟩ (fun c1162 => ?_) (fun c1162 => ?_))
      · refine wp_of e135 c135_20 (rw_aload_n (pc' := 21) (v := .ref r0) rfl rfl rfl ?_)
        refine wp_of e135 c135_21 (rw_aload_n (pc' := 22) (v := .ref r0) rfl rfl rfl ?_)
        refine wp_of e135 c135_22 (xg_K (pc' := 25) lf_0_44 hW g0 sh_1 (by decide) (by decide) rfl qgr rfl ?_)
        refine wp_of e135 c135_25 (rw_aload_n (pc' := 26) (v := .ref r0) rfl rfl rfl ?_)
        refine wp_of e135 c135_26 (xg_K (pc' := 29) lf_0_51 hW g0 sh_1 (by decide) (by decide) rfl qcu rfl ?_)
        refine wp_of e135 c135_29 (rw_aload_n (pc' := 30) (v := .ref r0) rfl rfl rfl ?_)
        refine wp_of e135 c135_30 (xg_K (pc' := 33) lf_0_23 hW g0 sh_1 (by decide) (by decide) rfl qwa rfl ?_)
        refine wp_of e135 c135_33 (rw_iload_n (pc' := 34) (z := a1) rfl rfl ?_)
        refine wp_of e135 c135_34 (xc_V (pc' := 37) (r := gr) (as := [.ref cu, .ref wa, vI a1]) (st := [.ref r0]) (lm_0_248) rfl rfl (Nat.le_of_ble_eq_true rfl) hW ggr sh_25 (by decide) rfl (by decide) (u_136 (e := e) (d := d) (n := n) hW ggr gcu gwa ⟨by omega, by omega⟩ (by assumption) (by assumption) (by omega) (by omega) (by omega) (by omega) (by omega) hCU_cu) (fun R1163 T1164 H1165 p1166 => ?_))
        obtain ⟨e1167, w1169, f1170, z1171, e1168, b1172, p1173⟩ := p1166
        subst e1167
        subst e1168
        have f1175 := f0.tr f1170 rfl
        show wp _ _ 135 37 [(2, vI z1154), (0, .ref r0), (1, vI a1)] [vI z1171, .ref r0] _ H1165 _
        refine wp_of e135 c135_37 (xc_V (pc' := 40) (r := r0) (as := [vI z1171]) (st := []) (lm_0_99) rfl rfl (Nat.le_of_ble_eq_true rfl) w1169 g0 sh_1 (by decide) rfl (by decide) (u_51  w1169 g0 ⟨Int.le_trans (by decide) b1172.1, Int.le_trans b1172.2 (by decide)⟩) (fun R1176 T1177 H1178 p1179 => ?_))
        obtain ⟨e1180, w1182, f1183, z1184, e1181, b1185, p1186⟩ := p1179
        subst e1180
        subst e1181
        obtain ⟨a1187, a1188⟩ := p1186
        have f1189 := f1175.tr f1183 rfl
        show wp _ _ 135 40 [(2, vI z1154), (0, .ref r0), (1, vI a1)] [vI z1184] _ H1178 _
        have h1190 : CEN T H1178 ce e d := (CEN_fr w1169 gce f1183 rfl (CEN_fr hW gce f1170 rfl hCEN_ce))
        exact wp_ireturn e135 c135_40 rfl ⟨rfl, w1182, f1189, z1184, rfl, ⟨b1185.1, b1185.2⟩, (Or.inr ⟨by omega, XBO_z (by assumption) (by omega), h1190⟩)⟩
      · exfalso
        omega
    · show wp _ _ 135 9 [(0, .ref r0), (1, vI a1)] [vI z1154] _ H _
      refine wp_of e135 c135_9 (rw_istore_n (pc' := 10) (z := z1154) (L' := [(2, vI z1154), (0, .ref r0), (1, vI a1)]) rfl rfl rfl ?_)
      refine wp_of e135 c135_10 (rw_iload_n (pc' := 11) (z := z1154) rfl rfl ?_)
      refine wp_of e135 c135_11 (rw_if_eq (p1 := 20) (p2 := 14) (by decide) rfl ⟨Int.le_trans (by decide) b1155.1, Int.le_trans b1155.2 (by decide)⟩ (fun c1191 => ?_) (fun c1191 => ?_))
      · exfalso
        omega
      · refine wp_of e135 c135_14 (rw_aload_n (pc' := 15) (v := .ref r0) rfl rfl rfl ?_)
        refine wp_of e135 c135_15 (rw_iload_n (pc' := 16) (z := z1154) rfl rfl ?_)
        refine wp_of e135 c135_16 (xc_V (pc' := 19) (r := r0) (as := [vI z1154]) (st := []) (lm_0_70) rfl rfl (Nat.le_of_ble_eq_true rfl) hW g0 sh_1 (by decide) rfl (by decide) (u_12  hW g0 ⟨Int.le_trans (by decide) b1155.1, Int.le_trans b1155.2 (by decide)⟩) (fun R1192 T1193 H1194 p1195 => ?_))
        obtain ⟨e1196, w1198, f1199, z1200, e1197, b1201, p1202⟩ := p1195
        subst e1196
        subst e1197
        obtain ⟨a1203, a1204⟩ := p1202
        have f1205 := f0.tr f1199 rfl
        show wp _ _ 135 19 [(2, vI z1154), (0, .ref r0), (1, vI a1)] [vI z1200] _ H1194 _
        have h1206 : CEN T H1194 ce e d := (CEN_fr hW gce f1199 rfl hCEN_ce)
        exact wp_ireturn e135 c135_19 rfl ⟨rfl, w1198, f1205, z1200, rfl, ⟨b1201.1, b1201.2⟩, (Or.inl ⟨by omega, by omega, h1206⟩)⟩
  · show wp _ _ 135 6 [(0, .ref r0), (1, vI a1)] [vI z1140, .ref r0] _ H _
    refine wp_of e135 c135_6 (xc_V (pc' := 9) (r := r0) (as := [vI z1140]) (st := []) (lm_0_245) rfl rfl (Nat.le_of_ble_eq_true rfl) hW g0 sh_1 (by decide) rfl (by decide) (u_84 (e := e) (d := d) (n := n) hW g0 ⟨b1141.1, b1141.2⟩ qcu gcu hCU_cu) (fun R1207 T1208 H1209 p1210 => ?_))
    obtain ⟨e1211, e1213, z1214, e1212, b1215, p1216⟩ := p1210
    subst e1211
    subst e1212
    subst e1213
    rcases p1216 with ⟨a1217, a1218, a1219⟩ | ⟨a1220, a1221⟩
    · show wp _ _ 135 9 [(0, .ref r0), (1, vI a1)] [vI z1214] _ H _
      refine wp_of e135 c135_9 (rw_istore_n (pc' := 10) (z := z1214) (L' := [(2, vI z1214), (0, .ref r0), (1, vI a1)]) rfl rfl rfl ?_)
      refine wp_of e135 c135_10 (rw_iload_n (pc' := 11) (z := z1214) rfl rfl ?_)
      refine wp_of e135 c135_11 (rw_if_eq (p1 := 20) (p2 := 14) (by decide) rfl ⟨Int.le_trans (by decide) b1215.1, Int.le_trans b1215.2 (by decide)⟩ (fun c1222 => ?_) (fun c1222 => ?_))
      · refine wp_of e135 c135_20 (rw_aload_n (pc' := 21) (v := .ref r0) rfl rfl rfl ?_)
        refine wp_of e135 c135_21 (rw_aload_n (pc' := 22) (v := .ref r0) rfl rfl rfl ?_)
        refine wp_of e135 c135_22 (xg_K (pc' := 25) lf_0_44 hW g0 sh_1 (by decide) (by decide) rfl qgr rfl ?_)
        refine wp_of e135 c135_25 (rw_aload_n (pc' := 26) (v := .ref r0) rfl rfl rfl ?_)
        refine wp_of e135 c135_26 (xg_K (pc' := 29) lf_0_51 hW g0 sh_1 (by decide) (by decide) rfl qcu rfl ?_)
        refine wp_of e135 c135_29 (rw_aload_n (pc' := 30) (v := .ref r0) rfl rfl rfl ?_)
        refine wp_of e135 c135_30 (xg_K (pc' := 33) lf_0_23 hW g0 sh_1 (by decide) (by decide) rfl qwa rfl ?_)
        refine wp_of e135 c135_33 (rw_iload_n (pc' := 34) (z := a1) rfl rfl ?_)
        refine wp_of e135 c135_34 (xc_V (pc' := 37) (r := gr) (as := [.ref cu, .ref wa, vI a1]) (st := [.ref r0]) (lm_0_248) rfl rfl (Nat.le_of_ble_eq_true rfl) hW ggr sh_25 (by decide) rfl (by decide) (u_136 (e := e) (d := d) (n := n) hW ggr gcu gwa ⟨by omega, by omega⟩ (by assumption) (by assumption) (by omega) (by omega) (by omega) (by omega) (by omega) hCU_cu) (fun R1223 T1224 H1225 p1226 => ?_))
        obtain ⟨e1227, w1229, f1230, z1231, e1228, b1232, p1233⟩ := p1226
        subst e1227
        subst e1228
        have f1235 := f0.tr f1230 rfl
        show wp _ _ 135 37 [(2, vI z1214), (0, .ref r0), (1, vI a1)] [vI z1231, .ref r0] _ H1225 _
        refine wp_of e135 c135_37 (xc_V (pc' := 40) (r := r0) (as := [vI z1231]) (st := []) (lm_0_99) rfl rfl (Nat.le_of_ble_eq_true rfl) w1229 g0 sh_1 (by decide) rfl (by decide) (u_51  w1229 g0 ⟨Int.le_trans (by decide) b1232.1, Int.le_trans b1232.2 (by decide)⟩) (fun R1236 T1237 H1238 p1239 => ?_))
        obtain ⟨e1240, w1242, f1243, z1244, e1241, b1245, p1246⟩ := p1239
        subst e1240
        subst e1241
        obtain ⟨a1247, a1248⟩ := p1246
        have f1249 := f1235.tr f1243 rfl
        show wp _ _ 135 40 [(2, vI z1214), (0, .ref r0), (1, vI a1)] [vI z1244] _ H1238 _
        have h1250 : CEN T H1238 ce e d := (CEN_fr w1229 gce f1243 rfl (CEN_fr hW gce f1230 rfl hCEN_ce))
        exact wp_ireturn e135 c135_40 rfl ⟨rfl, w1242, f1249, z1244, rfl, ⟨b1245.1, b1245.2⟩, (Or.inr ⟨by omega, XBO_z (by assumption) (by omega), h1250⟩)⟩
      · exfalso
        omega
    · show wp _ _ 135 9 [(0, .ref r0), (1, vI a1)] [vI z1214] _ H _
      refine wp_of e135 c135_9 (rw_istore_n (pc' := 10) (z := z1214) (L' := [(2, vI z1214), (0, .ref r0), (1, vI a1)]) rfl rfl rfl ?_)
      refine wp_of e135 c135_10 (rw_iload_n (pc' := 11) (z := z1214) rfl rfl ?_)
      refine wp_of e135 c135_11 (rw_if_eq (p1 := 20) (p2 := 14) (by decide) rfl ⟨Int.le_trans (by decide) b1215.1, Int.le_trans b1215.2 (by decide)⟩ (fun c1251 => ?_) (fun c1251 => ?_))
      · exfalso
        omega
      · refine wp_of e135 c135_14 (rw_aload_n (pc' := 15) (v := .ref r0) rfl rfl rfl ?_)
        refine wp_of e135 c135_15 (rw_iload_n (pc' := 16) (z := z1214) rfl rfl ?_)
        refine wp_of e135 c135_16 (xc_V (pc' := 19) (r := r0) (as := [vI z1214]) (st := []) (lm_0_70) rfl rfl (Nat.le_of_ble_eq_true rfl) hW g0 sh_1 (by decide) rfl (by decide) (u_12  hW g0 ⟨Int.le_trans (by decide) b1215.1, Int.le_trans b1215.2 (by decide)⟩) (fun R1252 T1253 H1254 p1255 => ?_))
        obtain ⟨e1256, w1258, f1259, z1260, e1257, b1261, p1262⟩ := p1255
        subst e1256
        subst e1257
        obtain ⟨a1263, a1264⟩ := p1262
        have f1265 := f0.tr f1259 rfl
        show wp _ _ 135 19 [(2, vI z1214), (0, .ref r0), (1, vI a1)] [vI z1260] _ H1254 _
        have h1266 : CEN T H1254 ce e d := (CEN_fr hW gce f1259 rfl hCEN_ce)
        exact wp_ireturn e135 c135_19 rfl ⟨rfl, w1258, f1265, z1260, rfl, ⟨b1261.1, b1261.2⟩, (Or.inl ⟨by omega, by omega, h1266⟩)⟩
/-! StrikeAwake.proof()I  -/
abbrev uq_137 (r0 : Nat) (cu : Nat) (wa : Nat) (ce : Nat) (gr : Nat) (e : xD) (d : xD) (n : Int) (T : wq_T) (H : wq_H) : Option Value → wq_T → wq_H → Prop := fun r T' H' => T = T' ∧ WT T H' ∧ wfr [(12, 5), (12, 6), (12, 7), (12, 8), (12, 9), (25, 1), (25, 2), (1, 10), (6, 5), (8, 999), (10, 999), (26, 999), (15, 999), (9, 999), (18, 999), (19, 999), (7, 999), (11, 999), (17, 999), (13, 999)] T H H' ∧ ∃ z : Int, some (vI z) = r ∧ ((-2147483648) ≤ z ∧ z ≤ 2147483647) ∧ (((z = -1) ∧ (H r0 8 = 0 ∨ 5000 < n ∨ 0 < xcn (xwf e d) (xlots d).toNat) ∧ CEN T H' ce e d) ∨ ((-2 ≤ z ∧ z ≤ 16777215) ∧ (H r0 8 ≠ 0 ∧ n ≤ 5000 ∧ xcn (xwf e d) (xlots d).toNat ≤ 0) ∧ (XPF (e 13) (XPV e d (xlots d).toNat) z) ∧ CEN T H' ce e d))
set_option maxHeartbeats 4000000 in
theorem u_137 {kt : Nat → Option mc_E} {T : wq_T} {H : wq_H} {r0 : Nat} {cu : Nat} {wa : Nat} {ce : Nat} {gr : Nat} {e : xD} {d : xD} {n : Int} (hW : WT T H) (g0 : T.2.2.2 r0 = some 1) (qcu : H r0 6 = (cu : Int)) (gcu : T.2.2.2 cu = some 27) (qwa : H r0 2 = (wa : Int)) (gwa : T.2.2.2 wa = some 6) (qce : H r0 3 = (ce : Int)) (gce : T.2.2.2 ce = some 12) (qgr : H r0 5 = (gr : Int)) (ggr : T.2.2.2 gr = some 25) (p0 : ∀ i, i ≠ 13 → e i = d i) (p1 : XW d) (p2 : e 0 3 = d 0 3) (p3 : e 0 0 = d 0 0) (p4 : H r0 8 = 0 ∨ n = xlots d) (p5 : H r0 8 ≠ 0 ∨ (d 0 3 = 0 ∧ d 0 0 = 0)) (hCU_cu : CU T H cu e d n) (hCEN_ce : CEN T H ce e d) (hHDR_ce : HDR T H ce ) : wpc kt 6 137 [.ref r0] T H (uq_137 r0 cu wa ce gr e d n T H) := by
  refine wp_enter e137 (Nat.le_of_ble_eq_true rfl) rfl ?_
  have f0 : wfr [(12, 5), (12, 6), (12, 7), (12, 8), (12, 9), (25, 1), (25, 2), (1, 10), (6, 5), (8, 999), (10, 999), (26, 999), (15, 999), (9, 999), (18, 999), (19, 999), (7, 999), (11, 999), (17, 999), (13, 999)] T H H := wfr.rf
  show wp _ _ 137 0 [(0, .ref r0)] [] _ H _
  have u1103 := CU_k hCU_cu
  have b1104 : 0 ≤ H r0 8 ∧ H r0 8 ≤ 1 := hW.box g0 (n := 13) rfl (by decide) rfl
  have _c7 : d 0 0 ≤ 24 := p1.2.1.2.1
  have _x0 : 0 ≤ xlots d := (xpr_b hCU_cu.2.1.1 _ _).1
  refine wp_of e137 c137_0 (rw_aload_n (pc' := 1) (v := .ref r0) rfl rfl rfl ?_)
  refine wp_of e137 c137_1 (xg_I (pc' := 4) lf_0_58 hW g0 sh_1 (by decide) (by decide) ty_1_8 rfl rfl (fun b1105 b1106 => ?_))
  refine wp_of e137 c137_4 (rw_if_ne (p1 := 13) (p2 := 7) (by decide) rfl ⟨Int.le_trans (by decide) b1105, Int.le_trans b1106 (by decide)⟩ (fun c1107 => ?_) (fun c1107 => ?_))
  · refine wp_of e137 c137_13 (rw_aload_n (pc' := 14) (v := .ref r0) rfl rfl rfl ?_)
    refine wp_of e137 c137_14 (xg_K (pc' := 17) lf_0_51 hW g0 sh_1 (by decide) (by decide) rfl qcu rfl ?_)
    refine wp_of e137 c137_17 (xg_L (pc' := 20) lf_0_141 hW gcu sh_27 (by decide) (by decide) ty_27_18 rfl rfl (fun b1108 b1109 => ?_))
    refine wp_of e137 c137_20 (rw_ldc2 (pc' := 23) (z := 5000) rfl rfl rfl ?_)
    refine wp_of e137 c137_23 (rw_lcmp (pc' := 24) rfl ⟨b1108, b1109⟩ ⟨by decide, by decide⟩ ?_)
    have b1110 := wq_cmp_b (H cu 18) 5000
    refine wp_of e137 c137_24 (rw_if_le (p1 := 33) (p2 := 27) (by decide) rfl ⟨by omega, by omega⟩ (fun c1111 => ?_) (fun c1111 => ?_))
    · refine wp_of e137 c137_33 (rw_aload_n (pc' := 34) (v := .ref r0) rfl rfl rfl ?_)
      refine wp_of e137 c137_34 (xg_K (pc' := 37) lf_0_30 hW g0 sh_1 (by decide) (by decide) rfl qce rfl ?_)
      refine wp_of e137 c137_37 (rw_aload_n (pc' := 38) (v := .ref r0) rfl rfl rfl ?_)
      refine wp_of e137 c137_38 (xg_K (pc' := 41) lf_0_51 hW g0 sh_1 (by decide) (by decide) rfl qcu rfl ?_)
      refine wp_of e137 c137_41 (rw_aload_n (pc' := 42) (v := .ref r0) rfl rfl rfl ?_)
      refine wp_of e137 c137_42 (xg_K (pc' := 45) lf_0_23 hW g0 sh_1 (by decide) (by decide) rfl qwa rfl ?_)
      refine wp_of e137 c137_45 (xc_V (pc' := 48) (r := ce) (as := [.ref cu, .ref wa]) (st := []) (lm_0_254) rfl rfl (Nat.le_of_ble_eq_true rfl) hW gce sh_12 (by decide) rfl (by decide) (u_85 (e := e) (d := d) (n := n) hW gce gcu gwa (by assumption) (by assumption) (by omega) (by omega) (by omega) (by omega) hCU_cu hCEN_ce hHDR_ce) (fun R1112 T1113 H1114 p1115 => ?_))
      obtain ⟨e1116, w1118, f1119, e1117, p1120⟩ := p1115
      subst e1116
      subst e1117
      obtain ⟨a1121, a1122, a1123, a1124⟩ := p1120
      have f1125 := f0.tr f1119 rfl
      show wp _ _ 137 48 [(0, .ref r0)] [] _ H1114 _
      refine wp_of e137 c137_48 (rw_aload_n (pc' := 49) (v := .ref r0) rfl rfl rfl ?_)
      have h1126 : CEN T H1114 ce e d := Or.inr ⟨by omega, a1122⟩
      have _cbb := a1122
      have _cb := _cbb.1
      have _cb6 := _cbb.2.1
      have _cb8 := _cbb.2.2.1
      have _cb7 := _cbb.2.2.2.1
      have h1127 : CEM T H1114 ce (xwf e d) (xlots d).toNat := _cbb.2.2.2.2
      have k1128 : H1114 r0 3 = H r0 3 := (f1119 r0 3 _ g0 rfl)
      have q1129 : H1114 r0 3 = (ce : Int) := k1128.trans qce
      refine wp_of e137 c137_49 (xg_K (pc' := 52) lf_0_30 w1118 g0 sh_1 (by decide) (by decide) rfl q1129 rfl ?_)
      refine wp_of e137 c137_52 (xg_I (pc' := 55) lf_0_177 w1118 gce sh_12 (by decide) (by decide) ty_12_5 rfl rfl (fun b1130 b1131 => ?_))
      refine wp_of e137 c137_55 (rw_if_le (p1 := 64) (p2 := 58) (by decide) rfl ⟨b1130, b1131⟩ (fun c1132 => ?_) (fun c1132 => ?_))
      · refine wp_of e137 c137_64 (rw_aload_n (pc' := 65) (v := .ref r0) rfl rfl rfl ?_)
        refine wp_of e137 c137_65 (rw_aload_n (pc' := 66) (v := .ref r0) rfl rfl rfl ?_)
        have k1133 : H1114 r0 5 = H r0 5 := (f1119 r0 5 _ g0 rfl)
        have q1134 : H1114 r0 5 = (gr : Int) := k1133.trans qgr
        refine wp_of e137 c137_66 (xg_K (pc' := 69) lf_0_44 w1118 g0 sh_1 (by decide) (by decide) rfl q1134 rfl ?_)
        refine wp_of e137 c137_69 (rw_aload_n (pc' := 70) (v := .ref r0) rfl rfl rfl ?_)
        have k1135 : H1114 r0 6 = H r0 6 := (f1119 r0 6 _ g0 rfl)
        have q1136 : H1114 r0 6 = (cu : Int) := k1135.trans qcu
        refine wp_of e137 c137_70 (xg_K (pc' := 73) lf_0_51 w1118 g0 sh_1 (by decide) (by decide) rfl q1136 rfl ?_)
        refine wp_of e137 c137_73 (rw_aload_n (pc' := 74) (v := .ref r0) rfl rfl rfl ?_)
        have k1137 : H1114 r0 2 = H r0 2 := (f1119 r0 2 _ g0 rfl)
        have q1138 : H1114 r0 2 = (wa : Int) := k1137.trans qwa
        refine wp_of e137 c137_74 (xg_K (pc' := 77) lf_0_23 w1118 g0 sh_1 (by decide) (by decide) rfl q1138 rfl ?_)
        have k1139 : H1114 cu 18 = H cu 18 := (f1119 cu 18 _ gcu rfl)
        have h1140 : CU T H1114 cu e d n := (CU_fr hW gcu f1119 rfl hCU_cu)
        refine wp_of e137 c137_77 (xc_V (pc' := 80) (r := gr) (as := [.ref cu, .ref wa]) (st := [.ref r0]) (lm_0_258) rfl rfl (Nat.le_of_ble_eq_true rfl) w1118 ggr sh_25 (by decide) rfl (by decide) (u_138 (e := e) (d := d) (n := n) w1118 ggr gcu gwa (by assumption) (by assumption) (by omega) (by omega) (by omega) (by omega) h1140) (fun R1141 T1142 H1143 p1144 => ?_))
        obtain ⟨e1145, w1147, f1148, z1149, e1146, b1150, p1151⟩ := p1144
        subst e1145
        subst e1146
        have f1153 := f1125.tr f1148 rfl
        show wp _ _ 137 80 [(0, .ref r0)] [vI z1149, .ref r0] _ H1143 _
        refine wp_of e137 c137_80 (xc_V (pc' := 83) (r := r0) (as := [vI z1149]) (st := []) (lm_0_99) rfl rfl (Nat.le_of_ble_eq_true rfl) w1147 g0 sh_1 (by decide) rfl (by decide) (u_51  w1147 g0 ⟨Int.le_trans (by decide) b1150.1, Int.le_trans b1150.2 (by decide)⟩) (fun R1154 T1155 H1156 p1157 => ?_))
        obtain ⟨e1158, w1160, f1161, z1162, e1159, b1163, p1164⟩ := p1157
        subst e1158
        subst e1159
        obtain ⟨a1165, a1166⟩ := p1164
        have f1167 := f1153.tr f1161 rfl
        show wp _ _ 137 83 [(0, .ref r0)] [vI z1162] _ H1156 _
        have h1168 : CEN T H1156 ce e d := (CEN_fr w1147 gce f1161 rfl (CEN_fr w1118 gce f1148 rfl h1126))
        exact wp_ireturn e137 c137_83 rfl ⟨rfl, w1160, f1167, z1162, rfl, ⟨b1163.1, b1163.2⟩, (Or.inr ⟨by omega, by omega, XPF_z (by assumption) (by omega), h1168⟩)⟩
      · refine wp_of e137 c137_58 (rw_aload_n (pc' := 59) (v := .ref r0) rfl rfl rfl ?_)
        refine wp_of e137 c137_59 (rw_iconst (pc' := 60) rfl ?_)
        refine wp_of e137 c137_60 (xc_V (pc' := 63) (r := r0) (as := [vI 5]) (st := []) (lm_0_70) rfl rfl (Nat.le_of_ble_eq_true rfl) w1118 g0 sh_1 (by decide) rfl (by decide) (u_12  w1118 g0 ⟨by decide, by decide⟩) (fun R1169 T1170 H1171 p1172 => ?_))
        obtain ⟨e1173, w1175, f1176, z1177, e1174, b1178, p1179⟩ := p1172
        subst e1173
        subst e1174
        obtain ⟨a1180, a1181⟩ := p1179
        have f1182 := f1125.tr f1176 rfl
        show wp _ _ 137 63 [(0, .ref r0)] [vI z1177] _ H1171 _
        have h1183 : CEN T H1171 ce e d := (CEN_fr w1118 gce f1176 rfl h1126)
        exact wp_ireturn e137 c137_63 rfl ⟨rfl, w1175, f1182, z1177, rfl, ⟨b1178.1, b1178.2⟩, (Or.inl ⟨by omega, by omega, h1183⟩)⟩
    · refine wp_of e137 c137_27 (rw_aload_n (pc' := 28) (v := .ref r0) rfl rfl rfl ?_)
      refine wp_of e137 c137_28 (rw_iconst (pc' := 29) rfl ?_)
      refine wp_of e137 c137_29 (xc_V (pc' := 32) (r := r0) (as := [vI 3]) (st := []) (lm_0_70) rfl rfl (Nat.le_of_ble_eq_true rfl) hW g0 sh_1 (by decide) rfl (by decide) (u_12  hW g0 ⟨by decide, by decide⟩) (fun R1184 T1185 H1186 p1187 => ?_))
      obtain ⟨e1188, w1190, f1191, z1192, e1189, b1193, p1194⟩ := p1187
      subst e1188
      subst e1189
      obtain ⟨a1195, a1196⟩ := p1194
      have f1197 := f0.tr f1191 rfl
      show wp _ _ 137 32 [(0, .ref r0)] [vI z1192] _ H1186 _
      have h1198 : CEN T H1186 ce e d := (CEN_fr hW gce f1191 rfl hCEN_ce)
      exact wp_ireturn e137 c137_32 rfl ⟨rfl, w1190, f1197, z1192, rfl, ⟨b1193.1, b1193.2⟩, (Or.inl ⟨by omega, by omega, h1198⟩)⟩
  · refine wp_of e137 c137_7 (rw_aload_n (pc' := 8) (v := .ref r0) rfl rfl rfl ?_)
    refine wp_of e137 c137_8 (rw_iconst (pc' := 9) rfl ?_)
    refine wp_of e137 c137_9 (xc_V (pc' := 12) (r := r0) (as := [vI 1]) (st := []) (lm_0_70) rfl rfl (Nat.le_of_ble_eq_true rfl) hW g0 sh_1 (by decide) rfl (by decide) (u_12  hW g0 ⟨by decide, by decide⟩) (fun R1199 T1200 H1201 p1202 => ?_))
    obtain ⟨e1203, w1205, f1206, z1207, e1204, b1208, p1209⟩ := p1202
    subst e1203
    subst e1204
    obtain ⟨a1210, a1211⟩ := p1209
    have f1212 := f0.tr f1206 rfl
    show wp _ _ 137 12 [(0, .ref r0)] [vI z1207] _ H1201 _
    have h1213 : CEN T H1201 ce e d := (CEN_fr hW gce f1206 rfl hCEN_ce)
    exact wp_ireturn e137 c137_12 rfl ⟨rfl, w1205, f1212, z1207, rfl, ⟨b1208.1, b1208.2⟩, (Or.inl ⟨by omega, by omega, h1213⟩)⟩
