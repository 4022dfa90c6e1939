/-! what methods do (own work, written by wip/gen3/sx3.py) -/
/-! StrikeAwake.bed(IZ)I  -/
abbrev uq_117 (r0 : Nat) (a1 : Int) (a2 : Int) (cu : Nat) (wa : Nat) (ce : Nat) (e : xD) (d : xD) (n : Int) (T : wq_T) (H : wq_H) : Option Value → wq_T → wq_H → Prop := fun r T' H' => T = T' ∧ WT T H' ∧ wfr [(12, 5), (12, 6), (12, 7), (12, 8), (12, 9), (1, 10), (6, 5), (8, 999), (10, 999), (15, 999), (9, 999), (18, 999), (19, 999), (7, 999), (11, 999), (17, 999), (13, 999)] T H H' ∧ ∃ z : Int, some (vI z) = r ∧ ((-2147483648) ≤ z ∧ z ≤ 2147483647) ∧ (((z = -1) ∧ ((a1 < 0 ∨ d 0 3 ≤ a1) ∨ 20000 < n ∨ xcn (xwf e d) (xlots d).toNat ≤ 0) ∧ CEN T H' ce e d) ∨ (((0 ≤ a1 ∧ a1 < d 0 3) ∧ n ≤ 20000 ∧ 0 < xcn (xwf e d) (xlots d).toNat) ∧ (XEX (decide (a2 ≠ 0)) (xwf e d) (fun n => (xpt d (xlot d n) (a1).toNat).1) (xlots d).toNat z) ∧ CEN T H' ce e d))
set_option maxHeartbeats 4000000 in
theorem u_117 {kt : Nat → Option mc_E} {T : wq_T} {H : wq_H} {r0 : Nat} {a1 : Int} {a2 : Int} {cu : Nat} {wa : Nat} {ce : Nat} {e : xD} {d : xD} {n : Int} (hW : WT T H) (g0 : T.2.2.2 r0 = some 1) (i1 : (-2147483648) ≤ a1 ∧ a1 ≤ 2147483647) (i2 : 0 ≤ a2 ∧ a2 ≤ 1) (qcu : H r0 6 = (cu : Int)) (gcu : T.2.2.2 cu = some 27) (qwa : H r0 2 = (wa : Int)) (gwa : T.2.2.2 wa = some 6) (qce : H r0 3 = (ce : Int)) (gce : T.2.2.2 ce = some 12) (p0 : ∀ i, i ≠ 13 → e i = d i) (p1 : XW d) (p2 : e 0 3 = d 0 3) (p3 : e 0 0 = d 0 0) (p4 : H r0 8 = 0 ∨ n = xlots d) (p5 : H r0 8 ≠ 0 ∨ (d 0 3 = 0 ∧ d 0 0 = 0)) (hCU_cu : CU T H cu e d n) (hCEN_ce : CEN T H ce e d) (hHDR_ce : HDR T H ce ) : wpc kt 7 117 [.ref r0, vI a1, vI a2] T H (uq_117 r0 a1 a2 cu wa ce e d n T H) := by
  refine wp_enter e117 (Nat.le_of_ble_eq_true rfl) rfl ?_
  have f0 : wfr [(12, 5), (12, 6), (12, 7), (12, 8), (12, 9), (1, 10), (6, 5), (8, 999), (10, 999), (15, 999), (9, 999), (18, 999), (19, 999), (7, 999), (11, 999), (17, 999), (13, 999)] T H H := wfr.rf
  show wp _ _ 117 0 [(0, .ref r0), (1, vI a1), (2, vI a2)] [] _ H _
  have u1169 := CU_k hCU_cu
  have b1170 : 0 ≤ H r0 8 ∧ H r0 8 ≤ 1 := hW.box g0 (n := 13) rfl (by decide) rfl
  refine wp_of e117 c117_0 (rw_aload_n (pc' := 1) (v := .ref r0) rfl rfl rfl ?_)
  refine wp_of e117 c117_1 (rw_aload_n (pc' := 2) (v := .ref r0) rfl rfl rfl ?_)
  refine wp_of e117 c117_2 (rw_iload_n (pc' := 3) (z := a1) rfl rfl ?_)
  refine wp_of e117 c117_3 (xc_V (pc' := 6) (r := r0) (as := [vI a1]) (st := [.ref r0]) (lm_0_105) rfl rfl (Nat.le_of_ble_eq_true rfl) hW g0 sh_1 (by decide) rfl (by decide) (u_55  hW g0 ⟨by omega, by omega⟩ qcu gcu) (fun R1171 T1172 H1173 p1174 => ?_))
  obtain ⟨e1175, e1177, z1178, e1176, b1179, p1180⟩ := p1174
  subst e1175
  subst e1176
  subst e1177
  rcases p1180 with ⟨a1181, a1182⟩ | ⟨a1183, a1184⟩
  · show wp _ _ 117 6 [(0, .ref r0), (1, vI a1), (2, vI a2)] [vI z1178, .ref r0] _ H _
    refine wp_of e117 c117_6 (xc_V (pc' := 9) (r := r0) (as := [vI z1178]) (st := []) (lm_0_198) rfl rfl (Nat.le_of_ble_eq_true rfl) hW g0 sh_1 (by decide) rfl (by decide) (u_102 (e := e) (d := d) (n := n) hW g0 ⟨by omega, by omega⟩ qcu gcu qwa gwa qce gce (by assumption) (by assumption) (by omega) (by omega) (by omega) hCU_cu hCEN_ce hHDR_ce) (fun R1185 T1186 H1187 p1188 => ?_))
    obtain ⟨e1189, w1191, f1192, z1193, e1190, b1194, p1195⟩ := p1188
    subst e1189
    subst e1190
    rcases p1195 with ⟨a1196, a1197, a1198, a1199, a1200, a1201, a1202⟩ | ⟨a1203, a1204, a1205⟩
    · have f1206 := f0.tr f1192 rfl
      show wp _ _ 117 9 [(0, .ref r0), (1, vI a1), (2, vI a2)] [vI z1193] _ H1187 _
      refine wp_of e117 c117_9 (rw_istore_n (pc' := 10) (z := z1193) (L' := [(3, vI z1193), (0, .ref r0), (1, vI a1), (2, vI a2)]) rfl rfl rfl ?_)
      refine wp_of e117 c117_10 (rw_iload_n (pc' := 11) (z := z1193) rfl rfl ?_)
      refine wp_of e117 c117_11 (rw_if_eq (p1 := 20) (p2 := 14) (by decide) rfl ⟨by omega, by omega⟩ (fun c1207 => ?_) (fun c1207 => ?_))
      · have h1208 : HV1 T H1187 ce (d 0 3) (fun p i => xhc e d p i (xlots d).toNat) := (a1202).1
        refine wp_of e117 c117_20 (rw_aload_n (pc' := 21) (v := .ref r0) rfl rfl rfl ?_)
        refine wp_of e117 c117_21 (rw_aload_n (pc' := 22) (v := .ref r0) rfl rfl rfl ?_)
        have k1209 : H1187 r0 3 = H r0 3 := (f1192 r0 3 _ g0 rfl)
        have q1210 : H1187 r0 3 = (ce : Int) := k1209.trans qce
        refine wp_of e117 c117_22 (xg_K (pc' := 25) lf_0_30 w1191 g0 sh_1 (by decide) (by decide) rfl q1210 rfl ?_)
        refine wp_of e117 c117_25 (rw_aload_n (pc' := 26) (v := .ref r0) rfl rfl rfl ?_)
        have k1211 : H1187 r0 6 = H r0 6 := (f1192 r0 6 _ g0 rfl)
        have q1212 : H1187 r0 6 = (cu : Int) := k1211.trans qcu
        refine wp_of e117 c117_26 (xg_K (pc' := 29) lf_0_51 w1191 g0 sh_1 (by decide) (by decide) rfl q1212 rfl ?_)
        refine wp_of e117 c117_29 (xg_R (pc' := 32) lf_0_109 w1191 gcu sh_27 (by decide) (by decide) ty_27_0 rfl rfl (fun r1213 q1214 g1215 => ?_))
        refine wp_of e117 c117_32 (rw_iload_n (pc' := 33) (z := a1) rfl rfl ?_)
        refine wp_of e117 c117_33 (xa_R (pc' := 34) (by decide) w1191 g1215 sh_28 (by decide) (ty_28 _) (by omega) (by omega) rfl (fun r1216 q1217 g1218 => ?_))
        have h1219 : CU T H1187 cu e d n := (CU_fr hW gcu f1192 rfl hCU_cu)
        have _z := CS_at (h1219).2.1 q1214 q1217 (k := (a1).toNat) (by omega) (by omega)
        have _l := @xsp_len d (a1).toNat (h1219).2.1.1
        have h1220 : PS T H1187 r1216 d (a1).toNat (xsp d (a1).toNat) := _z.1
        have _n := h1220.1
        refine wp_of e117 c117_34 (xg_R (pc' := 37) lf_0_125 w1191 g1218 sh_35 (by decide) (by decide) ty_35_0 rfl rfl (fun r1221 q1222 g1223 => ?_))
        have h1224 : RWb T H1187 r1221 ((xsp d (a1).toNat).length : Int) (fun i => ((xsp d (a1).toNat).getD i (0, 0)).1) := fun k hk => DA_at (h1220).2.1 q1222 hk
        refine wp_of e117 c117_37 (rw_iload_n (pc' := 38) (z := a1) rfl rfl ?_)
        refine wp_of e117 c117_38 (rw_iload_n (pc' := 39) (z := a2) rfl rfl ?_)
        refine wp_of e117 c117_39 (xc_V (pc' := 42) (r := ce) (as := [.ref r1221, vI a1, vI a2]) (st := [.ref r0]) (lm_0_223) rfl rfl (Nat.le_of_ble_eq_true rfl) w1191 gce sh_12 (by decide) rfl (by decide) (u_118_b (e := e) (d := d) w1191 gce g1223 ⟨by omega, by omega⟩ ⟨by omega, by omega⟩ (by assumption) (by omega) (by omega) h1208 h1224) (fun R1225 T1226 H1227 p1228 => ?_))
        obtain ⟨e1229, e1231, z1232, e1230, b1233, p1234⟩ := p1228
        subst e1229
        subst e1230
        subst e1231
        show wp _ _ 117 42 [(3, vI z1193), (0, .ref r0), (1, vI a1), (2, vI a2)] [vI z1232, .ref r0] _ H1187 _
        refine wp_of e117 c117_42 (xc_V (pc' := 45) (r := r0) (as := [vI z1232]) (st := []) (lm_0_99) rfl rfl (Nat.le_of_ble_eq_true rfl) w1191 g0 sh_1 (by decide) rfl (by decide) (u_51  w1191 g0 ⟨by omega, by omega⟩) (fun R1236 T1237 H1238 p1239 => ?_))
        obtain ⟨e1240, w1242, f1243, z1244, e1241, b1245, p1246⟩ := p1239
        subst e1240
        subst e1241
        obtain ⟨a1247, a1248⟩ := p1246
        have f1249 := f1206.tr f1243 rfl
        show wp _ _ 117 45 [(3, vI z1193), (0, .ref r0), (1, vI a1), (2, vI a2)] [vI z1244] _ H1238 _
        have h1250 : CEN T H1238 ce e d := (CEN_fr w1191 gce f1243 rfl a1200)
        exact wp_ireturn e117 c117_45 rfl ⟨rfl, w1242, f1249, z1244, rfl, ⟨by omega, by omega⟩, (Or.inr ⟨by omega, by assumption, h1250⟩)⟩
      · exfalso
        omega
    · have f1251 := f0.tr f1192 rfl
      show wp _ _ 117 9 [(0, .ref r0), (1, vI a1), (2, vI a2)] [vI z1193] _ H1187 _
      refine wp_of e117 c117_9 (rw_istore_n (pc' := 10) (z := z1193) (L' := [(3, vI z1193), (0, .ref r0), (1, vI a1), (2, vI a2)]) rfl rfl rfl ?_)
      refine wp_of e117 c117_10 (rw_iload_n (pc' := 11) (z := z1193) rfl rfl ?_)
      refine wp_of e117 c117_11 (rw_if_eq (p1 := 20) (p2 := 14) (by decide) rfl ⟨by omega, by omega⟩ (fun c1252 => ?_) (fun c1252 => ?_))
      · exfalso
        omega
      · refine wp_of e117 c117_14 (rw_aload_n (pc' := 15) (v := .ref r0) rfl rfl rfl ?_)
        refine wp_of e117 c117_15 (rw_iload_n (pc' := 16) (z := z1193) rfl rfl ?_)
        refine wp_of e117 c117_16 (xc_V (pc' := 19) (r := r0) (as := [vI z1193]) (st := []) (lm_0_70) rfl rfl (Nat.le_of_ble_eq_true rfl) w1191 g0 sh_1 (by decide) rfl (by decide) (u_12  w1191 g0 ⟨by omega, by omega⟩) (fun R1253 T1254 H1255 p1256 => ?_))
        obtain ⟨e1257, w1259, f1260, z1261, e1258, b1262, p1263⟩ := p1256
        subst e1257
        subst e1258
        obtain ⟨a1264, a1265⟩ := p1263
        have f1266 := f1251.tr f1260 rfl
        show wp _ _ 117 19 [(3, vI z1193), (0, .ref r0), (1, vI a1), (2, vI a2)] [vI z1261] _ H1255 _
        have h1267 : CEN T H1255 ce e d := (CEN_fr w1191 gce f1260 rfl a1205)
        exact wp_ireturn e117 c117_19 rfl ⟨rfl, w1259, f1266, z1261, rfl, ⟨by omega, by omega⟩, (Or.inl ⟨by omega, by omega, h1267⟩)⟩
  · show wp _ _ 117 6 [(0, .ref r0), (1, vI a1), (2, vI a2)] [vI z1178, .ref r0] _ H _
    refine wp_of e117 c117_6 (xc_V (pc' := 9) (r := r0) (as := [vI z1178]) (st := []) (lm_0_198) rfl rfl (Nat.le_of_ble_eq_true rfl) hW g0 sh_1 (by decide) rfl (by decide) (u_102 (e := e) (d := d) (n := n) hW g0 ⟨by omega, by omega⟩ qcu gcu qwa gwa qce gce (by assumption) (by assumption) (by omega) (by omega) (by omega) hCU_cu hCEN_ce hHDR_ce) (fun R1268 T1269 H1270 p1271 => ?_))
    obtain ⟨e1272, w1274, f1275, z1276, e1273, b1277, p1278⟩ := p1271
    subst e1272
    subst e1273
    rcases p1278 with ⟨a1279, a1280, a1281, a1282, a1283, a1284, a1285⟩ | ⟨a1286, a1287, a1288⟩
    · have f1289 := f0.tr f1275 rfl
      show wp _ _ 117 9 [(0, .ref r0), (1, vI a1), (2, vI a2)] [vI z1276] _ H1270 _
      refine wp_of e117 c117_9 (rw_istore_n (pc' := 10) (z := z1276) (L' := [(3, vI z1276), (0, .ref r0), (1, vI a1), (2, vI a2)]) rfl rfl rfl ?_)
      refine wp_of e117 c117_10 (rw_iload_n (pc' := 11) (z := z1276) rfl rfl ?_)
      refine wp_of e117 c117_11 (rw_if_eq (p1 := 20) (p2 := 14) (by decide) rfl ⟨by omega, by omega⟩ (fun c1290 => ?_) (fun c1290 => ?_))
      · have h1291 : HV1 T H1270 ce (d 0 3) (fun p i => xhc e d p i (xlots d).toNat) := (a1285).1
        refine wp_of e117 c117_20 (rw_aload_n (pc' := 21) (v := .ref r0) rfl rfl rfl ?_)
        refine wp_of e117 c117_21 (rw_aload_n (pc' := 22) (v := .ref r0) rfl rfl rfl ?_)
        have k1292 : H1270 r0 3 = H r0 3 := (f1275 r0 3 _ g0 rfl)
        have q1293 : H1270 r0 3 = (ce : Int) := k1292.trans qce
        refine wp_of e117 c117_22 (xg_K (pc' := 25) lf_0_30 w1274 g0 sh_1 (by decide) (by decide) rfl q1293 rfl ?_)
        refine wp_of e117 c117_25 (rw_aload_n (pc' := 26) (v := .ref r0) rfl rfl rfl ?_)
        have k1294 : H1270 r0 6 = H r0 6 := (f1275 r0 6 _ g0 rfl)
        have q1295 : H1270 r0 6 = (cu : Int) := k1294.trans qcu
        refine wp_of e117 c117_26 (xg_K (pc' := 29) lf_0_51 w1274 g0 sh_1 (by decide) (by decide) rfl q1295 rfl ?_)
        refine wp_of e117 c117_29 (xg_R (pc' := 32) lf_0_109 w1274 gcu sh_27 (by decide) (by decide) ty_27_0 rfl rfl (fun r1296 q1297 g1298 => ?_))
        refine wp_of e117 c117_32 (rw_iload_n (pc' := 33) (z := a1) rfl rfl ?_)
        refine wp_of e117 c117_33 (xa_R (pc' := 34) (by decide) w1274 g1298 sh_28 (by decide) (ty_28 _) (by omega) (by omega) rfl (fun r1299 q1300 g1301 => ?_))
        have h1302 : CU T H1270 cu e d n := (CU_fr hW gcu f1275 rfl hCU_cu)
        have _z := CS_at (h1302).2.1 q1297 q1300 (k := (a1).toNat) (by omega) (by omega)
        have _l := @xsp_len d (a1).toNat (h1302).2.1.1
        have h1303 : PS T H1270 r1299 d (a1).toNat (xsp d (a1).toNat) := _z.1
        have _n := h1303.1
        refine wp_of e117 c117_34 (xg_R (pc' := 37) lf_0_125 w1274 g1301 sh_35 (by decide) (by decide) ty_35_0 rfl rfl (fun r1304 q1305 g1306 => ?_))
        have h1307 : RWb T H1270 r1304 ((xsp d (a1).toNat).length : Int) (fun i => ((xsp d (a1).toNat).getD i (0, 0)).1) := fun k hk => DA_at (h1303).2.1 q1305 hk
        refine wp_of e117 c117_37 (rw_iload_n (pc' := 38) (z := a1) rfl rfl ?_)
        refine wp_of e117 c117_38 (rw_iload_n (pc' := 39) (z := a2) rfl rfl ?_)
        refine wp_of e117 c117_39 (xc_V (pc' := 42) (r := ce) (as := [.ref r1304, vI a1, vI a2]) (st := [.ref r0]) (lm_0_223) rfl rfl (Nat.le_of_ble_eq_true rfl) w1274 gce sh_12 (by decide) rfl (by decide) (u_118_b (e := e) (d := d) w1274 gce g1306 ⟨by omega, by omega⟩ ⟨by omega, by omega⟩ (by assumption) (by omega) (by omega) h1291 h1307) (fun R1308 T1309 H1310 p1311 => ?_))
        obtain ⟨e1312, e1314, z1315, e1313, b1316, p1317⟩ := p1311
        subst e1312
        subst e1313
        subst e1314
        show wp _ _ 117 42 [(3, vI z1276), (0, .ref r0), (1, vI a1), (2, vI a2)] [vI z1315, .ref r0] _ H1270 _
        refine wp_of e117 c117_42 (xc_V (pc' := 45) (r := r0) (as := [vI z1315]) (st := []) (lm_0_99) rfl rfl (Nat.le_of_ble_eq_true rfl) w1274 g0 sh_1 (by decide) rfl (by decide) (u_51  w1274 g0 ⟨by omega, by omega⟩) (fun R1319 T1320 H1321 p1322 => ?_))
        obtain ⟨e1323, w1325, f1326, z1327, e1324, b1328, p1329⟩ := p1322
        subst e1323
        subst e1324
        obtain ⟨a1330, a1331⟩ := p1329
        have f1332 := f1289.tr f1326 rfl
        show wp _ _ 117 45 [(3, vI z1276), (0, .ref r0), (1, vI a1), (2, vI a2)] [vI z1327] _ H1321 _
        have h1333 : CEN T H1321 ce e d := (CEN_fr w1274 gce f1326 rfl a1283)
        exact wp_ireturn e117 c117_45 rfl ⟨rfl, w1325, f1332, z1327, rfl, ⟨by omega, by omega⟩, (Or.inr ⟨by omega, by assumption, h1333⟩)⟩
      · exfalso
        omega
    · have f1334 := f0.tr f1275 rfl
      show wp _ _ 117 9 [(0, .ref r0), (1, vI a1), (2, vI a2)] [vI z1276] _ H1270 _
      refine wp_of e117 c117_9 (rw_istore_n (pc' := 10) (z := z1276) (L' := [(3, vI z1276), (0, .ref r0), (1, vI a1), (2, vI a2)]) rfl rfl rfl ?_)
      refine wp_of e117 c117_10 (rw_iload_n (pc' := 11) (z := z1276) rfl rfl ?_)
      refine wp_of e117 c117_11 (rw_if_eq (p1 := 20) (p2 := 14) (by decide) rfl ⟨by omega, by omega⟩ (fun c1335 => ?_) (fun c1335 => ?_))
      · exfalso
        omega
      · refine wp_of e117 c117_14 (rw_aload_n (pc' := 15) (v := .ref r0) rfl rfl rfl ?_)
        refine wp_of e117 c117_15 (rw_iload_n (pc' := 16) (z := z1276) rfl rfl ?_)
        refine wp_of e117 c117_16 (xc_V (pc' := 19) (r := r0) (as := [vI z1276]) (st := []) (lm_0_70) rfl rfl (Nat.le_of_ble_eq_true rfl) w1274 g0 sh_1 (by decide) rfl (by decide) (u_12  w1274 g0 ⟨by omega, by omega⟩) (fun R1336 T1337 H1338 p1339 => ?_))
        obtain ⟨e1340, w1342, f1343, z1344, e1341, b1345, p1346⟩ := p1339
        subst e1340
        subst e1341
        obtain ⟨a1347, a1348⟩ := p1346
        have f1349 := f1334.tr f1343 rfl
        show wp _ _ 117 19 [(3, vI z1276), (0, .ref r0), (1, vI a1), (2, vI a2)] [vI z1344] _ H1338 _
        have h1350 : CEN T H1338 ce e d := (CEN_fr w1274 gce f1343 rfl a1288)
        exact wp_ireturn e117 c117_19 rfl ⟨rfl, w1342, f1349, z1344, rfl, ⟨by omega, by omega⟩, (Or.inl ⟨by omega, by omega, h1350⟩)⟩
/-! StrikeAwake.sleeps(IZ)I  -/
abbrev uq_119 (r0 : Nat) (a1 : Int) (a2 : Int) (cu : Nat) (wa : Nat) (ce : Nat) (e : xD) (d : xD) (n : Int) (T : wq_T) (H : wq_H) : Option Value → wq_T → wq_H → Prop := fun r T' H' => T = T' ∧ WT T H' ∧ wfr [(12, 5), (12, 6), (12, 7), (12, 8), (12, 9), (1, 10), (6, 5), (8, 999), (10, 999), (15, 999), (9, 999), (18, 999), (19, 999), (7, 999), (11, 999), (17, 999), (13, 999)] T H H' ∧ ∃ z : Int, some (vI z) = r ∧ ((-2147483648) ≤ z ∧ z ≤ 2147483647) ∧ (((z = -1) ∧ ((a1 < 0 ∨ d 0 3 ≤ a1) ∨ 20000 < n ∨ xcn (xwf e d) (xlots d).toNat ≤ 0) ∧ CEN T H' ce e d) ∨ (((0 ≤ a1 ∧ a1 < d 0 3) ∧ n ≤ 20000 ∧ 0 < xcn (xwf e d) (xlots d).toNat) ∧ (XEX (decide (a2 ≠ 0)) (xwf e d) (fun n => (xpt d (xlot d n) (a1).toNat).2) (xlots d).toNat z) ∧ CEN T H' ce e d))
set_option maxHeartbeats 4000000 in
theorem u_119 {kt : Nat → Option mc_E} {T : wq_T} {H : wq_H} {r0 : Nat} {a1 : Int} {a2 : Int} {cu : Nat} {wa : Nat} {ce : Nat} {e : xD} {d : xD} {n : Int} (hW : WT T H) (g0 : T.2.2.2 r0 = some 1) (i1 : (-2147483648) ≤ a1 ∧ a1 ≤ 2147483647) (i2 : 0 ≤ a2 ∧ a2 ≤ 1) (qcu : H r0 6 = (cu : Int)) (gcu : T.2.2.2 cu = some 27) (qwa : H r0 2 = (wa : Int)) (gwa : T.2.2.2 wa = some 6) (qce : H r0 3 = (ce : Int)) (gce : T.2.2.2 ce = some 12) (p0 : ∀ i, i ≠ 13 → e i = d i) (p1 : XW d) (p2 : e 0 3 = d 0 3) (p3 : e 0 0 = d 0 0) (p4 : H r0 8 = 0 ∨ n = xlots d) (p5 : H r0 8 ≠ 0 ∨ (d 0 3 = 0 ∧ d 0 0 = 0)) (hCU_cu : CU T H cu e d n) (hCEN_ce : CEN T H ce e d) (hHDR_ce : HDR T H ce ) : wpc kt 7 119 [.ref r0, vI a1, vI a2] T H (uq_119 r0 a1 a2 cu wa ce e d n T H) := by
  refine wp_enter e119 (Nat.le_of_ble_eq_true rfl) rfl ?_
  have f0 : wfr [(12, 5), (12, 6), (12, 7), (12, 8), (12, 9), (1, 10), (6, 5), (8, 999), (10, 999), (15, 999), (9, 999), (18, 999), (19, 999), (7, 999), (11, 999), (17, 999), (13, 999)] T H H := wfr.rf
  show wp _ _ 119 0 [(0, .ref r0), (1, vI a1), (2, vI a2)] [] _ H _
  have u1169 := CU_k hCU_cu
  have b1170 : 0 ≤ H r0 8 ∧ H r0 8 ≤ 1 := hW.box g0 (n := 13) rfl (by decide) rfl
  refine wp_of e119 c119_0 (rw_aload_n (pc' := 1) (v := .ref r0) rfl rfl rfl ?_)
  refine wp_of e119 c119_1 (rw_aload_n (pc' := 2) (v := .ref r0) rfl rfl rfl ?_)
  refine wp_of e119 c119_2 (rw_iload_n (pc' := 3) (z := a1) rfl rfl ?_)
  refine wp_of e119 c119_3 (xc_V (pc' := 6) (r := r0) (as := [vI a1]) (st := [.ref r0]) (lm_0_105) rfl rfl (Nat.le_of_ble_eq_true rfl) hW g0 sh_1 (by decide) rfl (by decide) (u_55  hW g0 ⟨by omega, by omega⟩ qcu gcu) (fun R1171 T1172 H1173 p1174 => ?_))
  obtain ⟨e1175, e1177, z1178, e1176, b1179, p1180⟩ := p1174
  subst e1175
  subst e1176
  subst e1177
  rcases p1180 with ⟨a1181, a1182⟩ | ⟨a1183, a1184⟩
  · show wp _ _ 119 6 [(0, .ref r0), (1, vI a1), (2, vI a2)] [vI z1178, .ref r0] _ H _
    refine wp_of e119 c119_6 (xc_V (pc' := 9) (r := r0) (as := [vI z1178]) (st := []) (lm_0_198) rfl rfl (Nat.le_of_ble_eq_true rfl) hW g0 sh_1 (by decide) rfl (by decide) (u_102 (e := e) (d := d) (n := n) hW g0 ⟨by omega, by omega⟩ qcu gcu qwa gwa qce gce (by assumption) (by assumption) (by omega) (by omega) (by omega) hCU_cu hCEN_ce hHDR_ce) (fun R1185 T1186 H1187 p1188 => ?_))
    obtain ⟨e1189, w1191, f1192, z1193, e1190, b1194, p1195⟩ := p1188
    subst e1189
    subst e1190
    rcases p1195 with ⟨a1196, a1197, a1198, a1199, a1200, a1201, a1202⟩ | ⟨a1203, a1204, a1205⟩
    · have f1206 := f0.tr f1192 rfl
      show wp _ _ 119 9 [(0, .ref r0), (1, vI a1), (2, vI a2)] [vI z1193] _ H1187 _
      refine wp_of e119 c119_9 (rw_istore_n (pc' := 10) (z := z1193) (L' := [(3, vI z1193), (0, .ref r0), (1, vI a1), (2, vI a2)]) rfl rfl rfl ?_)
      refine wp_of e119 c119_10 (rw_iload_n (pc' := 11) (z := z1193) rfl rfl ?_)
      refine wp_of e119 c119_11 (rw_if_eq (p1 := 20) (p2 := 14) (by decide) rfl ⟨by omega, by omega⟩ (fun c1207 => ?_) (fun c1207 => ?_))
      · have h1208 : HV1 T H1187 ce (d 0 3) (fun p i => xhc e d p i (xlots d).toNat) := (a1202).1
        refine wp_of e119 c119_20 (rw_aload_n (pc' := 21) (v := .ref r0) rfl rfl rfl ?_)
        refine wp_of e119 c119_21 (rw_aload_n (pc' := 22) (v := .ref r0) rfl rfl rfl ?_)
        have k1209 : H1187 r0 3 = H r0 3 := (f1192 r0 3 _ g0 rfl)
        have q1210 : H1187 r0 3 = (ce : Int) := k1209.trans qce
        refine wp_of e119 c119_22 (xg_K (pc' := 25) lf_0_30 w1191 g0 sh_1 (by decide) (by decide) rfl q1210 rfl ?_)
        refine wp_of e119 c119_25 (rw_aload_n (pc' := 26) (v := .ref r0) rfl rfl rfl ?_)
        have k1211 : H1187 r0 6 = H r0 6 := (f1192 r0 6 _ g0 rfl)
        have q1212 : H1187 r0 6 = (cu : Int) := k1211.trans qcu
        refine wp_of e119 c119_26 (xg_K (pc' := 29) lf_0_51 w1191 g0 sh_1 (by decide) (by decide) rfl q1212 rfl ?_)
        refine wp_of e119 c119_29 (xg_R (pc' := 32) lf_0_109 w1191 gcu sh_27 (by decide) (by decide) ty_27_0 rfl rfl (fun r1213 q1214 g1215 => ?_))
        refine wp_of e119 c119_32 (rw_iload_n (pc' := 33) (z := a1) rfl rfl ?_)
        refine wp_of e119 c119_33 (xa_R (pc' := 34) (by decide) w1191 g1215 sh_28 (by decide) (ty_28 _) (by omega) (by omega) rfl (fun r1216 q1217 g1218 => ?_))
        have h1219 : CU T H1187 cu e d n := (CU_fr hW gcu f1192 rfl hCU_cu)
        have _z := CS_at (h1219).2.1 q1214 q1217 (k := (a1).toNat) (by omega) (by omega)
        have _l := @xsp_len d (a1).toNat (h1219).2.1.1
        have h1220 : PS T H1187 r1216 d (a1).toNat (xsp d (a1).toNat) := _z.1
        have _n := h1220.1
        refine wp_of e119 c119_34 (xg_R (pc' := 37) lf_0_129 w1191 g1218 sh_35 (by decide) (by decide) ty_35_1 rfl rfl (fun r1221 q1222 g1223 => ?_))
        have h1224 : RWs T H1187 r1221 ((xsp d (a1).toNat).length : Int) (fun i => ((xsp d (a1).toNat).getD i (0, 0)).2) := fun k hk => DA_at (h1220).2.2.1 q1222 hk
        refine wp_of e119 c119_37 (rw_iload_n (pc' := 38) (z := a1) rfl rfl ?_)
        refine wp_of e119 c119_38 (rw_iload_n (pc' := 39) (z := a2) rfl rfl ?_)
        refine wp_of e119 c119_39 (xc_V (pc' := 42) (r := ce) (as := [.ref r1221, vI a1, vI a2]) (st := [.ref r0]) (lm_0_223) rfl rfl (Nat.le_of_ble_eq_true rfl) w1191 gce sh_12 (by decide) rfl (by decide) (u_118_s (e := e) (d := d) w1191 gce g1223 ⟨by omega, by omega⟩ ⟨by omega, by omega⟩ (by assumption) (by omega) (by omega) h1208 h1224) (fun R1225 T1226 H1227 p1228 => ?_))
        obtain ⟨e1229, e1231, z1232, e1230, b1233, p1234⟩ := p1228
        subst e1229
        subst e1230
        subst e1231
        show wp _ _ 119 42 [(3, vI z1193), (0, .ref r0), (1, vI a1), (2, vI a2)] [vI z1232, .ref r0] _ H1187 _
        refine wp_of e119 c119_42 (xc_V (pc' := 45) (r := r0) (as := [vI z1232]) (st := []) (lm_0_99) rfl rfl (Nat.le_of_ble_eq_true rfl) w1191 g0 sh_1 (by decide) rfl (by decide) (u_51  w1191 g0 ⟨by omega, by omega⟩) (fun R1236 T1237 H1238 p1239 => ?_))
        obtain ⟨e1240, w1242, f1243, z1244, e1241, b1245, p1246⟩ := p1239
        subst e1240
        subst e1241
        obtain ⟨a1247, a1248⟩ := p1246
        have f1249 := f1206.tr f1243 rfl
        show wp _ _ 119 45 [(3, vI z1193), (0, .ref r0), (1, vI a1), (2, vI a2)] [vI z1244] _ H1238 _
        have h1250 : CEN T H1238 ce e d := (CEN_fr w1191 gce f1243 rfl a1200)
        exact wp_ireturn e119 c119_45 rfl ⟨rfl, w1242, f1249, z1244, rfl, ⟨by omega, by omega⟩, (Or.inr ⟨by omega, by assumption, h1250⟩)⟩
      · exfalso
        omega
    · have f1251 := f0.tr f1192 rfl
      show wp _ _ 119 9 [(0, .ref r0), (1, vI a1), (2, vI a2)] [vI z1193] _ H1187 _
      refine wp_of e119 c119_9 (rw_istore_n (pc' := 10) (z := z1193) (L' := [(3, vI z1193), (0, .ref r0), (1, vI a1), (2, vI a2)]) rfl rfl rfl ?_)
      refine wp_of e119 c119_10 (rw_iload_n (pc' := 11) (z := z1193) rfl rfl ?_)
      refine wp_of e119 c119_11 (rw_if_eq (p1 := 20) (p2 := 14) (by decide) rfl ⟨by omega, by omega⟩ (fun c1252 => ?_) (fun c1252 => ?_))
      · exfalso
        omega
      · refine wp_of e119 c119_14 (rw_aload_n (pc' := 15) (v := .ref r0) rfl rfl rfl ?_)
        refine wp_of e119 c119_15 (rw_iload_n (pc' := 16) (z := z1193) rfl rfl ?_)
        refine wp_of e119 c119_16 (xc_V (pc' := 19) (r := r0) (as := [vI z1193]) (st := []) (lm_0_70) rfl rfl (Nat.le_of_ble_eq_true rfl) w1191 g0 sh_1 (by decide) rfl (by decide) (u_12  w1191 g0 ⟨by omega, by omega⟩) (fun R1253 T1254 H1255 p1256 => ?_))
        obtain ⟨e1257, w1259, f1260, z1261, e1258, b1262, p1263⟩ := p1256
        subst e1257
        subst e1258
        obtain ⟨a1264, a1265⟩ := p1263
        have f1266 := f1251.tr f1260 rfl
        show wp _ _ 119 19 [(3, vI z1193), (0, .ref r0), (1, vI a1), (2, vI a2)] [vI z1261] _ H1255 _
        have h1267 : CEN T H1255 ce e d := (CEN_fr w1191 gce f1260 rfl a1205)
        exact wp_ireturn e119 c119_19 rfl ⟨rfl, w1259, f1266, z1261, rfl, ⟨by omega, by omega⟩, (Or.inl ⟨by omega, by omega, h1267⟩)⟩
  · show wp _ _ 119 6 [(0, .ref r0), (1, vI a1), (2, vI a2)] [vI z1178, .ref r0] _ H _
    refine wp_of e119 c119_6 (xc_V (pc' := 9) (r := r0) (as := [vI z1178]) (st := []) (lm_0_198) rfl rfl (Nat.le_of_ble_eq_true rfl) hW g0 sh_1 (by decide) rfl (by decide) (u_102 (e := e) (d := d) (n := n) hW g0 ⟨by omega, by omega⟩ qcu gcu qwa gwa qce gce (by assumption) (by assumption) (by omega) (by omega) (by omega) hCU_cu hCEN_ce hHDR_ce) (fun R1268 T1269 H1270 p1271 => ?_))
    obtain ⟨e1272, w1274, f1275, z1276, e1273, b1277, p1278⟩ := p1271
    subst e1272
    subst e1273
    rcases p1278 with ⟨a1279, a1280, a1281, a1282, a1283, a1284, a1285⟩ | ⟨a1286, a1287, a1288⟩
    · have f1289 := f0.tr f1275 rfl
      show wp _ _ 119 9 [(0, .ref r0), (1, vI a1), (2, vI a2)] [vI z1276] _ H1270 _
      refine wp_of e119 c119_9 (rw_istore_n (pc' := 10) (z := z1276) (L' := [(3, vI z1276), (0, .ref r0), (1, vI a1), (2, vI a2)]) rfl rfl rfl ?_)
      refine wp_of e119 c119_10 (rw_iload_n (pc' := 11) (z := z1276) rfl rfl ?_)
      refine wp_of e119 c119_11 (rw_if_eq (p1 := 20) (p2 := 14) (by decide) rfl ⟨by omega, by omega⟩ (fun c1290 => ?_) (fun c1290 => ?_))
      · have h1291 : HV1 T H1270 ce (d 0 3) (fun p i => xhc e d p i (xlots d).toNat) := (a1285).1
        refine wp_of e119 c119_20 (rw_aload_n (pc' := 21) (v := .ref r0) rfl rfl rfl ?_)
        refine wp_of e119 c119_21 (rw_aload_n (pc' := 22) (v := .ref r0) rfl rfl rfl ?_)
        have k1292 : H1270 r0 3 = H r0 3 := (f1275 r0 3 _ g0 rfl)
        have q1293 : H1270 r0 3 = (ce : Int) := k1292.trans qce
        refine wp_of e119 c119_22 (xg_K (pc' := 25) lf_0_30 w1274 g0 sh_1 (by decide) (by decide) rfl q1293 rfl ?_)
        refine wp_of e119 c119_25 (rw_aload_n (pc' := 26) (v := .ref r0) rfl rfl rfl ?_)
        have k1294 : H1270 r0 6 = H r0 6 := (f1275 r0 6 _ g0 rfl)
        have q1295 : H1270 r0 6 = (cu : Int) := k1294.trans qcu
        refine wp_of e119 c119_26 (xg_K (pc' := 29) lf_0_51 w1274 g0 sh_1 (by decide) (by decide) rfl q1295 rfl ?_)
        refine wp_of e119 c119_29 (xg_R (pc' := 32) lf_0_109 w1274 gcu sh_27 (by decide) (by decide) ty_27_0 rfl rfl (fun r1296 q1297 g1298 => ?_))
        refine wp_of e119 c119_32 (rw_iload_n (pc' := 33) (z := a1) rfl rfl ?_)
        refine wp_of e119 c119_33 (xa_R (pc' := 34) (by decide) w1274 g1298 sh_28 (by decide) (ty_28 _) (by omega) (by omega) rfl (fun r1299 q1300 g1301 => ?_))
        have h1302 : CU T H1270 cu e d n := (CU_fr hW gcu f1275 rfl hCU_cu)
        have _z := CS_at (h1302).2.1 q1297 q1300 (k := (a1).toNat) (by omega) (by omega)
        have _l := @xsp_len d (a1).toNat (h1302).2.1.1
        have h1303 : PS T H1270 r1299 d (a1).toNat (xsp d (a1).toNat) := _z.1
        have _n := h1303.1
        refine wp_of e119 c119_34 (xg_R (pc' := 37) lf_0_129 w1274 g1301 sh_35 (by decide) (by decide) ty_35_1 rfl rfl (fun r1304 q1305 g1306 => ?_))
        have h1307 : RWs T H1270 r1304 ((xsp d (a1).toNat).length : Int) (fun i => ((xsp d (a1).toNat).getD i (0, 0)).2) := fun k hk => DA_at (h1303).2.2.1 q1305 hk
        refine wp_of e119 c119_37 (rw_iload_n (pc' := 38) (z := a1) rfl rfl ?_)
        refine wp_of e119 c119_38 (rw_iload_n (pc' := 39) (z := a2) rfl rfl ?_)
        refine wp_of e119 c119_39 (xc_V (pc' := 42) (r := ce) (as := [.ref r1304, vI a1, vI a2]) (st := [.ref r0]) (lm_0_223) rfl rfl (Nat.le_of_ble_eq_true rfl) w1274 gce sh_12 (by decide) rfl (by decide) (u_118_s (e := e) (d := d) w1274 gce g1306 ⟨by omega, by omega⟩ ⟨by omega, by omega⟩ (by assumption) (by omega) (by omega) h1291 h1307) (fun R1308 T1309 H1310 p1311 => ?_))
        obtain ⟨e1312, e1314, z1315, e1313, b1316, p1317⟩ := p1311
        subst e1312
        subst e1313
        subst e1314
        show wp _ _ 119 42 [(3, vI z1276), (0, .ref r0), (1, vI a1), (2, vI a2)] [vI z1315, .ref r0] _ H1270 _
        refine wp_of e119 c119_42 (xc_V (pc' := 45) (r := r0) (as := [vI z1315]) (st := []) (lm_0_99) rfl rfl (Nat.le_of_ble_eq_true rfl) w1274 g0 sh_1 (by decide) rfl (by decide) (u_51  w1274 g0 ⟨by omega, by omega⟩) (fun R1319 T1320 H1321 p1322 => ?_))
        obtain ⟨e1323, w1325, f1326, z1327, e1324, b1328, p1329⟩ := p1322
        subst e1323
        subst e1324
        obtain ⟨a1330, a1331⟩ := p1329
        have f1332 := f1289.tr f1326 rfl
        show wp _ _ 119 45 [(3, vI z1276), (0, .ref r0), (1, vI a1), (2, vI a2)] [vI z1327] _ H1321 _
        have h1333 : CEN T H1321 ce e d := (CEN_fr w1274 gce f1326 rfl a1283)
        exact wp_ireturn e119 c119_45 rfl ⟨rfl, w1325, f1332, z1327, rfl, ⟨by omega, by omega⟩, (Or.inr ⟨by omega, by assumption, h1333⟩)⟩
      · exfalso
        omega
    · have f1334 := f0.tr f1275 rfl
      show wp _ _ 119 9 [(0, .ref r0), (1, vI a1), (2, vI a2)] [vI z1276] _ H1270 _
      refine wp_of e119 c119_9 (rw_istore_n (pc' := 10) (z := z1276) (L' := [(3, vI z1276), (0, .ref r0), (1, vI a1), (2, vI a2)]) rfl rfl rfl ?_)
      refine wp_of e119 c119_10 (rw_iload_n (pc' := 11) (z := z1276) rfl rfl ?_)
      refine wp_of e119 c119_11 (rw_if_eq (p1 := 20) (p2 := 14) (by decide) rfl ⟨by omega, by omega⟩ (fun c1335 => ?_) (fun c1335 => ?_))
      · exfalso
        omega
      · refine wp_of e119 c119_14 (rw_aload_n (pc' := 15) (v := .ref r0) rfl rfl rfl ?_)
        refine wp_of e119 c119_15 (rw_iload_n (pc' := 16) (z := z1276) rfl rfl ?_)
        refine wp_of e119 c119_16 (xc_V (pc' := 19) (r := r0) (as := [vI z1276]) (st := []) (lm_0_70) rfl rfl (Nat.le_of_ble_eq_true rfl) w1274 g0 sh_1 (by decide) rfl (by decide) (u_12  w1274 g0 ⟨by omega, by omega⟩) (fun R1336 T1337 H1338 p1339 => ?_))
        obtain ⟨e1340, w1342, f1343, z1344, e1341, b1345, p1346⟩ := p1339
        subst e1340
        subst e1341
        obtain ⟨a1347, a1348⟩ := p1346
        have f1349 := f1334.tr f1343 rfl
        show wp _ _ 119 19 [(3, vI z1276), (0, .ref r0), (1, vI a1), (2, vI a2)] [vI z1344] _ H1338 _
        have h1350 : CEN T H1338 ce e d := (CEN_fr w1274 gce f1343 rfl a1288)
        exact wp_ireturn e119 c119_19 rfl ⟨rfl, w1342, f1349, z1344, rfl, ⟨by omega, by omega⟩, (Or.inl ⟨by omega, by omega, h1350⟩)⟩
/-! StrikeAwake.ask()I  -/
abbrev uq_120 (r0 : Nat) (cu : Nat) (wa : Nat) (ce : Nat) (e : xD) (d : xD) (n : Int) (T : wq_T) (H : wq_H) : Option Value → wq_T → wq_H → Prop := fun r T' H' => T = T' ∧ WT T H' ∧ wfr [(20, 4), (12, 5), (12, 6), (12, 7), (12, 8), (12, 9), (1, 10), (6, 5), (8, 999), (10, 999), (15, 999), (22, 999), (9, 999), (18, 999), (23, 999), (19, 999), (21, 999), (7, 999), (11, 999), (24, 999), (17, 999), (13, 999)] T H H' ∧ ∃ z : Int, some (vI z) = r ∧ ((-2147483648) ≤ z ∧ z ≤ 2147483647) ∧ ((CEN T H' ce e d))
set_option maxHeartbeats 4000000 in
theorem u_120 {kt : Nat → Option mc_E} {T : wq_T} {H : wq_H} {r0 : Nat} {cu : Nat} {wa : Nat} {ce : Nat} {e : xD} {d : xD} {n : Int} (hW : WT T H) (g0 : T.2.2.2 r0 = some 1) (qcu : H r0 6 = (cu : Int)) (gcu : T.2.2.2 cu = some 27) (qwa : H r0 2 = (wa : Int)) (gwa : T.2.2.2 wa = some 6) (qce : H r0 3 = (ce : Int)) (gce : T.2.2.2 ce = some 12) (p0 : ∀ i, i ≠ 13 → e i = d i) (p1 : XW d) (p2 : e 0 3 = d 0 3) (p3 : e 0 0 = d 0 0) (p4 : H r0 8 = 0 ∨ n = xlots d) (p5 : H r0 8 ≠ 0 ∨ (d 0 3 = 0 ∧ d 0 0 = 0)) (hCU_cu : CU T H cu e d n) (hCEN_ce : CEN T H ce e d) (hHDR_ce : HDR T H ce ) : wpc kt 7 120 [.ref r0] T H (uq_120 r0 cu wa ce e d n T H) := by
  refine wp_enter e120 (Nat.le_of_ble_eq_true rfl) rfl ?_
  have f0 : wfr [(20, 4), (12, 5), (12, 6), (12, 7), (12, 8), (12, 9), (1, 10), (6, 5), (8, 999), (10, 999), (15, 999), (22, 999), (9, 999), (18, 999), (23, 999), (19, 999), (21, 999), (7, 999), (11, 999), (24, 999), (17, 999), (13, 999)] T H H := wfr.rf
  show wp _ _ 120 0 [(0, .ref r0)] [] _ H _
  have u1063 := CU_k hCU_cu
  have b1064 : 0 ≤ H r0 8 ∧ H r0 8 ≤ 1 := hW.box g0 (n := 13) rfl (by decide) rfl
  refine wp_of e120 c120_0 (rw_aload_n (pc' := 1) (v := .ref r0) rfl rfl rfl ?_)
  refine wp_of e120 c120_1 (rw_aload_n (pc' := 2) (v := .ref r0) rfl rfl rfl ?_)
  refine wp_of e120 c120_2 (xg_I (pc' := 5) lf_0_58 hW g0 sh_1 (by decide) (by decide) ty_1_8 rfl rfl (fun b1065 b1066 => ?_))
  refine wp_of e120 c120_5 (xc_V (pc' := 8) (r := r0) (as := [vI (H r0 8)]) (st := []) (lm_0_227) rfl rfl (Nat.le_of_ble_eq_true rfl) hW g0 sh_1 (by decide) rfl (by decide) (u_121 (e := e) (d := d) (n := n) hW g0 ⟨by omega, by omega⟩ qcu gcu qwa gwa qce gce (by assumption) (by assumption) (by omega) (by omega) (by omega) hCU_cu hCEN_ce hHDR_ce) (fun R1067 T1068 H1069 p1070 => ?_))
  obtain ⟨e1071, w1073, f1074, z1075, e1072, b1076, p1077⟩ := p1070
  subst e1071
  subst e1072
  rcases p1077 with ⟨a1078, a1079, a1080⟩ | ⟨a1081, a1082⟩
  · have f1083 := f0.tr f1074 rfl
    show wp _ _ 120 8 [(0, .ref r0)] [vI z1075] _ H1069 _
    refine wp_of e120 c120_8 (rw_istore_n (pc' := 9) (z := z1075) (L' := [(1, vI z1075), (0, .ref r0)]) rfl rfl rfl ?_)
    refine wp_of e120 c120_9 (rw_iload_n (pc' := 10) (z := z1075) rfl rfl ?_)
    refine wp_of e120 c120_10 (rw_if_eq (p1 := 19) (p2 := 13) (by decide) rfl ⟨by omega, by omega⟩ (fun c1084 => ?_) (fun c1084 => ?_))
    · refine wp_of e120 c120_19 (rw_aload_n (pc' := 20) (v := .ref r0) rfl rfl rfl ?_)
      refine wp_of e120 c120_20 (rw_aload_n (pc' := 21) (v := .ref r0) rfl rfl rfl ?_)
      refine wp_of e120 c120_21 (xg_R (pc' := 24) lf_0_37 w1073 g0 sh_1 (by decide) (by decide) ty_1_4 rfl rfl (fun r1085 q1086 g1087 => ?_))
      refine wp_of e120 c120_24 (rw_aload_n (pc' := 25) (v := .ref r0) rfl rfl rfl ?_)
      have k1088 : H1069 r0 6 = H r0 6 := (f1074 r0 6 _ g0 rfl)
      have q1089 : H1069 r0 6 = (cu : Int) := k1088.trans qcu
      refine wp_of e120 c120_25 (xg_K (pc' := 28) lf_0_51 w1073 g0 sh_1 (by decide) (by decide) rfl q1089 rfl ?_)
      refine wp_of e120 c120_28 (rw_aload_n (pc' := 29) (v := .ref r0) rfl rfl rfl ?_)
      have k1090 : H1069 r0 3 = H r0 3 := (f1074 r0 3 _ g0 rfl)
      have q1091 : H1069 r0 3 = (ce : Int) := k1090.trans qce
      refine wp_of e120 c120_29 (xg_K (pc' := 32) lf_0_30 w1073 g0 sh_1 (by decide) (by decide) rfl q1091 rfl ?_)
      refine wp_of e120 c120_32 (xc_V (pc' := 35) (r := r1085) (as := [.ref cu, .ref ce]) (st := [.ref r0]) (lm_0_230) rfl rfl (Nat.le_of_ble_eq_true rfl) w1073 g1087 sh_20 (by decide) rfl (by decide) (s_122 w1073 g1087 gcu gce) (fun R1092 T1093 H1094 p1095 => ?_))
      obtain ⟨e1096, w1098, f1099, z1100, e1097, b1101⟩ := p1095
      subst e1096
      subst e1097
      have f1102 := f1083.tr f1099 rfl
      show wp _ _ 120 35 [(1, vI z1075), (0, .ref r0)] [vI z1100, .ref r0] _ H1094 _
      refine wp_of e120 c120_35 (xc_V (pc' := 38) (r := r0) (as := [vI z1100]) (st := []) (lm_0_99) rfl rfl (Nat.le_of_ble_eq_true rfl) w1098 g0 sh_1 (by decide) rfl (by decide) (s_51 w1098 g0 ⟨by omega, by omega⟩) (fun R1103 T1104 H1105 p1106 => ?_))
      obtain ⟨e1107, w1109, f1110, z1111, e1108, b1112⟩ := p1106
      subst e1107
      subst e1108
      have f1113 := f1102.tr f1110 rfl
      show wp _ _ 120 38 [(1, vI z1075), (0, .ref r0)] [vI z1111] _ H1105 _
      have h1114 : CEN T H1105 ce e d := (CEN_fr w1098 gce f1110 rfl (CEN_fr w1073 gce f1099 rfl a1080))
      exact wp_ireturn e120 c120_38 rfl ⟨rfl, w1109, f1113, z1111, rfl, ⟨by omega, by omega⟩, (h1114)⟩
    · exfalso
      omega
  · have f1115 := f0.tr f1074 rfl
    show wp _ _ 120 8 [(0, .ref r0)] [vI z1075] _ H1069 _
    refine wp_of e120 c120_8 (rw_istore_n (pc' := 9) (z := z1075) (L' := [(1, vI z1075), (0, .ref r0)]) rfl rfl rfl ?_)
    refine wp_of e120 c120_9 (rw_iload_n (pc' := 10) (z := z1075) rfl rfl ?_)
    refine wp_of e120 c120_10 (rw_if_eq (p1 := 19) (p2 := 13) (by decide) rfl ⟨by omega, by omega⟩ (fun c1116 => ?_) (fun c1116 => ?_))
    · exfalso
      omega
    · refine wp_of e120 c120_13 (rw_aload_n (pc' := 14) (v := .ref r0) rfl rfl rfl ?_)
      refine wp_of e120 c120_14 (rw_iload_n (pc' := 15) (z := z1075) rfl rfl ?_)
      refine wp_of e120 c120_15 (xc_V (pc' := 18) (r := r0) (as := [vI z1075]) (st := []) (lm_0_70) rfl rfl (Nat.le_of_ble_eq_true rfl) w1073 g0 sh_1 (by decide) rfl (by decide) (s_12 w1073 g0 ⟨by omega, by omega⟩) (fun R1117 T1118 H1119 p1120 => ?_))
      obtain ⟨e1121, w1123, f1124, z1125, e1122, b1126⟩ := p1120
      subst e1121
      subst e1122
      have f1127 := f1115.tr f1124 rfl
      show wp _ _ 120 18 [(1, vI z1075), (0, .ref r0)] [vI z1125] _ H1119 _
      have h1128 : CEN T H1119 ce e d := (CEN_fr w1073 gce f1124 rfl a1082)
      exact wp_ireturn e120 c120_18 rfl ⟨rfl, w1123, f1127, z1125, rfl, ⟨by omega, by omega⟩, (h1128)⟩
/-! StrikeAwake.askFor(I)I  -/
abbrev uq_130 (r0 : Nat) (a1 : Int) (cu : Nat) (wa : Nat) (ce : Nat) (e : xD) (d : xD) (n : Int) (T : wq_T) (H : wq_H) : Option Value → wq_T → wq_H → Prop := fun r T' H' => T = T' ∧ WT T H' ∧ wfr [(20, 4), (12, 5), (12, 6), (12, 7), (12, 8), (12, 9), (1, 10), (6, 5), (8, 999), (10, 999), (15, 999), (22, 999), (9, 999), (18, 999), (23, 999), (19, 999), (21, 999), (7, 999), (11, 999), (24, 999), (17, 999), (13, 999)] T H H' ∧ ∃ z : Int, some (vI z) = r ∧ ((-2147483648) ≤ z ∧ z ≤ 2147483647) ∧ ((CEN T H' ce e d))
set_option maxHeartbeats 4000000 in
theorem u_130 {kt : Nat → Option mc_E} {T : wq_T} {H : wq_H} {r0 : Nat} {a1 : Int} {cu : Nat} {wa : Nat} {ce : Nat} {e : xD} {d : xD} {n : Int} (hW : WT T H) (g0 : T.2.2.2 r0 = some 1) (i1 : (-2147483648) ≤ a1 ∧ a1 ≤ 2147483647) (qcu : H r0 6 = (cu : Int)) (gcu : T.2.2.2 cu = some 27) (qwa : H r0 2 = (wa : Int)) (gwa : T.2.2.2 wa = some 6) (qce : H r0 3 = (ce : Int)) (gce : T.2.2.2 ce = some 12) (p0 : ∀ i, i ≠ 13 → e i = d i) (p1 : XW d) (p2 : e 0 3 = d 0 3) (p3 : e 0 0 = d 0 0) (p4 : H r0 8 = 0 ∨ n = xlots d) (p5 : H r0 8 ≠ 0 ∨ (d 0 3 = 0 ∧ d 0 0 = 0)) (hCU_cu : CU T H cu e d n) (hCEN_ce : CEN T H ce e d) (hHDR_ce : HDR T H ce ) : wpc kt 7 130 [.ref r0, vI a1] T H (uq_130 r0 a1 cu wa ce e d n T H) := by
  refine wp_enter e130 (Nat.le_of_ble_eq_true rfl) rfl ?_
  have f0 : wfr [(20, 4), (12, 5), (12, 6), (12, 7), (12, 8), (12, 9), (1, 10), (6, 5), (8, 999), (10, 999), (15, 999), (22, 999), (9, 999), (18, 999), (23, 999), (19, 999), (21, 999), (7, 999), (11, 999), (24, 999), (17, 999), (13, 999)] T H H := wfr.rf
  show wp _ _ 130 0 [(0, .ref r0), (1, vI a1)] [] _ H _
  have u1071 := CU_k hCU_cu
  have b1072 : 0 ≤ H r0 8 ∧ H r0 8 ≤ 1 := hW.box g0 (n := 13) rfl (by decide) rfl
  refine wp_of e130 c130_0 (rw_aload_n (pc' := 1) (v := .ref r0) rfl rfl rfl ?_)
  refine wp_of e130 c130_1 (rw_aload_n (pc' := 2) (v := .ref r0) rfl rfl rfl ?_)
  refine wp_of e130 c130_2 (rw_iload_n (pc' := 3) (z := a1) rfl rfl ?_)
  refine wp_of e130 c130_3 (xc_V (pc' := 6) (r := r0) (as := [vI a1]) (st := [.ref r0]) (lm_0_132) rfl rfl (Nat.le_of_ble_eq_true rfl) hW g0 sh_1 (by decide) rfl (by decide) (s_60 hW g0 ⟨by omega, by omega⟩) (fun R1073 T1074 H1075 p1076 => ?_))
  obtain ⟨e1077, e1079, z1081, e1078, b1082, p1080⟩ := p1076
  subst e1077
  subst e1078
  subst e1079
  show wp _ _ 130 6 [(0, .ref r0), (1, vI a1)] [vI z1081, .ref r0] _ H _
  refine wp_of e130 c130_6 (xc_V (pc' := 9) (r := r0) (as := [vI z1081]) (st := []) (lm_0_227) rfl rfl (Nat.le_of_ble_eq_true rfl) hW g0 sh_1 (by decide) rfl (by decide) (u_121 (e := e) (d := d) (n := n) hW g0 ⟨by omega, by omega⟩ qcu gcu qwa gwa qce gce (by assumption) (by assumption) (by omega) (by omega) (by omega) hCU_cu hCEN_ce hHDR_ce) (fun R1083 T1084 H1085 p1086 => ?_))
  obtain ⟨e1087, w1089, f1090, z1091, e1088, b1092, p1093⟩ := p1086
  subst e1087
  subst e1088
  rcases p1093 with ⟨a1094, a1095, a1096⟩ | ⟨a1097, a1098⟩
  · have f1099 := f0.tr f1090 rfl
    show wp _ _ 130 9 [(0, .ref r0), (1, vI a1)] [vI z1091] _ H1085 _
    refine wp_of e130 c130_9 (rw_istore_n (pc' := 10) (z := z1091) (L' := [(2, vI z1091), (0, .ref r0), (1, vI a1)]) rfl rfl rfl ?_)
    refine wp_of e130 c130_10 (rw_iload_n (pc' := 11) (z := z1091) rfl rfl ?_)
    refine wp_of e130 c130_11 (rw_if_eq (p1 := 20) (p2 := 14) (by decide) rfl ⟨by omega, by omega⟩ (fun c1100 => ?_) (fun c1100 => ?_))
    · refine wp_of e130 c130_20 (rw_aload_n (pc' := 21) (v := .ref r0) rfl rfl rfl ?_)
      refine wp_of e130 c130_21 (rw_aload_n (pc' := 22) (v := .ref r0) rfl rfl rfl ?_)
      refine wp_of e130 c130_22 (xg_R (pc' := 25) lf_0_37 w1089 g0 sh_1 (by decide) (by decide) ty_1_4 rfl rfl (fun r1101 q1102 g1103 => ?_))
      refine wp_of e130 c130_25 (rw_aload_n (pc' := 26) (v := .ref r0) rfl rfl rfl ?_)
      have k1104 : H1085 r0 6 = H r0 6 := (f1090 r0 6 _ g0 rfl)
      have q1105 : H1085 r0 6 = (cu : Int) := k1104.trans qcu
      refine wp_of e130 c130_26 (xg_K (pc' := 29) lf_0_51 w1089 g0 sh_1 (by decide) (by decide) rfl q1105 rfl ?_)
      refine wp_of e130 c130_29 (rw_aload_n (pc' := 30) (v := .ref r0) rfl rfl rfl ?_)
      have k1106 : H1085 r0 3 = H r0 3 := (f1090 r0 3 _ g0 rfl)
      have q1107 : H1085 r0 3 = (ce : Int) := k1106.trans qce
      refine wp_of e130 c130_30 (xg_K (pc' := 33) lf_0_30 w1089 g0 sh_1 (by decide) (by decide) rfl q1107 rfl ?_)
      refine wp_of e130 c130_33 (rw_iload_n (pc' := 34) (z := a1) rfl rfl ?_)
      refine wp_of e130 c130_34 (xc_V (pc' := 37) (r := r1101) (as := [.ref cu, .ref ce, vI a1]) (st := [.ref r0]) (lm_0_234) rfl rfl (Nat.le_of_ble_eq_true rfl) w1089 g1103 sh_20 (by decide) rfl (by decide) (s_131 w1089 g1103 gcu gce ⟨by omega, by omega⟩) (fun R1108 T1109 H1110 p1111 => ?_))
      obtain ⟨e1112, w1114, f1115, z1116, e1113, b1117⟩ := p1111
      subst e1112
      subst e1113
      have f1118 := f1099.tr f1115 rfl
      show wp _ _ 130 37 [(2, vI z1091), (0, .ref r0), (1, vI a1)] [vI z1116, .ref r0] _ H1110 _
      refine wp_of e130 c130_37 (xc_V (pc' := 40) (r := r0) (as := [vI z1116]) (st := []) (lm_0_99) rfl rfl (Nat.le_of_ble_eq_true rfl) w1114 g0 sh_1 (by decide) rfl (by decide) (s_51 w1114 g0 ⟨by omega, by omega⟩) (fun R1119 T1120 H1121 p1122 => ?_))
      obtain ⟨e1123, w1125, f1126, z1127, e1124, b1128⟩ := p1122
      subst e1123
      subst e1124
      have f1129 := f1118.tr f1126 rfl
      show wp _ _ 130 40 [(2, vI z1091), (0, .ref r0), (1, vI a1)] [vI z1127] _ H1121 _
      have h1130 : CEN T H1121 ce e d := (CEN_fr w1114 gce f1126 rfl (CEN_fr w1089 gce f1115 rfl a1096))
      exact wp_ireturn e130 c130_40 rfl ⟨rfl, w1125, f1129, z1127, rfl, ⟨by omega, by omega⟩, (h1130)⟩
    · exfalso
      omega
  · have f1131 := f0.tr f1090 rfl
    show wp _ _ 130 9 [(0, .ref r0), (1, vI a1)] [vI z1091] _ H1085 _
    refine wp_of e130 c130_9 (rw_istore_n (pc' := 10) (z := z1091) (L' := [(2, vI z1091), (0, .ref r0), (1, vI a1)]) rfl rfl rfl ?_)
    refine wp_of e130 c130_10 (rw_iload_n (pc' := 11) (z := z1091) rfl rfl ?_)
    refine wp_of e130 c130_11 (rw_if_eq (p1 := 20) (p2 := 14) (by decide) rfl ⟨by omega, by omega⟩ (fun c1132 => ?_) (fun c1132 => ?_))
    · exfalso
      omega
    · refine wp_of e130 c130_14 (rw_aload_n (pc' := 15) (v := .ref r0) rfl rfl rfl ?_)
      refine wp_of e130 c130_15 (rw_iload_n (pc' := 16) (z := z1091) rfl rfl ?_)
      refine wp_of e130 c130_16 (xc_V (pc' := 19) (r := r0) (as := [vI z1091]) (st := []) (lm_0_70) rfl rfl (Nat.le_of_ble_eq_true rfl) w1089 g0 sh_1 (by decide) rfl (by decide) (s_12 w1089 g0 ⟨by omega, by omega⟩) (fun R1133 T1134 H1135 p1136 => ?_))
      obtain ⟨e1137, w1139, f1140, z1141, e1138, b1142⟩ := p1136
      subst e1137
      subst e1138
      have f1143 := f1131.tr f1140 rfl
      show wp _ _ 130 19 [(2, vI z1091), (0, .ref r0), (1, vI a1)] [vI z1141] _ H1135 _
      have h1144 : CEN T H1135 ce e d := (CEN_fr w1089 gce f1140 rfl a1098)
      exact wp_ireturn e130 c130_19 rfl ⟨rfl, w1139, f1143, z1141, rfl, ⟨by omega, by omega⟩, (h1144)⟩
/-! StrikeAwake.lie(I)I  -/
abbrev uq_132 (r0 : Nat) (a1 : Int) (cu : Nat) (wa : Nat) (ce : Nat) (e : xD) (d : xD) (n : Int) (T : wq_T) (H : wq_H) : Option Value → wq_T → wq_H → Prop := fun r T' H' => T = T' ∧ WT T H' ∧ wfr [(12, 5), (12, 6), (12, 7), (12, 8), (12, 9), (1, 10), (6, 5), (8, 999), (10, 999), (15, 999), (9, 999), (18, 999), (19, 999), (7, 999), (11, 999), (17, 999), (13, 999)] T H H' ∧ ∃ z : Int, some (vI z) = r ∧ ((-2147483648) ≤ z ∧ z ≤ 2147483647) ∧ ((CEN T H' ce e d))
set_option maxHeartbeats 4000000 in
theorem u_132 {kt : Nat → Option mc_E} {T : wq_T} {H : wq_H} {r0 : Nat} {a1 : Int} {cu : Nat} {wa : Nat} {ce : Nat} {e : xD} {d : xD} {n : Int} (hW : WT T H) (g0 : T.2.2.2 r0 = some 1) (i1 : (-2147483648) ≤ a1 ∧ a1 ≤ 2147483647) (qcu : H r0 6 = (cu : Int)) (gcu : T.2.2.2 cu = some 27) (qwa : H r0 2 = (wa : Int)) (gwa : T.2.2.2 wa = some 6) (qce : H r0 3 = (ce : Int)) (gce : T.2.2.2 ce = some 12) (p0 : ∀ i, i ≠ 13 → e i = d i) (p1 : XW d) (p2 : e 0 3 = d 0 3) (p3 : e 0 0 = d 0 0) (p4 : H r0 8 = 0 ∨ n = xlots d) (p5 : H r0 8 ≠ 0 ∨ (d 0 3 = 0 ∧ d 0 0 = 0)) (hCU_cu : CU T H cu e d n) (hCEN_ce : CEN T H ce e d) (hHDR_ce : HDR T H ce ) : wpc kt 6 132 [.ref r0, vI a1] T H (uq_132 r0 a1 cu wa ce e d n T H) := by
  refine wp_enter e132 (Nat.le_of_ble_eq_true rfl) rfl ?_
  have f0 : wfr [(12, 5), (12, 6), (12, 7), (12, 8), (12, 9), (1, 10), (6, 5), (8, 999), (10, 999), (15, 999), (9, 999), (18, 999), (19, 999), (7, 999), (11, 999), (17, 999), (13, 999)] T H H := wfr.rf
  show wp _ _ 132 0 [(0, .ref r0), (1, vI a1)] [] _ H _
  have u1082 := CU_k hCU_cu
  have b1083 : 0 ≤ H r0 8 ∧ H r0 8 ≤ 1 := hW.box g0 (n := 13) rfl (by decide) rfl
  refine wp_of e132 c132_0 (rw_aload_n (pc' := 1) (v := .ref r0) rfl rfl rfl ?_)
  refine wp_of e132 c132_1 (rw_aload_n (pc' := 2) (v := .ref r0) rfl rfl rfl ?_)
  refine wp_of e132 c132_2 (rw_iload_n (pc' := 3) (z := a1) rfl rfl ?_)
  refine wp_of e132 c132_3 (xc_V (pc' := 6) (r := r0) (as := [vI a1]) (st := [.ref r0]) (lm_0_238) rfl rfl (Nat.le_of_ble_eq_true rfl) hW g0 sh_1 (by decide) rfl (by decide) (s_133 hW g0 ⟨by omega, by omega⟩) (fun R1084 T1085 H1086 p1087 => ?_))
  obtain ⟨e1088, e1090, z1092, e1089, b1093, p1091⟩ := p1087
  subst e1088
  subst e1089
  subst e1090
  show wp _ _ 132 6 [(0, .ref r0), (1, vI a1)] [vI z1092, .ref r0] _ H _
  refine wp_of e132 c132_6 (xc_V (pc' := 9) (r := r0) (as := [vI z1092]) (st := []) (lm_0_174) rfl rfl (Nat.le_of_ble_eq_true rfl) hW g0 sh_1 (by decide) rfl (by decide) (u_83 (e := e) (d := d) (n := n) hW g0 ⟨by omega, by omega⟩ qcu gcu qwa gwa qce gce (by assumption) (by assumption) (by omega) (by omega) (by omega) hCU_cu hCEN_ce hHDR_ce) (fun R1094 T1095 H1096 p1097 => ?_))
  obtain ⟨e1098, w1100, f1101, z1102, e1099, b1103, p1104⟩ := p1097
  subst e1098
  subst e1099
  rcases p1104 with ⟨a1105, a1106, a1107, a1108, a1109, a1110⟩ | ⟨a1111, a1112, a1113⟩
  · have f1114 := f0.tr f1101 rfl
    show wp _ _ 132 9 [(0, .ref r0), (1, vI a1)] [vI z1102] _ H1096 _
    refine wp_of e132 c132_9 (rw_istore_n (pc' := 10) (z := z1102) (L' := [(2, vI z1102), (0, .ref r0), (1, vI a1)]) rfl rfl rfl ?_)
    refine wp_of e132 c132_10 (rw_iload_n (pc' := 11) (z := z1102) rfl rfl ?_)
    refine wp_of e132 c132_11 (rw_if_eq (p1 := 20) (p2 := 14) (by decide) rfl ⟨by omega, by omega⟩ (fun c1115 => ?_) (fun c1115 => ?_))
    · refine wp_of e132 c132_20 (rw_aload_n (pc' := 21) (v := .ref r0) rfl rfl rfl ?_)
      refine wp_of e132 c132_21 (rw_aload_n (pc' := 22) (v := .ref r0) rfl rfl rfl ?_)
      have k1116 : H1096 r0 3 = H r0 3 := (f1101 r0 3 _ g0 rfl)
      have q1117 : H1096 r0 3 = (ce : Int) := k1116.trans qce
      refine wp_of e132 c132_22 (xg_K (pc' := 25) lf_0_30 w1100 g0 sh_1 (by decide) (by decide) rfl q1117 rfl ?_)
      refine wp_of e132 c132_25 (rw_aload_n (pc' := 26) (v := .ref r0) rfl rfl rfl ?_)
      have k1118 : H1096 r0 6 = H r0 6 := (f1101 r0 6 _ g0 rfl)
      have q1119 : H1096 r0 6 = (cu : Int) := k1118.trans qcu
      refine wp_of e132 c132_26 (xg_K (pc' := 29) lf_0_51 w1100 g0 sh_1 (by decide) (by decide) rfl q1119 rfl ?_)
      refine wp_of e132 c132_29 (rw_iload_n (pc' := 30) (z := a1) rfl rfl ?_)
      refine wp_of e132 c132_30 (xc_V (pc' := 33) (r := ce) (as := [.ref cu, vI a1]) (st := [.ref r0]) (lm_0_241) rfl rfl (Nat.le_of_ble_eq_true rfl) w1100 gce sh_12 (by decide) rfl (by decide) (s_134 w1100 gce gcu ⟨by omega, by omega⟩) (fun R1120 T1121 H1122 p1123 => ?_))
      obtain ⟨e1124, e1126, z1127, e1125, b1128⟩ := p1123
      subst e1124
      subst e1125
      subst e1126
      show wp _ _ 132 33 [(2, vI z1102), (0, .ref r0), (1, vI a1)] [vI z1127, .ref r0] _ H1096 _
      refine wp_of e132 c132_33 (rw_if_eq (p1 := 40) (p2 := 36) (by decide) rfl ⟨by omega, by omega⟩ (fun c1129 => ?_) (fun c1129 => ?_))
      · refine wp_of e132 c132_40 (rw_iconst (pc' := 41) rfl ?_)
        refine wp_of e132 c132_41 (xc_V (pc' := 44) (r := r0) (as := [vI 1]) (st := []) (lm_0_99) rfl rfl (Nat.le_of_ble_eq_true rfl) w1100 g0 sh_1 (by decide) rfl (by decide) (s_51 w1100 g0 ⟨by omega, by omega⟩) (fun R1130 T1131 H1132 p1133 => ?_))
        obtain ⟨e1134, w1136, f1137, z1138, e1135, b1139⟩ := p1133
        subst e1134
        subst e1135
        have f1140 := f1114.tr f1137 rfl
        show wp _ _ 132 44 [(2, vI z1102), (0, .ref r0), (1, vI a1)] [vI z1138] _ H1132 _
        have h1141 : CEN T H1132 ce e d := (CEN_fr w1100 gce f1137 rfl a1108)
        exact wp_ireturn e132 c132_44 rfl ⟨rfl, w1136, f1140, z1138, rfl, ⟨by omega, by omega⟩, (h1141)⟩
      · refine wp_of e132 c132_36 (rw_iconst (pc' := 37) rfl ?_)
        refine wp_of e132 c132_37 (rw_goto (p1 := 41) (by decide) ?_)
        refine wp_of e132 c132_41 (xc_V (pc' := 44) (r := r0) (as := [vI 0]) (st := []) (lm_0_99) rfl rfl (Nat.le_of_ble_eq_true rfl) w1100 g0 sh_1 (by decide) rfl (by decide) (s_51 w1100 g0 ⟨by omega, by omega⟩) (fun R1142 T1143 H1144 p1145 => ?_))
        obtain ⟨e1146, w1148, f1149, z1150, e1147, b1151⟩ := p1145
        subst e1146
        subst e1147
        have f1152 := f1114.tr f1149 rfl
        show wp _ _ 132 44 [(2, vI z1102), (0, .ref r0), (1, vI a1)] [vI z1150] _ H1144 _
        have h1153 : CEN T H1144 ce e d := (CEN_fr w1100 gce f1149 rfl a1108)
        exact wp_ireturn e132 c132_44 rfl ⟨rfl, w1148, f1152, z1150, rfl, ⟨by omega, by omega⟩, (h1153)⟩
    · exfalso
      omega
  · have f1154 := f0.tr f1101 rfl
    show wp _ _ 132 9 [(0, .ref r0), (1, vI a1)] [vI z1102] _ H1096 _
    refine wp_of e132 c132_9 (rw_istore_n (pc' := 10) (z := z1102) (L' := [(2, vI z1102), (0, .ref r0), (1, vI a1)]) rfl rfl rfl ?_)
    refine wp_of e132 c132_10 (rw_iload_n (pc' := 11) (z := z1102) rfl rfl ?_)
    refine wp_of e132 c132_11 (rw_if_eq (p1 := 20) (p2 := 14) (by decide) rfl ⟨by omega, by omega⟩ (fun c1155 => ?_) (fun c1155 => ?_))
    · exfalso
      omega
    · refine wp_of e132 c132_14 (rw_aload_n (pc' := 15) (v := .ref r0) rfl rfl rfl ?_)
      refine wp_of e132 c132_15 (rw_iload_n (pc' := 16) (z := z1102) rfl rfl ?_)
      refine wp_of e132 c132_16 (xc_V (pc' := 19) (r := r0) (as := [vI z1102]) (st := []) (lm_0_70) rfl rfl (Nat.le_of_ble_eq_true rfl) w1100 g0 sh_1 (by decide) rfl (by decide) (s_12 w1100 g0 ⟨by omega, by omega⟩) (fun R1156 T1157 H1158 p1159 => ?_))
      obtain ⟨e1160, w1162, f1163, z1164, e1161, b1165⟩ := p1159
      subst e1160
      subst e1161
      have f1166 := f1154.tr f1163 rfl
      show wp _ _ 132 19 [(2, vI z1102), (0, .ref r0), (1, vI a1)] [vI z1164] _ H1158 _
      have h1167 : CEN T H1158 ce e d := (CEN_fr w1100 gce f1163 rfl a1113)
      exact wp_ireturn e132 c132_19 rfl ⟨rfl, w1162, f1166, z1164, rfl, ⟨by omega, by omega⟩, (h1167)⟩
/-! StrikeAwake.bars(I)I  -/
abbrev uq_135 (r0 : Nat) (a1 : Int) (cu : Nat) (wa : Nat) (ce : Nat) (e : xD) (d : xD) (n : Int) (T : wq_T) (H : wq_H) : Option Value → wq_T → wq_H → Prop := fun r T' H' => T = T' ∧ WT T H' ∧ wfr [(1, 10), (6, 5), (8, 999), (10, 999), (9, 999), (7, 999), (11, 999)] T H H' ∧ ∃ z : Int, some (vI z) = r ∧ ((-2147483648) ≤ z ∧ z ≤ 2147483647) ∧ ((CEN T H' ce e d))
set_option maxHeartbeats 4000000 in
theorem u_135 {kt : Nat → Option mc_E} {T : wq_T} {H : wq_H} {r0 : Nat} {a1 : Int} {cu : Nat} {wa : Nat} {ce : Nat} {e : xD} {d : xD} {n : Int} (hW : WT T H) (g0 : T.2.2.2 r0 = some 1) (i1 : (-2147483648) ≤ a1 ∧ a1 ≤ 2147483647) (qcu : H r0 6 = (cu : Int)) (gcu : T.2.2.2 cu = some 27) (qwa : H r0 2 = (wa : Int)) (gwa : T.2.2.2 wa = some 6) (qce : H r0 3 = (ce : Int)) (gce : T.2.2.2 ce = some 12) (p0 : ∀ i, i ≠ 13 → e i = d i) (p1 : XW d) (p2 : e 0 3 = d 0 3) (p3 : e 0 0 = d 0 0) (p4 : H r0 8 = 0 ∨ n = xlots d) (p5 : H r0 8 ≠ 0 ∨ (d 0 3 = 0 ∧ d 0 0 = 0)) (hCU_cu : CU T H cu e d n) (hCEN_ce : CEN T H ce e d) (hHDR_ce : HDR T H ce ) : wpc kt 5 135 [.ref r0, vI a1] T H (uq_135 r0 a1 cu wa ce e d n T H) := by
  refine wp_enter e135 (Nat.le_of_ble_eq_true rfl) rfl ?_
  have f0 : wfr [(1, 10), (6, 5), (8, 999), (10, 999), (9, 999), (7, 999), (11, 999)] T H H := wfr.rf
  show wp _ _ 135 0 [(0, .ref r0), (1, vI a1)] [] _ H _
  have u1064 := CU_k hCU_cu
  have b1065 : 0 ≤ H r0 8 ∧ H r0 8 ≤ 1 := hW.box g0 (n := 13) rfl (by decide) rfl
  refine wp_of e135 c135_0 (rw_aload_n (pc' := 1) (v := .ref r0) rfl rfl rfl ?_)
  refine wp_of e135 c135_1 (rw_aload_n (pc' := 2) (v := .ref r0) rfl rfl rfl ?_)
  refine wp_of e135 c135_2 (rw_iload_n (pc' := 3) (z := a1) rfl rfl ?_)
  refine wp_of e135 c135_3 (xc_V (pc' := 6) (r := r0) (as := [vI a1]) (st := [.ref r0]) (lm_0_238) rfl rfl (Nat.le_of_ble_eq_true rfl) hW g0 sh_1 (by decide) rfl (by decide) (s_133 hW g0 ⟨by omega, by omega⟩) (fun R1066 T1067 H1068 p1069 => ?_))
  obtain ⟨e1070, e1072, z1074, e1071, b1075, p1073⟩ := p1069
  subst e1070
  subst e1071
  subst e1072
  show wp _ _ 135 6 [(0, .ref r0), (1, vI a1)] [vI z1074, .ref r0] _ H _
  refine wp_of e135 c135_6 (xc_V (pc' := 9) (r := r0) (as := [vI z1074]) (st := []) (lm_0_245) rfl rfl (Nat.le_of_ble_eq_true rfl) hW g0 sh_1 (by decide) rfl (by decide) (u_84 (e := e) (d := d) (n := n) hW g0 ⟨by omega, by omega⟩ qcu gcu hCU_cu) (fun R1076 T1077 H1078 p1079 => ?_))
  obtain ⟨e1080, e1082, z1083, e1081, b1084, p1085⟩ := p1079
  subst e1080
  subst e1081
  subst e1082
  rcases p1085 with ⟨a1086, a1087, a1088⟩ | ⟨a1089, a1090⟩
  · show wp _ _ 135 9 [(0, .ref r0), (1, vI a1)] [vI z1083] _ H _
    refine wp_of e135 c135_9 (rw_istore_n (pc' := 10) (z := z1083) (L' := [(2, vI z1083), (0, .ref r0), (1, vI a1)]) rfl rfl rfl ?_)
    refine wp_of e135 c135_10 (rw_iload_n (pc' := 11) (z := z1083) rfl rfl ?_)
    refine wp_of e135 c135_11 (rw_if_eq (p1 := 20) (p2 := 14) (by decide) rfl ⟨by omega, by omega⟩ (fun c1091 => ?_) (fun c1091 => ?_))
    · refine wp_of e135 c135_20 (rw_aload_n (pc' := 21) (v := .ref r0) rfl rfl rfl ?_)
      refine wp_of e135 c135_21 (rw_aload_n (pc' := 22) (v := .ref r0) rfl rfl rfl ?_)
      refine wp_of e135 c135_22 (xg_R (pc' := 25) lf_0_44 hW g0 sh_1 (by decide) (by decide) ty_1_5 rfl rfl (fun r1092 q1093 g1094 => ?_))
      refine wp_of e135 c135_25 (rw_aload_n (pc' := 26) (v := .ref r0) rfl rfl rfl ?_)
      refine wp_of e135 c135_26 (xg_K (pc' := 29) lf_0_51 hW g0 sh_1 (by decide) (by decide) rfl qcu rfl ?_)
      refine wp_of e135 c135_29 (rw_aload_n (pc' := 30) (v := .ref r0) rfl rfl rfl ?_)
      refine wp_of e135 c135_30 (xg_K (pc' := 33) lf_0_23 hW g0 sh_1 (by decide) (by decide) rfl qwa rfl ?_)
      refine wp_of e135 c135_33 (rw_iload_n (pc' := 34) (z := a1) rfl rfl ?_)
      refine wp_of e135 c135_34 (xc_V (pc' := 37) (r := r1092) (as := [.ref cu, .ref wa, vI a1]) (st := [.ref r0]) (lm_0_248) rfl rfl (Nat.le_of_ble_eq_true rfl) hW g1094 sh_25 (by decide) rfl (by decide) (s_136 hW g1094 gcu gwa ⟨by omega, by omega⟩) (fun R1095 T1096 H1097 p1098 => ?_))
      obtain ⟨e1099, w1101, f1102, z1103, e1100, b1104⟩ := p1098
      subst e1099
      subst e1100
      have f1105 := f0.tr f1102 rfl
      show wp _ _ 135 37 [(2, vI z1083), (0, .ref r0), (1, vI a1)] [vI z1103, .ref r0] _ H1097 _
      refine wp_of e135 c135_37 (xc_V (pc' := 40) (r := r0) (as := [vI z1103]) (st := []) (lm_0_99) rfl rfl (Nat.le_of_ble_eq_true rfl) w1101 g0 sh_1 (by decide) rfl (by decide) (s_51 w1101 g0 ⟨by omega, by omega⟩) (fun R1106 T1107 H1108 p1109 => ?_))
      obtain ⟨e1110, w1112, f1113, z1114, e1111, b1115⟩ := p1109
      subst e1110
      subst e1111
      have f1116 := f1105.tr f1113 rfl
      show wp _ _ 135 40 [(2, vI z1083), (0, .ref r0), (1, vI a1)] [vI z1114] _ H1108 _
      have h1117 : CEN T H1108 ce e d := (CEN_fr w1101 gce f1113 rfl (CEN_fr hW gce f1102 rfl hCEN_ce))
      exact wp_ireturn e135 c135_40 rfl ⟨rfl, w1112, f1116, z1114, rfl, ⟨by omega, by omega⟩, (h1117)⟩
    · exfalso
      omega
  · show wp _ _ 135 9 [(0, .ref r0), (1, vI a1)] [vI z1083] _ H _
    refine wp_of e135 c135_9 (rw_istore_n (pc' := 10) (z := z1083) (L' := [(2, vI z1083), (0, .ref r0), (1, vI a1)]) rfl rfl rfl ?_)
    refine wp_of e135 c135_10 (rw_iload_n (pc' := 11) (z := z1083) rfl rfl ?_)
    refine wp_of e135 c135_11 (rw_if_eq (p1 := 20) (p2 := 14) (by decide) rfl ⟨by omega, by omega⟩ (fun c1118 => ?_) (fun c1118 => ?_))
    · exfalso
      omega
    · refine wp_of e135 c135_14 (rw_aload_n (pc' := 15) (v := .ref r0) rfl rfl rfl ?_)
      refine wp_of e135 c135_15 (rw_iload_n (pc' := 16) (z := z1083) rfl rfl ?_)
      refine wp_of e135 c135_16 (xc_V (pc' := 19) (r := r0) (as := [vI z1083]) (st := []) (lm_0_70) rfl rfl (Nat.le_of_ble_eq_true rfl) hW g0 sh_1 (by decide) rfl (by decide) (s_12 hW g0 ⟨by omega, by omega⟩) (fun R1119 T1120 H1121 p1122 => ?_))
      obtain ⟨e1123, w1125, f1126, z1127, e1124, b1128⟩ := p1122
      subst e1123
      subst e1124
      have f1129 := f0.tr f1126 rfl
      show wp _ _ 135 19 [(2, vI z1083), (0, .ref r0), (1, vI a1)] [vI z1127] _ H1121 _
      have h1130 : CEN T H1121 ce e d := (CEN_fr hW gce f1126 rfl hCEN_ce)
      exact wp_ireturn e135 c135_19 rfl ⟨rfl, w1125, f1129, z1127, rfl, ⟨by omega, by omega⟩, (h1130)⟩
/-! StrikeAwake.proof()I  -/
abbrev uq_137 (r0 : Nat) (cu : Nat) (wa : Nat) (ce : Nat) (e : xD) (d : xD) (n : Int) (T : wq_T) (H : wq_H) : Option Value → wq_T → wq_H → Prop := fun r T' H' => T = T' ∧ WT T H' ∧ wfr [(12, 5), (12, 6), (12, 7), (12, 8), (12, 9), (25, 1), (25, 2), (1, 10), (6, 5), (8, 999), (10, 999), (26, 999), (15, 999), (9, 999), (18, 999), (19, 999), (7, 999), (11, 999), (17, 999), (13, 999)] T H H' ∧ ∃ z : Int, some (vI z) = r ∧ ((-2147483648) ≤ z ∧ z ≤ 2147483647) ∧ ((CEN T H' ce e d))
set_option maxHeartbeats 4000000 in
theorem u_137 {kt : Nat → Option mc_E} {T : wq_T} {H : wq_H} {r0 : Nat} {cu : Nat} {wa : Nat} {ce : Nat} {e : xD} {d : xD} {n : Int} (hW : WT T H) (g0 : T.2.2.2 r0 = some 1) (qcu : H r0 6 = (cu : Int)) (gcu : T.2.2.2 cu = some 27) (qwa : H r0 2 = (wa : Int)) (gwa : T.2.2.2 wa = some 6) (qce : H r0 3 = (ce : Int)) (gce : T.2.2.2 ce = some 12) (p0 : ∀ i, i ≠ 13 → e i = d i) (p1 : XW d) (p2 : e 0 3 = d 0 3) (p3 : e 0 0 = d 0 0) (p4 : H r0 8 = 0 ∨ n = xlots d) (p5 : H r0 8 ≠ 0 ∨ (d 0 3 = 0 ∧ d 0 0 = 0)) (hCU_cu : CU T H cu e d n) (hCEN_ce : CEN T H ce e d) (hHDR_ce : HDR T H ce ) : wpc kt 6 137 [.ref r0] T H (uq_137 r0 cu wa ce e d n T H) := by
  refine wp_enter e137 (Nat.le_of_ble_eq_true rfl) rfl ?_
  have f0 : wfr [(12, 5), (12, 6), (12, 7), (12, 8), (12, 9), (25, 1), (25, 2), (1, 10), (6, 5), (8, 999), (10, 999), (26, 999), (15, 999), (9, 999), (18, 999), (19, 999), (7, 999), (11, 999), (17, 999), (13, 999)] T H H := wfr.rf
  show wp _ _ 137 0 [(0, .ref r0)] [] _ H _
  have u1089 := CU_k hCU_cu
  have b1090 : 0 ≤ H r0 8 ∧ H r0 8 ≤ 1 := hW.box g0 (n := 13) rfl (by decide) rfl
  refine wp_of e137 c137_0 (rw_aload_n (pc' := 1) (v := .ref r0) rfl rfl rfl ?_)
  refine wp_of e137 c137_1 (xg_I (pc' := 4) lf_0_58 hW g0 sh_1 (by decide) (by decide) ty_1_8 rfl rfl (fun b1091 b1092 => ?_))
  refine wp_of e137 c137_4 (rw_if_ne (p1 := 13) (p2 := 7) (by decide) rfl ⟨by omega, by omega⟩ (fun c1093 => ?_) (fun c1093 => ?_))
  · refine wp_of e137 c137_13 (rw_aload_n (pc' := 14) (v := .ref r0) rfl rfl rfl ?_)
    refine wp_of e137 c137_14 (xg_K (pc' := 17) lf_0_51 hW g0 sh_1 (by decide) (by decide) rfl qcu rfl ?_)
    refine wp_of e137 c137_17 (xg_L (pc' := 20) lf_0_141 hW gcu sh_27 (by decide) (by decide) ty_27_18 rfl rfl (fun b1094 b1095 => ?_))
    refine wp_of e137 c137_20 (rw_ldc2 (pc' := 23) (z := 5000) rfl rfl rfl ?_)
    refine wp_of e137 c137_23 (rw_lcmp (pc' := 24) rfl ⟨by omega, by omega⟩ ⟨by omega, by omega⟩ ?_)
    have b1096 := wq_cmp_b (H cu 18) 5000
    refine wp_of e137 c137_24 (rw_if_le (p1 := 33) (p2 := 27) (by decide) rfl ⟨by omega, by omega⟩ (fun c1097 => ?_) (fun c1097 => ?_))
    · refine wp_of e137 c137_33 (rw_aload_n (pc' := 34) (v := .ref r0) rfl rfl rfl ?_)
      refine wp_of e137 c137_34 (xg_K (pc' := 37) lf_0_30 hW g0 sh_1 (by decide) (by decide) rfl qce rfl ?_)
      refine wp_of e137 c137_37 (rw_aload_n (pc' := 38) (v := .ref r0) rfl rfl rfl ?_)
      refine wp_of e137 c137_38 (xg_K (pc' := 41) lf_0_51 hW g0 sh_1 (by decide) (by decide) rfl qcu rfl ?_)
      refine wp_of e137 c137_41 (rw_aload_n (pc' := 42) (v := .ref r0) rfl rfl rfl ?_)
      refine wp_of e137 c137_42 (xg_K (pc' := 45) lf_0_23 hW g0 sh_1 (by decide) (by decide) rfl qwa rfl ?_)
      refine wp_of e137 c137_45 (xc_V (pc' := 48) (r := ce) (as := [.ref cu, .ref wa]) (st := []) (lm_0_254) rfl rfl (Nat.le_of_ble_eq_true rfl) hW gce sh_12 (by decide) rfl (by decide) (u_85 (e := e) (d := d) (n := n) hW gce gcu gwa (by assumption) (by assumption) (by omega) (by omega) (by omega) (by omega) hCU_cu hCEN_ce hHDR_ce) (fun R1098 T1099 H1100 p1101 => ?_))
      obtain ⟨e1102, w1104, f1105, e1103, p1106⟩ := p1101
      subst e1102
      subst e1103
      obtain ⟨a1107, a1108, a1109, a1110⟩ := p1106
      have f1111 := f0.tr f1105 rfl
      show wp _ _ 137 48 [(0, .ref r0)] [] _ H1100 _
      refine wp_of e137 c137_48 (rw_aload_n (pc' := 49) (v := .ref r0) rfl rfl rfl ?_)
      have k1112 : H1100 r0 3 = H r0 3 := (f1105 r0 3 _ g0 rfl)
      have q1113 : H1100 r0 3 = (ce : Int) := k1112.trans qce
      refine wp_of e137 c137_49 (xg_K (pc' := 52) lf_0_30 w1104 g0 sh_1 (by decide) (by decide) rfl q1113 rfl ?_)
      refine wp_of e137 c137_52 (xg_I (pc' := 55) lf_0_177 w1104 gce sh_12 (by decide) (by decide) ty_12_5 rfl rfl (fun b1114 b1115 => ?_))
      refine wp_of e137 c137_55 (rw_if_le (p1 := 64) (p2 := 58) (by decide) rfl ⟨by omega, by omega⟩ (fun c1116 => ?_) (fun c1116 => ?_))
      · refine wp_of e137 c137_64 (rw_aload_n (pc' := 65) (v := .ref r0) rfl rfl rfl ?_)
        refine wp_of e137 c137_65 (rw_aload_n (pc' := 66) (v := .ref r0) rfl rfl rfl ?_)
        refine wp_of e137 c137_66 (xg_R (pc' := 69) lf_0_44 w1104 g0 sh_1 (by decide) (by decide) ty_1_5 rfl rfl (fun r1117 q1118 g1119 => ?_))
        refine wp_of e137 c137_69 (rw_aload_n (pc' := 70) (v := .ref r0) rfl rfl rfl ?_)
        have k1120 : H1100 r0 6 = H r0 6 := (f1105 r0 6 _ g0 rfl)
        have q1121 : H1100 r0 6 = (cu : Int) := k1120.trans qcu
        refine wp_of e137 c137_70 (xg_K (pc' := 73) lf_0_51 w1104 g0 sh_1 (by decide) (by decide) rfl q1121 rfl ?_)
        refine wp_of e137 c137_73 (rw_aload_n (pc' := 74) (v := .ref r0) rfl rfl rfl ?_)
        have k1122 : H1100 r0 2 = H r0 2 := (f1105 r0 2 _ g0 rfl)
        have q1123 : H1100 r0 2 = (wa : Int) := k1122.trans qwa
        refine wp_of e137 c137_74 (xg_K (pc' := 77) lf_0_23 w1104 g0 sh_1 (by decide) (by decide) rfl q1123 rfl ?_)
        refine wp_of e137 c137_77 (xc_V (pc' := 80) (r := r1117) (as := [.ref cu, .ref wa]) (st := [.ref r0]) (lm_0_258) rfl rfl (Nat.le_of_ble_eq_true rfl) w1104 g1119 sh_25 (by decide) rfl (by decide) (s_138 w1104 g1119 gcu gwa) (fun R1124 T1125 H1126 p1127 => ?_))
        obtain ⟨e1128, w1130, f1131, z1132, e1129, b1133⟩ := p1127
        subst e1128
        subst e1129
        have f1134 := f1111.tr f1131 rfl
        show wp _ _ 137 80 [(0, .ref r0)] [vI z1132, .ref r0] _ H1126 _
        refine wp_of e137 c137_80 (xc_V (pc' := 83) (r := r0) (as := [vI z1132]) (st := []) (lm_0_99) rfl rfl (Nat.le_of_ble_eq_true rfl) w1130 g0 sh_1 (by decide) rfl (by decide) (s_51 w1130 g0 ⟨by omega, by omega⟩) (fun R1135 T1136 H1137 p1138 => ?_))
        obtain ⟨e1139, w1141, f1142, z1143, e1140, b1144⟩ := p1138
        subst e1139
        subst e1140
        have f1145 := f1134.tr f1142 rfl
        show wp _ _ 137 83 [(0, .ref r0)] [vI z1143] _ H1137 _
        have h1146 : CEN T H1137 ce e d := (CEN_fr w1130 gce f1142 rfl (CEN_fr w1104 gce f1131 rfl a1110))
        exact wp_ireturn e137 c137_83 rfl ⟨rfl, w1141, f1145, z1143, rfl, ⟨by omega, by omega⟩, (h1146)⟩
      · refine wp_of e137 c137_58 (rw_aload_n (pc' := 59) (v := .ref r0) rfl rfl rfl ?_)
        refine wp_of e137 c137_59 (rw_iconst (pc' := 60) rfl ?_)
        refine wp_of e137 c137_60 (xc_V (pc' := 63) (r := r0) (as := [vI 5]) (st := []) (lm_0_70) rfl rfl (Nat.le_of_ble_eq_true rfl) w1104 g0 sh_1 (by decide) rfl (by decide) (s_12 w1104 g0 ⟨by omega, by omega⟩) (fun R1147 T1148 H1149 p1150 => ?_))
        obtain ⟨e1151, w1153, f1154, z1155, e1152, b1156⟩ := p1150
        subst e1151
        subst e1152
        have f1157 := f1111.tr f1154 rfl
        show wp _ _ 137 63 [(0, .ref r0)] [vI z1155] _ H1149 _
        have h1158 : CEN T H1149 ce e d := (CEN_fr w1104 gce f1154 rfl a1110)
        exact wp_ireturn e137 c137_63 rfl ⟨rfl, w1153, f1157, z1155, rfl, ⟨by omega, by omega⟩, (h1158)⟩
    · refine wp_of e137 c137_27 (rw_aload_n (pc' := 28) (v := .ref r0) rfl rfl rfl ?_)
      refine wp_of e137 c137_28 (rw_iconst (pc' := 29) rfl ?_)
      refine wp_of e137 c137_29 (xc_V (pc' := 32) (r := r0) (as := [vI 3]) (st := []) (lm_0_70) rfl rfl (Nat.le_of_ble_eq_true rfl) hW g0 sh_1 (by decide) rfl (by decide) (s_12 hW g0 ⟨by omega, by omega⟩) (fun R1159 T1160 H1161 p1162 => ?_))
      obtain ⟨e1163, w1165, f1166, z1167, e1164, b1168⟩ := p1162
      subst e1163
      subst e1164
      have f1169 := f0.tr f1166 rfl
      show wp _ _ 137 32 [(0, .ref r0)] [vI z1167] _ H1161 _
      have h1170 : CEN T H1161 ce e d := (CEN_fr hW gce f1166 rfl hCEN_ce)
      exact wp_ireturn e137 c137_32 rfl ⟨rfl, w1165, f1169, z1167, rfl, ⟨by omega, by omega⟩, (h1170)⟩
  · refine wp_of e137 c137_7 (rw_aload_n (pc' := 8) (v := .ref r0) rfl rfl rfl ?_)
    refine wp_of e137 c137_8 (rw_iconst (pc' := 9) rfl ?_)
    refine wp_of e137 c137_9 (xc_V (pc' := 12) (r := r0) (as := [vI 1]) (st := []) (lm_0_70) rfl rfl (Nat.le_of_ble_eq_true rfl) hW g0 sh_1 (by decide) rfl (by decide) (s_12 hW g0 ⟨by omega, by omega⟩) (fun R1171 T1172 H1173 p1174 => ?_))
    obtain ⟨e1175, w1177, f1178, z1179, e1176, b1180⟩ := p1174
    subst e1175
    subst e1176
    have f1181 := f0.tr f1178 rfl
    show wp _ _ 137 12 [(0, .ref r0)] [vI z1179] _ H1173 _
    have h1182 : CEN T H1173 ce e d := (CEN_fr hW gce f1178 rfl hCEN_ce)
    exact wp_ireturn e137 c137_12 rfl ⟨rfl, w1177, f1181, z1179, rfl, ⟨by omega, by omega⟩, (h1182)⟩
/-! StrikeAwake.part(IZ)I  -/
abbrev uq_146 (r0 : Nat) (a1 : Int) (a2 : Int) (cu : Nat) (wa : Nat) (ce : Nat) (e : xD) (d : xD) (n : Int) (T : wq_T) (H : wq_H) : Option Value → wq_T → wq_H → Prop := fun r T' H' => T = T' ∧ WT T H' ∧ wfr [(12, 5), (12, 6), (12, 7), (12, 8), (12, 9), (1, 10), (6, 5), (8, 999), (10, 999), (15, 999), (9, 999), (18, 999), (19, 999), (7, 999), (11, 999), (17, 999), (13, 999)] T H H' ∧ ∃ z : Int, some (vI z) = r ∧ ((-2147483648) ≤ z ∧ z ≤ 2147483647) ∧ (((z = -1000) ∧ (((a1 < 0 ∨ d 0 0 ≤ a1) ∨ e 13 (a1).toNat ≤ 0) ∨ 20000 < n ∨ xcn (xwf e d) (xlots d).toNat ≤ 0) ∧ CEN T H' ce e d) ∨ ((((0 ≤ a1 ∧ a1 < d 0 0) ∧ e 13 (a1).toNat > 0) ∧ n ≤ 20000 ∧ 0 < xcn (xwf e d) (xlots d).toNat) ∧ (XEX (decide (a2 ≠ 0)) (xwf e d) (fun n => e 13 (a1).toNat - 1 - ((xdue d (xlot d ((n : Nat) : Int)) (a1).toNat : Nat) : Int)) (xlots d).toNat z) ∧ CEN T H' ce e d))
set_option maxHeartbeats 4000000 in
theorem u_146 {kt : Nat → Option mc_E} {T : wq_T} {H : wq_H} {r0 : Nat} {a1 : Int} {a2 : Int} {cu : Nat} {wa : Nat} {ce : Nat} {e : xD} {d : xD} {n : Int} (hW : WT T H) (g0 : T.2.2.2 r0 = some 1) (i1 : (-2147483648) ≤ a1 ∧ a1 ≤ 2147483647) (i2 : 0 ≤ a2 ∧ a2 ≤ 1) (qcu : H r0 6 = (cu : Int)) (gcu : T.2.2.2 cu = some 27) (qwa : H r0 2 = (wa : Int)) (gwa : T.2.2.2 wa = some 6) (qce : H r0 3 = (ce : Int)) (gce : T.2.2.2 ce = some 12) (p0 : ∀ i, i ≠ 13 → e i = d i) (p1 : XW d) (p2 : e 0 3 = d 0 3) (p3 : e 0 0 = d 0 0) (p4 : H r0 8 = 0 ∨ n = xlots d) (p5 : H r0 8 ≠ 0 ∨ (d 0 3 = 0 ∧ d 0 0 = 0)) (hCU_cu : CU T H cu e d n) (hCEN_ce : CEN T H ce e d) (hHDR_ce : HDR T H ce ) : wpc kt 7 146 [.ref r0, vI a1, vI a2] T H (uq_146 r0 a1 a2 cu wa ce e d n T H) := by
  refine wp_enter e146 (Nat.le_of_ble_eq_true rfl) rfl ?_
  have f0 : wfr [(12, 5), (12, 6), (12, 7), (12, 8), (12, 9), (1, 10), (6, 5), (8, 999), (10, 999), (15, 999), (9, 999), (18, 999), (19, 999), (7, 999), (11, 999), (17, 999), (13, 999)] T H H := wfr.rf
  show wp _ _ 146 0 [(0, .ref r0), (1, vI a1), (2, vI a2)] [] _ H _
  have u1297 := CU_k hCU_cu
  have b1298 : 0 ≤ H r0 8 ∧ H r0 8 ≤ 1 := hW.box g0 (n := 13) rfl (by decide) rfl
  have h1299 : ST T H cu (e 13) := hCU_cu.1.2.2.1
  refine wp_of e146 c146_0 (rw_aload_n (pc' := 1) (v := .ref r0) rfl rfl rfl ?_)
  refine wp_of e146 c146_1 (rw_aload_n (pc' := 2) (v := .ref r0) rfl rfl rfl ?_)
  refine wp_of e146 c146_2 (rw_iload_n (pc' := 3) (z := a1) rfl rfl ?_)
  refine wp_of e146 c146_3 (xc_V (pc' := 6) (r := r0) (as := [vI a1]) (st := [.ref r0]) (lm_0_132) rfl rfl (Nat.le_of_ble_eq_true rfl) hW g0 sh_1 (by decide) rfl (by decide) (u_60  hW g0 ⟨by omega, by omega⟩ qcu gcu) (fun R1300 T1301 H1302 p1303 => ?_))
  obtain ⟨e1304, e1306, z1307, e1305, b1308, p1309⟩ := p1303
  subst e1304
  subst e1305
  subst e1306
  rcases p1309 with ⟨a1310, a1311⟩ | ⟨a1312, a1313⟩
  · show wp _ _ 146 6 [(0, .ref r0), (1, vI a1), (2, vI a2)] [vI z1307, .ref r0] _ H _
    refine wp_of e146 c146_6 (rw_if_eq (p1 := 25) (p2 := 9) (by decide) rfl ⟨by omega, by omega⟩ (fun c1314 => ?_) (fun c1314 => ?_))
    · exfalso
      omega
    · refine wp_of e146 c146_9 (rw_aload_n (pc' := 10) (v := .ref r0) rfl rfl rfl ?_)
      refine wp_of e146 c146_10 (xg_K (pc' := 13) lf_0_51 hW g0 sh_1 (by decide) (by decide) rfl qcu rfl ?_)
      refine wp_of e146 c146_13 (xg_R (pc' := 16) lf_0_262 hW gcu sh_27 (by decide) (by decide) ty_27_1 rfl rfl (fun r1315 q1316 g1317 => ?_))
      refine wp_of e146 c146_16 (rw_iload_n (pc' := 17) (z := a1) rfl rfl ?_)
      refine wp_of e146 c146_17 (xa_I (so := 0) (pc' := 18) hW g1317 sh_29 (by decide) (ty_29 _) (by omega) (by omega) rfl (fun b1318 b1319 => ?_))
      have := ST_at h1299 q1316 (k := (a1.toNat)) (by omega)
      refine wp_of e146 c146_18 (rw_if_lt (p1 := 25) (p2 := 21) (by decide) rfl ⟨by omega, by omega⟩ (fun c1320 => ?_) (fun c1320 => ?_))
      · refine wp_of e146 c146_25 (rw_iconst (pc' := 26) rfl ?_)
        refine wp_of e146 c146_26 (xc_V (pc' := 29) (r := r0) (as := [vI 0]) (st := []) (lm_0_198) rfl rfl (Nat.le_of_ble_eq_true rfl) hW g0 sh_1 (by decide) rfl (by decide) (u_102 (e := e) (d := d) (n := n) hW g0 ⟨by omega, by omega⟩ qcu gcu qwa gwa qce gce (by assumption) (by assumption) (by omega) (by omega) (by omega) hCU_cu hCEN_ce hHDR_ce) (fun R1321 T1322 H1323 p1324 => ?_))
        obtain ⟨e1325, w1327, f1328, z1329, e1326, b1330, p1331⟩ := p1324
        subst e1325
        subst e1326
        rcases p1331 with ⟨a1332, a1333, a1334, a1335, a1336, a1337, a1338⟩ | ⟨a1339, a1340, a1341⟩
        · have f1342 := f0.tr f1328 rfl
          show wp _ _ 146 29 [(0, .ref r0), (1, vI a1), (2, vI a2)] [vI z1329] _ H1323 _
          refine wp_of e146 c146_29 (rw_istore_n (pc' := 30) (z := z1329) (L' := [(3, vI z1329), (0, .ref r0), (1, vI a1), (2, vI a2)]) rfl rfl rfl ?_)
          refine wp_of e146 c146_30 (rw_iload_n (pc' := 31) (z := z1329) rfl rfl ?_)
          refine wp_of e146 c146_31 (rw_if_eq (p1 := 43) (p2 := 34) (by decide) rfl ⟨by omega, by omega⟩ (fun c1343 => ?_) (fun c1343 => ?_))
          · have h1344 : LD3 T H1323 ce e d (xlots d).toNat 0 := (a1338).2.2.1
            have h1345 : LD4 T H1323 ce e d (xlots d).toNat 0 := (a1338).2.2.2
            refine wp_of e146 c146_43 (rw_iload_n (pc' := 44) (z := a2) rfl rfl ?_)
            refine wp_of e146 c146_44 (rw_if_eq (p1 := 59) (p2 := 47) (by decide) rfl ⟨by omega, by omega⟩ (fun c1346 => ?_) (fun c1346 => ?_))
            · refine wp_of e146 c146_59 (rw_aload_n (pc' := 60) (v := .ref r0) rfl rfl rfl ?_)
              have k1347 : H1323 r0 3 = H r0 3 := (f1328 r0 3 _ g0 rfl)
              have q1348 : H1323 r0 3 = (ce : Int) := k1347.trans qce
              refine wp_of e146 c146_60 (xg_K (pc' := 63) lf_0_30 w1327 g0 sh_1 (by decide) (by decide) rfl q1348 rfl ?_)
              refine wp_of e146 c146_63 (xg_R (pc' := 66) lf_0_268 w1327 gce sh_12 (by decide) (by decide) ty_12_4 rfl rfl (fun r1349 q1350 g1351 => ?_))
              refine wp_of e146 c146_66 (rw_iload_n (pc' := 67) (z := a1) rfl rfl ?_)
              refine wp_of e146 c146_67 (xa_I (so := 0) (pc' := 68) w1327 g1351 sh_19 (by decide) (ty_19 _) (by omega) (by omega) rfl (fun b1352 b1353 => ?_))
              have _y := LD_a0 h1345 q1350 (h := (a1).toNat) (s := (a1.toNat)) (by omega) (by omega) (by omega) (Nat.zero_le _) (by omega)
              refine wp_of e146 c146_68 (rw_istore (pc' := 70) (z := H1323 r1349 (a1.toNat)) (L' := [(4, vI (H1323 r1349 (a1.toNat))), (3, vI z1329), (0, .ref r0), (1, vI a1), (2, vI a2)]) rfl rfl rfl ?_)
              refine wp_of e146 c146_70 (rw_aload_n (pc' := 71) (v := .ref r0) rfl rfl rfl ?_)
              refine wp_of e146 c146_71 (rw_aload_n (pc' := 72) (v := .ref r0) rfl rfl rfl ?_)
              have k1354 : H1323 r0 6 = H r0 6 := (f1328 r0 6 _ g0 rfl)
              have q1355 : H1323 r0 6 = (cu : Int) := k1354.trans qcu
              refine wp_of e146 c146_72 (xg_K (pc' := 75) lf_0_51 w1327 g0 sh_1 (by decide) (by decide) rfl q1355 rfl ?_)
              have k1356 : H1323 cu 1 = H cu 1 := (f1328 cu 1 _ gcu rfl)
              have q1357 : H1323 cu 1 = (r1315 : Int) := k1356.trans q1316
              refine wp_of e146 c146_75 (xg_K (pc' := 78) lf_0_262 w1327 gcu sh_27 (by decide) (by decide) rfl q1357 rfl ?_)
              refine wp_of e146 c146_78 (rw_iload_n (pc' := 79) (z := a1) rfl rfl ?_)
              have k1358 : H1323 r1315 (a1.toNat) = H r1315 (a1.toNat) := (f1328 r1315 (a1.toNat) _ g1317 rfl)
              refine wp_of e146 c146_79 (xa_I (so := 0) (pc' := 80) w1327 g1317 sh_29 (by decide) (ty_29 _) (by omega) (by omega) rfl (fun b1359 b1360 => ?_))
              have h1361 : ST T H1323 cu (e 13) := (ST_fr hW gcu f1328 rfl h1299)
              have := ST_at h1361 q1357 (k := (a1.toNat)) (by omega)
              refine wp_of e146 c146_80 (rw_iload (pc' := 82) (z := H1323 r1349 (a1.toNat)) rfl rfl ?_)
              refine wp_of e146 c146_82 (rw_isubw (pc' := 83) rfl ?_)
              obtain ⟨v1362, e1363⟩ : ∃ x : Int, x = wq_w ((H1323 r1315 (a1.toNat)) - (H1323 r1349 (a1.toNat))) := ⟨_, rfl⟩
              rw [← e1363]
              have b1364 : -2147483648 ≤ v1362 ∧ v1362 ≤ 2147483647 := by
                rw [e1363]
                exact wI_w _
              have b1365 : (-2147483648 ≤ (H1323 r1315 (a1.toNat)) - (H1323 r1349 (a1.toNat)) ∧ (H1323 r1315 (a1.toNat)) - (H1323 r1349 (a1.toNat)) ≤ 2147483647) → v1362 = (H1323 r1315 (a1.toNat)) - (H1323 r1349 (a1.toNat)) := fun h => by rw [e1363]; exact wq_w_id h
              have _z : XEX (decide (a2 ≠ 0)) (xwf e d) (fun n => e 13 (a1).toNat - 1 - ((xdue d (xlot d ((n : Nat) : Int)) (a1).toNat : Nat) : Int)) (xlots d).toNat v1362 := by
                first
                | (rw [decide_eq_true (by omega : a2 ≠ 0), show v1362 = (e 13 (a1).toNat - 1) - xtr false (xwf e d) (fun n => ((xdue d (xlot d n) (a1).toNat : Nat) : Int)) (xlots d).toNat by omega]; exact XEX_sub (xtr_ex (m := false) _ (by omega)))
                | (rw [decide_eq_false (by omega : ¬ a2 ≠ 0), show v1362 = (e 13 (a1).toNat - 1) - xtr true (xwf e d) (fun n => ((xdue d (xlot d n) (a1).toNat : Nat) : Int)) (xlots d).toNat by omega]; exact XEX_sub (xtr_ex (m := true) _ (by omega)))
              refine wp_of e146 c146_83 (xc_V (pc' := 86) (r := r0) (as := [vI v1362]) (st := []) (lm_0_99) rfl rfl (Nat.le_of_ble_eq_true rfl) w1327 g0 sh_1 (by decide) rfl (by decide) (u_51  w1327 g0 ⟨by omega, by omega⟩) (fun R1366 T1367 H1368 p1369 => ?_))
              obtain ⟨e1370, w1372, f1373, z1374, e1371, b1375, p1376⟩ := p1369
              subst e1370
              subst e1371
              obtain ⟨a1377, a1378⟩ := p1376
              have f1379 := f1342.tr f1373 rfl
              show wp _ _ 146 86 [(4, vI (H1323 r1349 (a1.toNat))), (3, vI z1329), (0, .ref r0), (1, vI a1), (2, vI a2)] [vI z1374] _ H1368 _
              have h1380 : CEN T H1368 ce e d := (CEN_fr w1327 gce f1373 rfl a1336)
              exact wp_ireturn e146 c146_86 rfl ⟨rfl, w1372, f1379, z1374, rfl, ⟨by omega, by omega⟩, (Or.inr ⟨by omega, _z, h1380⟩)⟩
            · refine wp_of e146 c146_47 (rw_aload_n (pc' := 48) (v := .ref r0) rfl rfl rfl ?_)
              have k1381 : H1323 r0 3 = H r0 3 := (f1328 r0 3 _ g0 rfl)
              have q1382 : H1323 r0 3 = (ce : Int) := k1381.trans qce
              refine wp_of e146 c146_48 (xg_K (pc' := 51) lf_0_30 w1327 g0 sh_1 (by decide) (by decide) rfl q1382 rfl ?_)
              refine wp_of e146 c146_51 (xg_R (pc' := 54) lf_0_265 w1327 gce sh_12 (by decide) (by decide) ty_12_3 rfl rfl (fun r1383 q1384 g1385 => ?_))
              refine wp_of e146 c146_54 (rw_iload_n (pc' := 55) (z := a1) rfl rfl ?_)
              refine wp_of e146 c146_55 (xa_I (so := 0) (pc' := 56) w1327 g1385 sh_18 (by decide) (ty_18 _) (by omega) (by omega) rfl (fun b1386 b1387 => ?_))
              have _y := LD_a0 h1344 q1384 (h := (a1).toNat) (s := (a1.toNat)) (by omega) (by omega) (by omega) (Nat.zero_le _) (by omega)
              refine wp_of e146 c146_56 (rw_goto (p1 := 68) (by decide) ?_)
              refine wp_of e146 c146_68 (rw_istore (pc' := 70) (z := H1323 r1383 (a1.toNat)) (L' := [(4, vI (H1323 r1383 (a1.toNat))), (3, vI z1329), (0, .ref r0), (1, vI a1), (2, vI a2)]) rfl rfl rfl ?_)
              refine wp_of e146 c146_70 (rw_aload_n (pc' := 71) (v := .ref r0) rfl rfl rfl ?_)
              refine wp_of e146 c146_71 (rw_aload_n (pc' := 72) (v := .ref r0) rfl rfl rfl ?_)
              have k1388 : H1323 r0 6 = H r0 6 := (f1328 r0 6 _ g0 rfl)
              have q1389 : H1323 r0 6 = (cu : Int) := k1388.trans qcu
              refine wp_of e146 c146_72 (xg_K (pc' := 75) lf_0_51 w1327 g0 sh_1 (by decide) (by decide) rfl q1389 rfl ?_)
              have k1390 : H1323 cu 1 = H cu 1 := (f1328 cu 1 _ gcu rfl)
              have q1391 : H1323 cu 1 = (r1315 : Int) := k1390.trans q1316
              refine wp_of e146 c146_75 (xg_K (pc' := 78) lf_0_262 w1327 gcu sh_27 (by decide) (by decide) rfl q1391 rfl ?_)
              refine wp_of e146 c146_78 (rw_iload_n (pc' := 79) (z := a1) rfl rfl ?_)
              have k1392 : H1323 r1315 (a1.toNat) = H r1315 (a1.toNat) := (f1328 r1315 (a1.toNat) _ g1317 rfl)
              refine wp_of e146 c146_79 (xa_I (so := 0) (pc' := 80) w1327 g1317 sh_29 (by decide) (ty_29 _) (by omega) (by omega) rfl (fun b1393 b1394 => ?_))
              have h1395 : ST T H1323 cu (e 13) := (ST_fr hW gcu f1328 rfl h1299)
              have := ST_at h1395 q1391 (k := (a1.toNat)) (by omega)
              refine wp_of e146 c146_80 (rw_iload (pc' := 82) (z := H1323 r1383 (a1.toNat)) rfl rfl ?_)
              refine wp_of e146 c146_82 (rw_isubw (pc' := 83) rfl ?_)
              obtain ⟨v1396, e1397⟩ : ∃ x : Int, x = wq_w ((H1323 r1315 (a1.toNat)) - (H1323 r1383 (a1.toNat))) := ⟨_, rfl⟩
              rw [← e1397]
              have b1398 : -2147483648 ≤ v1396 ∧ v1396 ≤ 2147483647 := by
                rw [e1397]
                exact wI_w _
              have b1399 : (-2147483648 ≤ (H1323 r1315 (a1.toNat)) - (H1323 r1383 (a1.toNat)) ∧ (H1323 r1315 (a1.toNat)) - (H1323 r1383 (a1.toNat)) ≤ 2147483647) → v1396 = (H1323 r1315 (a1.toNat)) - (H1323 r1383 (a1.toNat)) := fun h => by rw [e1397]; exact wq_w_id h
              have _z : XEX (decide (a2 ≠ 0)) (xwf e d) (fun n => e 13 (a1).toNat - 1 - ((xdue d (xlot d ((n : Nat) : Int)) (a1).toNat : Nat) : Int)) (xlots d).toNat v1396 := by
                first
                | (rw [decide_eq_true (by omega : a2 ≠ 0), show v1396 = (e 13 (a1).toNat - 1) - xtr false (xwf e d) (fun n => ((xdue d (xlot d n) (a1).toNat : Nat) : Int)) (xlots d).toNat by omega]; exact XEX_sub (xtr_ex (m := false) _ (by omega)))
                | (rw [decide_eq_false (by omega : ¬ a2 ≠ 0), show v1396 = (e 13 (a1).toNat - 1) - xtr true (xwf e d) (fun n => ((xdue d (xlot d n) (a1).toNat : Nat) : Int)) (xlots d).toNat by omega]; exact XEX_sub (xtr_ex (m := true) _ (by omega)))
              refine wp_of e146 c146_83 (xc_V (pc' := 86) (r := r0) (as := [vI v1396]) (st := []) (lm_0_99) rfl rfl (Nat.le_of_ble_eq_true rfl) w1327 g0 sh_1 (by decide) rfl (by decide) (u_51  w1327 g0 ⟨by omega, by omega⟩) (fun R1400 T1401 H1402 p1403 => ?_))
              obtain ⟨e1404, w1406, f1407, z1408, e1405, b1409, p1410⟩ := p1403
              subst e1404
              subst e1405
              obtain ⟨a1411, a1412⟩ := p1410
              have f1413 := f1342.tr f1407 rfl
              show wp _ _ 146 86 [(4, vI (H1323 r1383 (a1.toNat))), (3, vI z1329), (0, .ref r0), (1, vI a1), (2, vI a2)] [vI z1408] _ H1402 _
              have h1414 : CEN T H1402 ce e d := (CEN_fr w1327 gce f1407 rfl a1336)
              exact wp_ireturn e146 c146_86 rfl ⟨rfl, w1406, f1413, z1408, rfl, ⟨by omega, by omega⟩, (Or.inr ⟨by omega, _z, h1414⟩)⟩
          · exfalso
            omega
        · have f1415 := f0.tr f1328 rfl
          show wp _ _ 146 29 [(0, .ref r0), (1, vI a1), (2, vI a2)] [vI z1329] _ H1323 _
          refine wp_of e146 c146_29 (rw_istore_n (pc' := 30) (z := z1329) (L' := [(3, vI z1329), (0, .ref r0), (1, vI a1), (2, vI a2)]) rfl rfl rfl ?_)
          refine wp_of e146 c146_30 (rw_iload_n (pc' := 31) (z := z1329) rfl rfl ?_)
          refine wp_of e146 c146_31 (rw_if_eq (p1 := 43) (p2 := 34) (by decide) rfl ⟨by omega, by omega⟩ (fun c1416 => ?_) (fun c1416 => ?_))
          · exfalso
            omega
          · refine wp_of e146 c146_34 (rw_aload_n (pc' := 35) (v := .ref r0) rfl rfl rfl ?_)
            refine wp_of e146 c146_35 (rw_iload_n (pc' := 36) (z := z1329) rfl rfl ?_)
            refine wp_of e146 c146_36 (xp_I (pc' := 39) lf_0_102 w1327 g0 sh_1 (by decide) (by decide) ty_1_10 rfl rfl (by omega) (by omega) ⟨by omega, by omega⟩ rfl (fun H1417 e1418 w1419 => ?_))
            have f1420 := f1415.put' e1418 g0 rfl
            have k1421 : H1417 r0 10 = z1329 := wq_u_s e1418
            refine wp_of e146 c146_39 (rw_sipush (pc' := 42) (z := -1000) rfl (by decide) ?_)
            have h1422 : CEN T H1417 ce e d := (CEN_fr w1327 gce ((wfr.rf (l := [(1, 10)])).put' e1418 g0 rfl) rfl a1341)
            exact wp_ireturn e146 c146_42 rfl ⟨rfl, w1419, f1420, -1000, rfl, ⟨by omega, by omega⟩, (Or.inl ⟨by omega, by omega, h1422⟩)⟩
      · refine wp_of e146 c146_21 (rw_iconst (pc' := 22) rfl ?_)
        refine wp_of e146 c146_22 (rw_goto (p1 := 26) (by decide) ?_)
        refine wp_of e146 c146_26 (xc_V (pc' := 29) (r := r0) (as := [vI 1]) (st := []) (lm_0_198) rfl rfl (Nat.le_of_ble_eq_true rfl) hW g0 sh_1 (by decide) rfl (by decide) (u_102 (e := e) (d := d) (n := n) hW g0 ⟨by omega, by omega⟩ qcu gcu qwa gwa qce gce (by assumption) (by assumption) (by omega) (by omega) (by omega) hCU_cu hCEN_ce hHDR_ce) (fun R1423 T1424 H1425 p1426 => ?_))
        obtain ⟨e1427, w1429, f1430, z1431, e1428, b1432, p1433⟩ := p1426
        subst e1427
        subst e1428
        rcases p1433 with ⟨a1434, a1435, a1436, a1437, a1438, a1439, a1440⟩ | ⟨a1441, a1442, a1443⟩
        · have f1444 := f0.tr f1430 rfl
          show wp _ _ 146 29 [(0, .ref r0), (1, vI a1), (2, vI a2)] [vI z1431] _ H1425 _
          refine wp_of e146 c146_29 (rw_istore_n (pc' := 30) (z := z1431) (L' := [(3, vI z1431), (0, .ref r0), (1, vI a1), (2, vI a2)]) rfl rfl rfl ?_)
          refine wp_of e146 c146_30 (rw_iload_n (pc' := 31) (z := z1431) rfl rfl ?_)
          refine wp_of e146 c146_31 (rw_if_eq (p1 := 43) (p2 := 34) (by decide) rfl ⟨by omega, by omega⟩ (fun c1445 => ?_) (fun c1445 => ?_))
          · have h1446 : LD3 T H1425 ce e d (xlots d).toNat 0 := (a1440).2.2.1
            have h1447 : LD4 T H1425 ce e d (xlots d).toNat 0 := (a1440).2.2.2
            refine wp_of e146 c146_43 (rw_iload_n (pc' := 44) (z := a2) rfl rfl ?_)
            refine wp_of e146 c146_44 (rw_if_eq (p1 := 59) (p2 := 47) (by decide) rfl ⟨by omega, by omega⟩ (fun c1448 => ?_) (fun c1448 => ?_))
            · refine wp_of e146 c146_59 (rw_aload_n (pc' := 60) (v := .ref r0) rfl rfl rfl ?_)
              have k1449 : H1425 r0 3 = H r0 3 := (f1430 r0 3 _ g0 rfl)
              have q1450 : H1425 r0 3 = (ce : Int) := k1449.trans qce
              refine wp_of e146 c146_60 (xg_K (pc' := 63) lf_0_30 w1429 g0 sh_1 (by decide) (by decide) rfl q1450 rfl ?_)
              refine wp_of e146 c146_63 (xg_R (pc' := 66) lf_0_268 w1429 gce sh_12 (by decide) (by decide) ty_12_4 rfl rfl (fun r1451 q1452 g1453 => ?_))
              refine wp_of e146 c146_66 (rw_iload_n (pc' := 67) (z := a1) rfl rfl ?_)
              refine wp_of e146 c146_67 (xa_I (so := 0) (pc' := 68) w1429 g1453 sh_19 (by decide) (ty_19 _) (by omega) (by omega) rfl (fun b1454 b1455 => ?_))
              have _y := LD_a0 h1447 q1452 (h := (a1).toNat) (s := (a1.toNat)) (by omega) (by omega) (by omega) (Nat.zero_le _) (by omega)
              refine wp_of e146 c146_68 (rw_istore (pc' := 70) (z := H1425 r1451 (a1.toNat)) (L' := [(4, vI (H1425 r1451 (a1.toNat))), (3, vI z1431), (0, .ref r0), (1, vI a1), (2, vI a2)]) rfl rfl rfl ?_)
              refine wp_of e146 c146_70 (rw_aload_n (pc' := 71) (v := .ref r0) rfl rfl rfl ?_)
              refine wp_of e146 c146_71 (rw_aload_n (pc' := 72) (v := .ref r0) rfl rfl rfl ?_)
              have k1456 : H1425 r0 6 = H r0 6 := (f1430 r0 6 _ g0 rfl)
              have q1457 : H1425 r0 6 = (cu : Int) := k1456.trans qcu
              refine wp_of e146 c146_72 (xg_K (pc' := 75) lf_0_51 w1429 g0 sh_1 (by decide) (by decide) rfl q1457 rfl ?_)
              have k1458 : H1425 cu 1 = H cu 1 := (f1430 cu 1 _ gcu rfl)
              have q1459 : H1425 cu 1 = (r1315 : Int) := k1458.trans q1316
              refine wp_of e146 c146_75 (xg_K (pc' := 78) lf_0_262 w1429 gcu sh_27 (by decide) (by decide) rfl q1459 rfl ?_)
              refine wp_of e146 c146_78 (rw_iload_n (pc' := 79) (z := a1) rfl rfl ?_)
              have k1460 : H1425 r1315 (a1.toNat) = H r1315 (a1.toNat) := (f1430 r1315 (a1.toNat) _ g1317 rfl)
              refine wp_of e146 c146_79 (xa_I (so := 0) (pc' := 80) w1429 g1317 sh_29 (by decide) (ty_29 _) (by omega) (by omega) rfl (fun b1461 b1462 => ?_))
              have h1463 : ST T H1425 cu (e 13) := (ST_fr hW gcu f1430 rfl h1299)
              have := ST_at h1463 q1459 (k := (a1.toNat)) (by omega)
              refine wp_of e146 c146_80 (rw_iload (pc' := 82) (z := H1425 r1451 (a1.toNat)) rfl rfl ?_)
              refine wp_of e146 c146_82 (rw_isubw (pc' := 83) rfl ?_)
              obtain ⟨v1464, e1465⟩ : ∃ x : Int, x = wq_w ((H1425 r1315 (a1.toNat)) - (H1425 r1451 (a1.toNat))) := ⟨_, rfl⟩
              rw [← e1465]
              have b1466 : -2147483648 ≤ v1464 ∧ v1464 ≤ 2147483647 := by
                rw [e1465]
                exact wI_w _
              have b1467 : (-2147483648 ≤ (H1425 r1315 (a1.toNat)) - (H1425 r1451 (a1.toNat)) ∧ (H1425 r1315 (a1.toNat)) - (H1425 r1451 (a1.toNat)) ≤ 2147483647) → v1464 = (H1425 r1315 (a1.toNat)) - (H1425 r1451 (a1.toNat)) := fun h => by rw [e1465]; exact wq_w_id h
              have _z : XEX (decide (a2 ≠ 0)) (xwf e d) (fun n => e 13 (a1).toNat - 1 - ((xdue d (xlot d ((n : Nat) : Int)) (a1).toNat : Nat) : Int)) (xlots d).toNat v1464 := by
                first
                | (rw [decide_eq_true (by omega : a2 ≠ 0), show v1464 = (e 13 (a1).toNat - 1) - xtr false (xwf e d) (fun n => ((xdue d (xlot d n) (a1).toNat : Nat) : Int)) (xlots d).toNat by omega]; exact XEX_sub (xtr_ex (m := false) _ (by omega)))
                | (rw [decide_eq_false (by omega : ¬ a2 ≠ 0), show v1464 = (e 13 (a1).toNat - 1) - xtr true (xwf e d) (fun n => ((xdue d (xlot d n) (a1).toNat : Nat) : Int)) (xlots d).toNat by omega]; exact XEX_sub (xtr_ex (m := true) _ (by omega)))
              refine wp_of e146 c146_83 (xc_V (pc' := 86) (r := r0) (as := [vI v1464]) (st := []) (lm_0_99) rfl rfl (Nat.le_of_ble_eq_true rfl) w1429 g0 sh_1 (by decide) rfl (by decide) (u_51  w1429 g0 ⟨by omega, by omega⟩) (fun R1468 T1469 H1470 p1471 => ?_))
              obtain ⟨e1472, w1474, f1475, z1476, e1473, b1477, p1478⟩ := p1471
              subst e1472
              subst e1473
              obtain ⟨a1479, a1480⟩ := p1478
              have f1481 := f1444.tr f1475 rfl
              show wp _ _ 146 86 [(4, vI (H1425 r1451 (a1.toNat))), (3, vI z1431), (0, .ref r0), (1, vI a1), (2, vI a2)] [vI z1476] _ H1470 _
              have h1482 : CEN T H1470 ce e d := (CEN_fr w1429 gce f1475 rfl a1438)
              exact wp_ireturn e146 c146_86 rfl ⟨rfl, w1474, f1481, z1476, rfl, ⟨by omega, by omega⟩, (Or.inr ⟨by omega, _z, h1482⟩)⟩
            · refine wp_of e146 c146_47 (rw_aload_n (pc' := 48) (v := .ref r0) rfl rfl rfl ?_)
              have k1483 : H1425 r0 3 = H r0 3 := (f1430 r0 3 _ g0 rfl)
              have q1484 : H1425 r0 3 = (ce : Int) := k1483.trans qce
              refine wp_of e146 c146_48 (xg_K (pc' := 51) lf_0_30 w1429 g0 sh_1 (by decide) (by decide) rfl q1484 rfl ?_)
              refine wp_of e146 c146_51 (xg_R (pc' := 54) lf_0_265 w1429 gce sh_12 (by decide) (by decide) ty_12_3 rfl rfl (fun r1485 q1486 g1487 => ?_))
              refine wp_of e146 c146_54 (rw_iload_n (pc' := 55) (z := a1) rfl rfl ?_)
              refine wp_of e146 c146_55 (xa_I (so := 0) (pc' := 56) w1429 g1487 sh_18 (by decide) (ty_18 _) (by omega) (by omega) rfl (fun b1488 b1489 => ?_))
              have _y := LD_a0 h1446 q1486 (h := (a1).toNat) (s := (a1.toNat)) (by omega) (by omega) (by omega) (Nat.zero_le _) (by omega)
              refine wp_of e146 c146_56 (rw_goto (p1 := 68) (by decide) ?_)
              refine wp_of e146 c146_68 (rw_istore (pc' := 70) (z := H1425 r1485 (a1.toNat)) (L' := [(4, vI (H1425 r1485 (a1.toNat))), (3, vI z1431), (0, .ref r0), (1, vI a1), (2, vI a2)]) rfl rfl rfl ?_)
              refine wp_of e146 c146_70 (rw_aload_n (pc' := 71) (v := .ref r0) rfl rfl rfl ?_)
              refine wp_of e146 c146_71 (rw_aload_n (pc' := 72) (v := .ref r0) rfl rfl rfl ?_)
              have k1490 : H1425 r0 6 = H r0 6 := (f1430 r0 6 _ g0 rfl)
              have q1491 : H1425 r0 6 = (cu : Int) := k1490.trans qcu
              refine wp_of e146 c146_72 (xg_K (pc' := 75) lf_0_51 w1429 g0 sh_1 (by decide) (by decide) rfl q1491 rfl ?_)
              have k1492 : H1425 cu 1 = H cu 1 := (f1430 cu 1 _ gcu rfl)
              have q1493 : H1425 cu 1 = (r1315 : Int) := k1492.trans q1316
              refine wp_of e146 c146_75 (xg_K (pc' := 78) lf_0_262 w1429 gcu sh_27 (by decide) (by decide) rfl q1493 rfl ?_)
              refine wp_of e146 c146_78 (rw_iload_n (pc' := 79) (z := a1) rfl rfl ?_)
              have k1494 : H1425 r1315 (a1.toNat) = H r1315 (a1.toNat) := (f1430 r1315 (a1.toNat) _ g1317 rfl)
              refine wp_of e146 c146_79 (xa_I (so := 0) (pc' := 80) w1429 g1317 sh_29 (by decide) (ty_29 _) (by omega) (by omega) rfl (fun b1495 b1496 => ?_))
              have h1497 : ST T H1425 cu (e 13) := (ST_fr hW gcu f1430 rfl h1299)
              have := ST_at h1497 q1493 (k := (a1.toNat)) (by omega)
              refine wp_of e146 c146_80 (rw_iload (pc' := 82) (z := H1425 r1485 (a1.toNat)) rfl rfl ?_)
              refine wp_of e146 c146_82 (rw_isubw (pc' := 83) rfl ?_)
              obtain ⟨v1498, e1499⟩ : ∃ x : Int, x = wq_w ((H1425 r1315 (a1.toNat)) - (H1425 r1485 (a1.toNat))) := ⟨_, rfl⟩
              rw [← e1499]
              have b1500 : -2147483648 ≤ v1498 ∧ v1498 ≤ 2147483647 := by
                rw [e1499]
                exact wI_w _
              have b1501 : (-2147483648 ≤ (H1425 r1315 (a1.toNat)) - (H1425 r1485 (a1.toNat)) ∧ (H1425 r1315 (a1.toNat)) - (H1425 r1485 (a1.toNat)) ≤ 2147483647) → v1498 = (H1425 r1315 (a1.toNat)) - (H1425 r1485 (a1.toNat)) := fun h => by rw [e1499]; exact wq_w_id h
              have _z : XEX (decide (a2 ≠ 0)) (xwf e d) (fun n => e 13 (a1).toNat - 1 - ((xdue d (xlot d ((n : Nat) : Int)) (a1).toNat : Nat) : Int)) (xlots d).toNat v1498 := by
                first
                | (rw [decide_eq_true (by omega : a2 ≠ 0), show v1498 = (e 13 (a1).toNat - 1) - xtr false (xwf e d) (fun n => ((xdue d (xlot d n) (a1).toNat : Nat) : Int)) (xlots d).toNat by omega]; exact XEX_sub (xtr_ex (m := false) _ (by omega)))
                | (rw [decide_eq_false (by omega : ¬ a2 ≠ 0), show v1498 = (e 13 (a1).toNat - 1) - xtr true (xwf e d) (fun n => ((xdue d (xlot d n) (a1).toNat : Nat) : Int)) (xlots d).toNat by omega]; exact XEX_sub (xtr_ex (m := true) _ (by omega)))
              refine wp_of e146 c146_83 (xc_V (pc' := 86) (r := r0) (as := [vI v1498]) (st := []) (lm_0_99) rfl rfl (Nat.le_of_ble_eq_true rfl) w1429 g0 sh_1 (by decide) rfl (by decide) (u_51  w1429 g0 ⟨by omega, by omega⟩) (fun R1502 T1503 H1504 p1505 => ?_))
              obtain ⟨e1506, w1508, f1509, z1510, e1507, b1511, p1512⟩ := p1505
              subst e1506
              subst e1507
              obtain ⟨a1513, a1514⟩ := p1512
              have f1515 := f1444.tr f1509 rfl
              show wp _ _ 146 86 [(4, vI (H1425 r1485 (a1.toNat))), (3, vI z1431), (0, .ref r0), (1, vI a1), (2, vI a2)] [vI z1510] _ H1504 _
              have h1516 : CEN T H1504 ce e d := (CEN_fr w1429 gce f1509 rfl a1438)
              exact wp_ireturn e146 c146_86 rfl ⟨rfl, w1508, f1515, z1510, rfl, ⟨by omega, by omega⟩, (Or.inr ⟨by omega, _z, h1516⟩)⟩
          · exfalso
            omega
        · have f1517 := f0.tr f1430 rfl
          show wp _ _ 146 29 [(0, .ref r0), (1, vI a1), (2, vI a2)] [vI z1431] _ H1425 _
          refine wp_of e146 c146_29 (rw_istore_n (pc' := 30) (z := z1431) (L' := [(3, vI z1431), (0, .ref r0), (1, vI a1), (2, vI a2)]) rfl rfl rfl ?_)
          refine wp_of e146 c146_30 (rw_iload_n (pc' := 31) (z := z1431) rfl rfl ?_)
          refine wp_of e146 c146_31 (rw_if_eq (p1 := 43) (p2 := 34) (by decide) rfl ⟨by omega, by omega⟩ (fun c1518 => ?_) (fun c1518 => ?_))
          · exfalso
            omega
          · refine wp_of e146 c146_34 (rw_aload_n (pc' := 35) (v := .ref r0) rfl rfl rfl ?_)
            refine wp_of e146 c146_35 (rw_iload_n (pc' := 36) (z := z1431) rfl rfl ?_)
            refine wp_of e146 c146_36 (xp_I (pc' := 39) lf_0_102 w1429 g0 sh_1 (by decide) (by decide) ty_1_10 rfl rfl (by omega) (by omega) ⟨by omega, by omega⟩ rfl (fun H1519 e1520 w1521 => ?_))
            have f1522 := f1517.put' e1520 g0 rfl
            have k1523 : H1519 r0 10 = z1431 := wq_u_s e1520
            refine wp_of e146 c146_39 (rw_sipush (pc' := 42) (z := -1000) rfl (by decide) ?_)
            have h1524 : CEN T H1519 ce e d := (CEN_fr w1429 gce ((wfr.rf (l := [(1, 10)])).put' e1520 g0 rfl) rfl a1443)
            exact wp_ireturn e146 c146_42 rfl ⟨rfl, w1521, f1522, -1000, rfl, ⟨by omega, by omega⟩, (Or.inl ⟨by omega, by omega, h1524⟩)⟩
  · show wp _ _ 146 6 [(0, .ref r0), (1, vI a1), (2, vI a2)] [vI z1307, .ref r0] _ H _
    refine wp_of e146 c146_6 (rw_if_eq (p1 := 25) (p2 := 9) (by decide) rfl ⟨by omega, by omega⟩ (fun c1525 => ?_) (fun c1525 => ?_))
    · refine wp_of e146 c146_25 (rw_iconst (pc' := 26) rfl ?_)
      refine wp_of e146 c146_26 (xc_V (pc' := 29) (r := r0) (as := [vI 0]) (st := []) (lm_0_198) rfl rfl (Nat.le_of_ble_eq_true rfl) hW g0 sh_1 (by decide) rfl (by decide) (u_102 (e := e) (d := d) (n := n) hW g0 ⟨by omega, by omega⟩ qcu gcu qwa gwa qce gce (by assumption) (by assumption) (by omega) (by omega) (by omega) hCU_cu hCEN_ce hHDR_ce) (fun R1526 T1527 H1528 p1529 => ?_))
      obtain ⟨e1530, w1532, f1533, z1534, e1531, b1535, p1536⟩ := p1529
      subst e1530
      subst e1531
      rcases p1536 with ⟨a1537, a1538, a1539, a1540, a1541, a1542, a1543⟩ | ⟨a1544, a1545, a1546⟩
      · have f1547 := f0.tr f1533 rfl
        show wp _ _ 146 29 [(0, .ref r0), (1, vI a1), (2, vI a2)] [vI z1534] _ H1528 _
        refine wp_of e146 c146_29 (rw_istore_n (pc' := 30) (z := z1534) (L' := [(3, vI z1534), (0, .ref r0), (1, vI a1), (2, vI a2)]) rfl rfl rfl ?_)
        refine wp_of e146 c146_30 (rw_iload_n (pc' := 31) (z := z1534) rfl rfl ?_)
        refine wp_of e146 c146_31 (rw_if_eq (p1 := 43) (p2 := 34) (by decide) rfl ⟨by omega, by omega⟩ (fun c1548 => ?_) (fun c1548 => ?_))
        · have h1549 : LD3 T H1528 ce e d (xlots d).toNat 0 := (a1543).2.2.1
          have h1550 : LD4 T H1528 ce e d (xlots d).toNat 0 := (a1543).2.2.2
          refine wp_of e146 c146_43 (rw_iload_n (pc' := 44) (z := a2) rfl rfl ?_)
          refine wp_of e146 c146_44 (rw_if_eq (p1 := 59) (p2 := 47) (by decide) rfl ⟨by omega, by omega⟩ (fun c1551 => ?_) (fun c1551 => ?_))
          · refine wp_of e146 c146_59 (rw_aload_n (pc' := 60) (v := .ref r0) rfl rfl rfl ?_)
            have k1552 : H1528 r0 3 = H r0 3 := (f1533 r0 3 _ g0 rfl)
            have q1553 : H1528 r0 3 = (ce : Int) := k1552.trans qce
            refine wp_of e146 c146_60 (xg_K (pc' := 63) lf_0_30 w1532 g0 sh_1 (by decide) (by decide) rfl q1553 rfl ?_)
            refine wp_of e146 c146_63 (xg_R (pc' := 66) lf_0_268 w1532 gce sh_12 (by decide) (by decide) ty_12_4 rfl rfl (fun r1554 q1555 g1556 => ?_))
            refine wp_of e146 c146_66 (rw_iload_n (pc' := 67) (z := a1) rfl rfl ?_)
            refine wp_of e146 c146_67 (xa_I (so := 0) (pc' := 68) w1532 g1556 sh_19 (by decide) (ty_19 _) (by omega) (by omega) rfl (fun b1557 b1558 => ?_))
            have _y := LD_a0 h1550 q1555 (h := (a1).toNat) (s := (a1.toNat)) (by omega) (by omega) (by omega) (Nat.zero_le _) (by omega)
            refine wp_of e146 c146_68 (rw_istore (pc' := 70) (z := H1528 r1554 (a1.toNat)) (L' := [(4, vI (H1528 r1554 (a1.toNat))), (3, vI z1534), (0, .ref r0), (1, vI a1), (2, vI a2)]) rfl rfl rfl ?_)
            refine wp_of e146 c146_70 (rw_aload_n (pc' := 71) (v := .ref r0) rfl rfl rfl ?_)
            refine wp_of e146 c146_71 (rw_aload_n (pc' := 72) (v := .ref r0) rfl rfl rfl ?_)
            have k1559 : H1528 r0 6 = H r0 6 := (f1533 r0 6 _ g0 rfl)
            have q1560 : H1528 r0 6 = (cu : Int) := k1559.trans qcu
            refine wp_of e146 c146_72 (xg_K (pc' := 75) lf_0_51 w1532 g0 sh_1 (by decide) (by decide) rfl q1560 rfl ?_)
            refine wp_of e146 c146_75 (xg_R (pc' := 78) lf_0_262 w1532 gcu sh_27 (by decide) (by decide) ty_27_1 rfl rfl (fun r1561 q1562 g1563 => ?_))
            refine wp_of e146 c146_78 (rw_iload_n (pc' := 79) (z := a1) rfl rfl ?_)
            refine wp_of e146 c146_79 (xa_I (so := 0) (pc' := 80) w1532 g1563 sh_29 (by decide) (ty_29 _) (by omega) (by omega) rfl (fun b1564 b1565 => ?_))
            have h1566 : ST T H1528 cu (e 13) := (ST_fr hW gcu f1533 rfl h1299)
            have := ST_at h1566 q1562 (k := (a1.toNat)) (by omega)
            refine wp_of e146 c146_80 (rw_iload (pc' := 82) (z := H1528 r1554 (a1.toNat)) rfl rfl ?_)
            refine wp_of e146 c146_82 (rw_isubw (pc' := 83) rfl ?_)
            obtain ⟨v1567, e1568⟩ : ∃ x : Int, x = wq_w ((H1528 r1561 (a1.toNat)) - (H1528 r1554 (a1.toNat))) := ⟨_, rfl⟩
            rw [← e1568]
            have b1569 : -2147483648 ≤ v1567 ∧ v1567 ≤ 2147483647 := by
              rw [e1568]
              exact wI_w _
            have b1570 : (-2147483648 ≤ (H1528 r1561 (a1.toNat)) - (H1528 r1554 (a1.toNat)) ∧ (H1528 r1561 (a1.toNat)) - (H1528 r1554 (a1.toNat)) ≤ 2147483647) → v1567 = (H1528 r1561 (a1.toNat)) - (H1528 r1554 (a1.toNat)) := fun h => by rw [e1568]; exact wq_w_id h
            have _z : XEX (decide (a2 ≠ 0)) (xwf e d) (fun n => e 13 (a1).toNat - 1 - ((xdue d (xlot d ((n : Nat) : Int)) (a1).toNat : Nat) : Int)) (xlots d).toNat v1567 := by
              first
              | (rw [decide_eq_true (by omega : a2 ≠ 0), show v1567 = (e 13 (a1).toNat - 1) - xtr false (xwf e d) (fun n => ((xdue d (xlot d n) (a1).toNat : Nat) : Int)) (xlots d).toNat by omega]; exact XEX_sub (xtr_ex (m := false) _ (by omega)))
              | (rw [decide_eq_false (by omega : ¬ a2 ≠ 0), show v1567 = (e 13 (a1).toNat - 1) - xtr true (xwf e d) (fun n => ((xdue d (xlot d n) (a1).toNat : Nat) : Int)) (xlots d).toNat by omega]; exact XEX_sub (xtr_ex (m := true) _ (by omega)))
            refine wp_of e146 c146_83 (xc_V (pc' := 86) (r := r0) (as := [vI v1567]) (st := []) (lm_0_99) rfl rfl (Nat.le_of_ble_eq_true rfl) w1532 g0 sh_1 (by decide) rfl (by decide) (u_51  w1532 g0 ⟨by omega, by omega⟩) (fun R1571 T1572 H1573 p1574 => ?_))
            obtain ⟨e1575, w1577, f1578, z1579, e1576, b1580, p1581⟩ := p1574
            subst e1575
            subst e1576
            obtain ⟨a1582, a1583⟩ := p1581
            have f1584 := f1547.tr f1578 rfl
            show wp _ _ 146 86 [(4, vI (H1528 r1554 (a1.toNat))), (3, vI z1534), (0, .ref r0), (1, vI a1), (2, vI a2)] [vI z1579] _ H1573 _
            have h1585 : CEN T H1573 ce e d := (CEN_fr w1532 gce f1578 rfl a1541)
            exact wp_ireturn e146 c146_86 rfl ⟨rfl, w1577, f1584, z1579, rfl, ⟨by omega, by omega⟩, (Or.inr ⟨by omega, _z, h1585⟩)⟩
          · refine wp_of e146 c146_47 (rw_aload_n (pc' := 48) (v := .ref r0) rfl rfl rfl ?_)
            have k1586 : H1528 r0 3 = H r0 3 := (f1533 r0 3 _ g0 rfl)
            have q1587 : H1528 r0 3 = (ce : Int) := k1586.trans qce
            refine wp_of e146 c146_48 (xg_K (pc' := 51) lf_0_30 w1532 g0 sh_1 (by decide) (by decide) rfl q1587 rfl ?_)
            refine wp_of e146 c146_51 (xg_R (pc' := 54) lf_0_265 w1532 gce sh_12 (by decide) (by decide) ty_12_3 rfl rfl (fun r1588 q1589 g1590 => ?_))
            refine wp_of e146 c146_54 (rw_iload_n (pc' := 55) (z := a1) rfl rfl ?_)
            refine wp_of e146 c146_55 (xa_I (so := 0) (pc' := 56) w1532 g1590 sh_18 (by decide) (ty_18 _) (by omega) (by omega) rfl (fun b1591 b1592 => ?_))
            have _y := LD_a0 h1549 q1589 (h := (a1).toNat) (s := (a1.toNat)) (by omega) (by omega) (by omega) (Nat.zero_le _) (by omega)
            refine wp_of e146 c146_56 (rw_goto (p1 := 68) (by decide) ?_)
            refine wp_of e146 c146_68 (rw_istore (pc' := 70) (z := H1528 r1588 (a1.toNat)) (L' := [(4, vI (H1528 r1588 (a1.toNat))), (3, vI z1534), (0, .ref r0), (1, vI a1), (2, vI a2)]) rfl rfl rfl ?_)
            refine wp_of e146 c146_70 (rw_aload_n (pc' := 71) (v := .ref r0) rfl rfl rfl ?_)
            refine wp_of e146 c146_71 (rw_aload_n (pc' := 72) (v := .ref r0) rfl rfl rfl ?_)
            have k1593 : H1528 r0 6 = H r0 6 := (f1533 r0 6 _ g0 rfl)
            have q1594 : H1528 r0 6 = (cu : Int) := k1593.trans qcu
            refine wp_of e146 c146_72 (xg_K (pc' := 75) lf_0_51 w1532 g0 sh_1 (by decide) (by decide) rfl q1594 rfl ?_)
            refine wp_of e146 c146_75 (xg_R (pc' := 78) lf_0_262 w1532 gcu sh_27 (by decide) (by decide) ty_27_1 rfl rfl (fun r1595 q1596 g1597 => ?_))
            refine wp_of e146 c146_78 (rw_iload_n (pc' := 79) (z := a1) rfl rfl ?_)
            refine wp_of e146 c146_79 (xa_I (so := 0) (pc' := 80) w1532 g1597 sh_29 (by decide) (ty_29 _) (by omega) (by omega) rfl (fun b1598 b1599 => ?_))
            have h1600 : ST T H1528 cu (e 13) := (ST_fr hW gcu f1533 rfl h1299)
            have := ST_at h1600 q1596 (k := (a1.toNat)) (by omega)
            refine wp_of e146 c146_80 (rw_iload (pc' := 82) (z := H1528 r1588 (a1.toNat)) rfl rfl ?_)
            refine wp_of e146 c146_82 (rw_isubw (pc' := 83) rfl ?_)
            obtain ⟨v1601, e1602⟩ : ∃ x : Int, x = wq_w ((H1528 r1595 (a1.toNat)) - (H1528 r1588 (a1.toNat))) := ⟨_, rfl⟩
            rw [← e1602]
            have b1603 : -2147483648 ≤ v1601 ∧ v1601 ≤ 2147483647 := by
              rw [e1602]
              exact wI_w _
            have b1604 : (-2147483648 ≤ (H1528 r1595 (a1.toNat)) - (H1528 r1588 (a1.toNat)) ∧ (H1528 r1595 (a1.toNat)) - (H1528 r1588 (a1.toNat)) ≤ 2147483647) → v1601 = (H1528 r1595 (a1.toNat)) - (H1528 r1588 (a1.toNat)) := fun h => by rw [e1602]; exact wq_w_id h
            have _z : XEX (decide (a2 ≠ 0)) (xwf e d) (fun n => e 13 (a1).toNat - 1 - ((xdue d (xlot d ((n : Nat) : Int)) (a1).toNat : Nat) : Int)) (xlots d).toNat v1601 := by
              first
              | (rw [decide_eq_true (by omega : a2 ≠ 0), show v1601 = (e 13 (a1).toNat - 1) - xtr false (xwf e d) (fun n => ((xdue d (xlot d n) (a1).toNat : Nat) : Int)) (xlots d).toNat by omega]; exact XEX_sub (xtr_ex (m := false) _ (by omega)))
              | (rw [decide_eq_false (by omega : ¬ a2 ≠ 0), show v1601 = (e 13 (a1).toNat - 1) - xtr true (xwf e d) (fun n => ((xdue d (xlot d n) (a1).toNat : Nat) : Int)) (xlots d).toNat by omega]; exact XEX_sub (xtr_ex (m := true) _ (by omega)))
            refine wp_of e146 c146_83 (xc_V (pc' := 86) (r := r0) (as := [vI v1601]) (st := []) (lm_0_99) rfl rfl (Nat.le_of_ble_eq_true rfl) w1532 g0 sh_1 (by decide) rfl (by decide) (u_51  w1532 g0 ⟨by omega, by omega⟩) (fun R1605 T1606 H1607 p1608 => ?_))
            obtain ⟨e1609, w1611, f1612, z1613, e1610, b1614, p1615⟩ := p1608
            subst e1609
            subst e1610
            obtain ⟨a1616, a1617⟩ := p1615
            have f1618 := f1547.tr f1612 rfl
            show wp _ _ 146 86 [(4, vI (H1528 r1588 (a1.toNat))), (3, vI z1534), (0, .ref r0), (1, vI a1), (2, vI a2)] [vI z1613] _ H1607 _
            have h1619 : CEN T H1607 ce e d := (CEN_fr w1532 gce f1612 rfl a1541)
            exact wp_ireturn e146 c146_86 rfl ⟨rfl, w1611, f1618, z1613, rfl, ⟨by omega, by omega⟩, (Or.inr ⟨by omega, _z, h1619⟩)⟩
        · exfalso
          omega
      · have f1620 := f0.tr f1533 rfl
        show wp _ _ 146 29 [(0, .ref r0), (1, vI a1), (2, vI a2)] [vI z1534] _ H1528 _
        refine wp_of e146 c146_29 (rw_istore_n (pc' := 30) (z := z1534) (L' := [(3, vI z1534), (0, .ref r0), (1, vI a1), (2, vI a2)]) rfl rfl rfl ?_)
        refine wp_of e146 c146_30 (rw_iload_n (pc' := 31) (z := z1534) rfl rfl ?_)
        refine wp_of e146 c146_31 (rw_if_eq (p1 := 43) (p2 := 34) (by decide) rfl ⟨by omega, by omega⟩ (fun c1621 => ?_) (fun c1621 => ?_))
        · exfalso
          omega
        · refine wp_of e146 c146_34 (rw_aload_n (pc' := 35) (v := .ref r0) rfl rfl rfl ?_)
          refine wp_of e146 c146_35 (rw_iload_n (pc' := 36) (z := z1534) rfl rfl ?_)
          refine wp_of e146 c146_36 (xp_I (pc' := 39) lf_0_102 w1532 g0 sh_1 (by decide) (by decide) ty_1_10 rfl rfl (by omega) (by omega) ⟨by omega, by omega⟩ rfl (fun H1622 e1623 w1624 => ?_))
          have f1625 := f1620.put' e1623 g0 rfl
          have k1626 : H1622 r0 10 = z1534 := wq_u_s e1623
          refine wp_of e146 c146_39 (rw_sipush (pc' := 42) (z := -1000) rfl (by decide) ?_)
          have h1627 : CEN T H1622 ce e d := (CEN_fr w1532 gce ((wfr.rf (l := [(1, 10)])).put' e1623 g0 rfl) rfl a1546)
          exact wp_ireturn e146 c146_42 rfl ⟨rfl, w1624, f1625, -1000, rfl, ⟨by omega, by omega⟩, (Or.inl ⟨by omega, by omega, h1627⟩)⟩
    · exfalso
      omega
/-! StrikeAwake.nothing()I  -/
abbrev uq_147 (r0 : Nat) (cu : Nat) (wa : Nat) (ce : Nat) (e : xD) (d : xD) (n : Int) (T : wq_T) (H : wq_H) : Option Value → wq_T → wq_H → Prop := fun r T' H' => T = T' ∧ WT T H' ∧ wfr [(1, 10), (6, 5), (8, 999), (10, 999), (9, 999), (7, 999), (11, 999)] T H H' ∧ ∃ z : Int, some (vI z) = r ∧ ((-2147483648) ≤ z ∧ z ≤ 2147483647) ∧ ((CEN T H' ce e d))
set_option maxHeartbeats 4000000 in
theorem u_147 {kt : Nat → Option mc_E} {T : wq_T} {H : wq_H} {r0 : Nat} {cu : Nat} {wa : Nat} {ce : Nat} {e : xD} {d : xD} {n : Int} (hW : WT T H) (g0 : T.2.2.2 r0 = some 1) (qcu : H r0 6 = (cu : Int)) (gcu : T.2.2.2 cu = some 27) (qwa : H r0 2 = (wa : Int)) (gwa : T.2.2.2 wa = some 6) (qce : H r0 3 = (ce : Int)) (gce : T.2.2.2 ce = some 12) (p0 : ∀ i, i ≠ 13 → e i = d i) (p1 : XW d) (p2 : e 0 3 = d 0 3) (p3 : e 0 0 = d 0 0) (p4 : H r0 8 = 0 ∨ n = xlots d) (p5 : H r0 8 ≠ 0 ∨ (d 0 3 = 0 ∧ d 0 0 = 0)) (hCU_cu : CU T H cu e d n) (hCEN_ce : CEN T H ce e d) (hHDR_ce : HDR T H ce ) : wpc kt 4 147 [.ref r0] T H (uq_147 r0 cu wa ce e d n T H) := by
  refine wp_enter e147 (Nat.le_of_ble_eq_true rfl) rfl ?_
  have f0 : wfr [(1, 10), (6, 5), (8, 999), (10, 999), (9, 999), (7, 999), (11, 999)] T H H := wfr.rf
  show wp _ _ 147 0 [(0, .ref r0)] [] _ H _
  have u1504 := CU_k hCU_cu
  have b1505 : 0 ≤ H r0 8 ∧ H r0 8 ≤ 1 := hW.box g0 (n := 13) rfl (by decide) rfl
  refine wp_of e147 c147_0 (rw_aload_n (pc' := 1) (v := .ref r0) rfl rfl rfl ?_)
  refine wp_of e147 c147_1 (rw_aload_n (pc' := 2) (v := .ref r0) rfl rfl rfl ?_)
  refine wp_of e147 c147_2 (xg_I (pc' := 5) lf_0_58 hW g0 sh_1 (by decide) (by decide) ty_1_8 rfl rfl (fun b1506 b1507 => ?_))
  refine wp_of e147 c147_5 (xc_V (pc' := 8) (r := r0) (as := [vI (H r0 8)]) (st := []) (lm_0_245) rfl rfl (Nat.le_of_ble_eq_true rfl) hW g0 sh_1 (by decide) rfl (by decide) (u_84 (e := e) (d := d) (n := n) hW g0 ⟨by omega, by omega⟩ qcu gcu hCU_cu) (fun R1508 T1509 H1510 p1511 => ?_))
  obtain ⟨e1512, e1514, z1515, e1513, b1516, p1517⟩ := p1511
  subst e1512
  subst e1513
  subst e1514
  rcases p1517 with ⟨a1518, a1519, a1520⟩ | ⟨a1521, a1522⟩
  · show wp _ _ 147 8 [(0, .ref r0)] [vI z1515] _ H _
    refine wp_of e147 c147_8 (rw_istore_n (pc' := 9) (z := z1515) (L' := [(1, vI z1515), (0, .ref r0)]) rfl rfl rfl ?_)
    refine wp_of e147 c147_9 (rw_iload_n (pc' := 10) (z := z1515) rfl rfl ?_)
    refine wp_of e147 c147_10 (rw_if_eq (p1 := 19) (p2 := 13) (by decide) rfl ⟨by omega, by omega⟩ (fun c1523 => ?_) (fun c1523 => ?_))
    · refine wp_of e147 c147_19 (rw_iconst (pc' := 20) rfl ?_)
      refine wp_of e147 c147_20 (rw_istore_n (pc' := 21) (z := 0) (L' := [(2, vI 0), (1, vI z1515), (0, .ref r0)]) rfl rfl rfl ?_)
      refine wp_of e147 c147_21 (rw_aload_n (pc' := 22) (v := .ref r0) rfl rfl rfl ?_)
      refine wp_of e147 c147_22 (xg_K (pc' := 25) lf_0_23 hW g0 sh_1 (by decide) (by decide) rfl qwa rfl ?_)
      refine wp_of e147 c147_25 (rw_aload_n (pc' := 26) (v := .ref r0) rfl rfl rfl ?_)
      refine wp_of e147 c147_26 (xg_K (pc' := 29) lf_0_51 hW g0 sh_1 (by decide) (by decide) rfl qcu rfl ?_)
      refine wp_of e147 c147_29 (xc_V (pc' := 32) (r := wa) (as := [.ref cu]) (st := []) (lm_0_271) rfl rfl (Nat.le_of_ble_eq_true rfl) hW gwa sh_6 (by decide) rfl (by decide) (s_87 hW gwa gcu) (fun R1524 T1525 H1526 p1527 => ?_))
      obtain ⟨e1528, w1530, f1531, e1529⟩ := p1527
      subst e1528
      subst e1529
      have f1532 := f0.tr f1531 rfl
      show wp _ _ 147 32 [(2, vI 0), (1, vI z1515), (0, .ref r0)] [] _ H1526 _
      refine wp_of e147 c147_32 (rw_iconst (pc' := 33) rfl ?_)
      refine wp_of e147 c147_33 (rw_istore_n (pc' := 34) (z := 0) (L' := [(3, vI 0), (2, vI 0), (1, vI z1515), (0, .ref r0)]) rfl rfl rfl ?_)
      have lp1925 : ∀ (n1926 : Nat) (v1928 : Int) (v1929 : Int) (H1930 : wq_H), WT T H1930 → wfr [(8, 999), (10, 999), (9, 999), (7, 999), (11, 999)] T H1526 H1930 → (0 ≤ v1928 ∧ v1928 ≤ 20000) → ((-2147483648) ≤ v1929 ∧ v1929 ≤ 2147483647) → (20000 - v1928).toNat = n1926 → wp kt 3 147 34 [(3, vI v1928), (2, vI v1929), (0, .ref r0)] [] T H1930 (uq_147 r0 cu wa ce e d n T H) := by
        intro n1926
        induction n1926 using Nat.strongRecOn with
        | _ n1926 ih1927 =>
          intro v1928 v1929 H1930 w1931 f1932 b1933 b1934 m1935
          have f1936 := f1532.tr f1932 rfl
          refine wp_of e147 c147_34 (rw_iload_n (pc' := 35) (z := v1928) rfl rfl ?_)
          refine wp_of e147 c147_35 (rw_i2l (pc' := 36) rfl ⟨by omega, by omega⟩ ?_)
          refine wp_of e147 c147_36 (rw_aload_n (pc' := 37) (v := .ref r0) rfl rfl rfl ?_)
          have k1937 : H1930 r0 6 = H r0 6 := ((f1932 r0 6 _ g0 rfl).trans (f1531 r0 6 _ g0 rfl))
          have q1938 : H1930 r0 6 = (cu : Int) := k1937.trans qcu
          refine wp_of e147 c147_37 (xg_K (pc' := 40) lf_0_51 w1931 g0 sh_1 (by decide) (by decide) rfl q1938 rfl ?_)
          have k1939 : H1930 cu 18 = H cu 18 := ((f1932 cu 18 _ gcu rfl).trans (f1531 cu 18 _ gcu rfl))
          refine wp_of e147 c147_40 (xg_L (pc' := 43) lf_0_141 w1931 gcu sh_27 (by decide) (by decide) ty_27_18 rfl rfl (fun b1940 b1941 => ?_))
          refine wp_of e147 c147_43 (rw_lcmp (pc' := 44) rfl ⟨by omega, by omega⟩ ⟨by omega, by omega⟩ ?_)
          have b1942 := wq_cmp_b v1928 (H1930 cu 18)
          refine wp_of e147 c147_44 (rw_if_ge (p1 := 95) (p2 := 47) (by decide) rfl ⟨by omega, by omega⟩ (fun c1943 => ?_) (fun c1943 => ?_))
          · refine wp_of e147 c147_95 (rw_aload_n (pc' := 96) (v := .ref r0) rfl rfl rfl ?_)
            refine wp_of e147 c147_96 (rw_iload_n (pc' := 97) (z := v1929) rfl rfl ?_)
            refine wp_of e147 c147_97 (xc_V (pc' := 100) (r := r0) (as := [vI v1929]) (st := []) (lm_0_99) rfl rfl (Nat.le_of_ble_eq_true rfl) w1931 g0 sh_1 (by decide) rfl (by decide) (s_51 w1931 g0 ⟨by omega, by omega⟩) (fun R1944 T1945 H1946 p1947 => ?_))
            obtain ⟨e1948, w1950, f1951, z1952, e1949, b1953⟩ := p1947
            subst e1948
            subst e1949
            have f1954 := f1936.tr f1951 rfl
            show wp _ _ 147 100 [(3, vI v1928), (2, vI v1929), (0, .ref r0)] [vI z1952] _ H1946 _
            have h1955 : CEN T H1946 ce e d := (CEN_fr w1931 gce f1951 rfl (CEN_fr w1530 gce f1932 rfl (CEN_fr hW gce f1531 rfl hCEN_ce)))
            exact wp_ireturn e147 c147_100 rfl ⟨rfl, w1950, f1954, z1952, rfl, ⟨by omega, by omega⟩, (h1955)⟩
          · refine wp_of e147 c147_47 (rw_iload_n (pc' := 48) (z := v1928) rfl rfl ?_)
            refine wp_of e147 c147_48 (rw_sipush (pc' := 51) (z := 20000) rfl (by decide) ?_)
            refine wp_of e147 c147_51 (rw_icmp_ge (p1 := 95) (p2 := 54) (by decide) rfl ⟨by omega, by omega⟩ ⟨by omega, by omega⟩ (fun c1956 => ?_) (fun c1956 => ?_))
            · refine wp_of e147 c147_95 (rw_aload_n (pc' := 96) (v := .ref r0) rfl rfl rfl ?_)
              refine wp_of e147 c147_96 (rw_iload_n (pc' := 97) (z := v1929) rfl rfl ?_)
              refine wp_of e147 c147_97 (xc_V (pc' := 100) (r := r0) (as := [vI v1929]) (st := []) (lm_0_99) rfl rfl (Nat.le_of_ble_eq_true rfl) w1931 g0 sh_1 (by decide) rfl (by decide) (s_51 w1931 g0 ⟨by omega, by omega⟩) (fun R1957 T1958 H1959 p1960 => ?_))
              obtain ⟨e1961, w1963, f1964, z1965, e1962, b1966⟩ := p1960
              subst e1961
              subst e1962
              have f1967 := f1936.tr f1964 rfl
              show wp _ _ 147 100 [(3, vI v1928), (2, vI v1929), (0, .ref r0)] [vI z1965] _ H1959 _
              have h1968 : CEN T H1959 ce e d := (CEN_fr w1931 gce f1964 rfl (CEN_fr w1530 gce f1932 rfl (CEN_fr hW gce f1531 rfl hCEN_ce)))
              exact wp_ireturn e147 c147_100 rfl ⟨rfl, w1963, f1967, z1965, rfl, ⟨by omega, by omega⟩, (h1968)⟩
            · refine wp_of e147 c147_54 (rw_aload_n (pc' := 55) (v := .ref r0) rfl rfl rfl ?_)
              have k1969 : H1930 r0 2 = H r0 2 := ((f1932 r0 2 _ g0 rfl).trans (f1531 r0 2 _ g0 rfl))
              have q1970 : H1930 r0 2 = (wa : Int) := k1969.trans qwa
              refine wp_of e147 c147_55 (xg_K (pc' := 58) lf_0_23 w1931 g0 sh_1 (by decide) (by decide) rfl q1970 rfl ?_)
              refine wp_of e147 c147_58 (xc_V (pc' := 61) (r := wa) (as := []) (st := []) (lm_0_275) rfl rfl (Nat.le_of_ble_eq_true rfl) w1931 gwa sh_6 (by decide) rfl (by decide) (s_80 w1931 gwa) (fun R1971 T1972 H1973 p1974 => ?_))
              obtain ⟨e1975, e1977, z1978, e1976, b1979⟩ := p1974
              subst e1975
              subst e1976
              subst e1977
              show wp _ _ 147 61 [(3, vI v1928), (2, vI v1929), (0, .ref r0)] [vI z1978] _ H1930 _
              refine wp_of e147 c147_61 (rw_if_ne (p1 := 78) (p2 := 64) (by decide) rfl ⟨by omega, by omega⟩ (fun c1980 => ?_) (fun c1980 => ?_))
              · refine wp_of e147 c147_78 (rw_aload_n (pc' := 79) (v := .ref r0) rfl rfl rfl ?_)
                refine wp_of e147 c147_79 (xg_K (pc' := 82) lf_0_23 w1931 g0 sh_1 (by decide) (by decide) rfl q1970 rfl ?_)
                refine wp_of e147 c147_82 (rw_aload_n (pc' := 83) (v := .ref r0) rfl rfl rfl ?_)
                refine wp_of e147 c147_83 (xg_K (pc' := 86) lf_0_51 w1931 g0 sh_1 (by decide) (by decide) rfl q1938 rfl ?_)
                refine wp_of e147 c147_86 (xc_V (pc' := 89) (r := wa) (as := [.ref cu]) (st := []) (lm_0_281) rfl rfl (Nat.le_of_ble_eq_true rfl) w1931 gwa sh_6 (by decide) rfl (by decide) (s_91 w1931 gwa gcu) (fun R1981 T1982 H1983 p1984 => ?_))
                obtain ⟨e1985, w1987, f1988, e1986⟩ := p1984
                subst e1985
                subst e1986
                have f1989 := f1936.tr f1988 rfl
                have f1990 := f1932.tr f1988 rfl
                show wp _ _ 147 89 [(3, vI v1928), (2, vI v1929), (0, .ref r0)] [] _ H1983 _
                refine wp_of e147 c147_89 (rw_iinc (pc' := 92) (z := v1928) (L' := [(3, vI (v1928 + 1)), (2, vI v1929), (0, .ref r0)]) rfl rfl rfl rfl ?_)
                refine wp_of e147 c147_92 (rw_goto (p1 := 34) (by decide) ?_)
                exact wp_lc (ks := [3, 2, 0]) (wl_c rfl (wl_c rfl (wl_c rfl wl_n))) rfl (by decide) (ih1927 _ (by omega) (v1928 + 1) v1929 H1983 w1987 f1990 ⟨by omega, by omega⟩ ⟨by omega, by omega⟩ rfl)
              · refine wp_of e147 c147_64 (rw_iload_n (pc' := 65) (z := v1929) rfl rfl ?_)
                refine wp_of e147 c147_65 (rw_aload_n (pc' := 66) (v := .ref r0) rfl rfl rfl ?_)
                refine wp_of e147 c147_66 (xg_K (pc' := 69) lf_0_23 w1931 g0 sh_1 (by decide) (by decide) rfl q1970 rfl ?_)
                refine wp_of e147 c147_69 (rw_aload_n (pc' := 70) (v := .ref r0) rfl rfl rfl ?_)
                refine wp_of e147 c147_70 (xg_K (pc' := 73) lf_0_51 w1931 g0 sh_1 (by decide) (by decide) rfl q1938 rfl ?_)
                refine wp_of e147 c147_73 (xc_V (pc' := 76) (r := wa) (as := [.ref cu]) (st := [vI v1929]) (lm_0_278) rfl rfl (Nat.le_of_ble_eq_true rfl) w1931 gwa sh_6 (by decide) rfl (by decide) (s_148 w1931 gwa gcu) (fun R1991 T1992 H1993 p1994 => ?_))
                obtain ⟨e1995, e1997, z1998, e1996, b1999⟩ := p1994
                subst e1995
                subst e1996
                subst e1997
                show wp _ _ 147 76 [(3, vI v1928), (2, vI v1929), (0, .ref r0)] [vI z1998, vI v1929] _ H1930 _
                refine wp_of e147 c147_76 (rw_ior (pc' := 77) rfl ?_)
                obtain ⟨v2000, e2001⟩ : ∃ x : Int, x = wq_or v1929 z1998 := ⟨_, rfl⟩
                rw [← e2001]
                have b2002 : -2147483648 ≤ v2000 ∧ v2000 ≤ 2147483647 := by
                  rw [e2001]
                  exact wI_or _ _
                refine wp_of e147 c147_77 (rw_istore_n (pc' := 78) (z := v2000) (L' := [(2, vI v2000), (3, vI v1928), (0, .ref r0)]) rfl rfl rfl ?_)
                refine wp_of e147 c147_78 (rw_aload_n (pc' := 79) (v := .ref r0) rfl rfl rfl ?_)
                refine wp_of e147 c147_79 (xg_K (pc' := 82) lf_0_23 w1931 g0 sh_1 (by decide) (by decide) rfl q1970 rfl ?_)
                refine wp_of e147 c147_82 (rw_aload_n (pc' := 83) (v := .ref r0) rfl rfl rfl ?_)
                refine wp_of e147 c147_83 (xg_K (pc' := 86) lf_0_51 w1931 g0 sh_1 (by decide) (by decide) rfl q1938 rfl ?_)
                refine wp_of e147 c147_86 (xc_V (pc' := 89) (r := wa) (as := [.ref cu]) (st := []) (lm_0_281) rfl rfl (Nat.le_of_ble_eq_true rfl) w1931 gwa sh_6 (by decide) rfl (by decide) (s_91 w1931 gwa gcu) (fun R2003 T2004 H2005 p2006 => ?_))
                obtain ⟨e2007, w2009, f2010, e2008⟩ := p2006
                subst e2007
                subst e2008
                have f2011 := f1936.tr f2010 rfl
                have f2012 := f1932.tr f2010 rfl
                show wp _ _ 147 89 [(2, vI v2000), (3, vI v1928), (0, .ref r0)] [] _ H2005 _
                refine wp_of e147 c147_89 (rw_iinc (pc' := 92) (z := v1928) (L' := [(3, vI (v1928 + 1)), (2, vI v2000), (0, .ref r0)]) rfl rfl rfl rfl ?_)
                refine wp_of e147 c147_92 (rw_goto (p1 := 34) (by decide) ?_)
                exact wp_lc (ks := [3, 2, 0]) (wl_c rfl (wl_c rfl (wl_c rfl wl_n))) rfl (by decide) (ih1927 _ (by omega) (v1928 + 1) v2000 H2005 w2009 f2012 ⟨by omega, by omega⟩ ⟨by omega, by omega⟩ rfl)
      exact wp_lc (ks := [3, 2, 1, 0]) (wl_c rfl (wl_c rfl (wl_c rfl wl_n))) rfl (by decide) (lp1925 _ 0 0 H1526 w1530 wfr.rf ⟨by omega, by omega⟩ ⟨by omega, by omega⟩ rfl)
    · exfalso
      omega
  · show wp _ _ 147 8 [(0, .ref r0)] [vI z1515] _ H _
    refine wp_of e147 c147_8 (rw_istore_n (pc' := 9) (z := z1515) (L' := [(1, vI z1515), (0, .ref r0)]) rfl rfl rfl ?_)
    refine wp_of e147 c147_9 (rw_iload_n (pc' := 10) (z := z1515) rfl rfl ?_)
    refine wp_of e147 c147_10 (rw_if_eq (p1 := 19) (p2 := 13) (by decide) rfl ⟨by omega, by omega⟩ (fun c2013 => ?_) (fun c2013 => ?_))
    · exfalso
      omega
    · refine wp_of e147 c147_13 (rw_aload_n (pc' := 14) (v := .ref r0) rfl rfl rfl ?_)
      refine wp_of e147 c147_14 (rw_iload_n (pc' := 15) (z := z1515) rfl rfl ?_)
      refine wp_of e147 c147_15 (xc_V (pc' := 18) (r := r0) (as := [vI z1515]) (st := []) (lm_0_70) rfl rfl (Nat.le_of_ble_eq_true rfl) hW g0 sh_1 (by decide) rfl (by decide) (s_12 hW g0 ⟨by omega, by omega⟩) (fun R2014 T2015 H2016 p2017 => ?_))
      obtain ⟨e2018, w2020, f2021, z2022, e2019, b2023⟩ := p2017
      subst e2018
      subst e2019
      have f2024 := f0.tr f2021 rfl
      show wp _ _ 147 18 [(1, vI z1515), (0, .ref r0)] [vI z2022] _ H2016 _
      have h2025 : CEN T H2016 ce e d := (CEN_fr hW gce f2021 rfl hCEN_ce)
      exact wp_ireturn e147 c147_18 rfl ⟨rfl, w2020, f2024, z2022, rfl, ⟨by omega, by omega⟩, (h2025)⟩
/-! StrikeAwake.seek()I  -/
abbrev uq_156 (r0 : Nat) (cu : Nat) (wa : Nat) (ce : Nat) (e : xD) (d : xD) (n : Int) (T : wq_T) (H : wq_H) : Option Value → wq_T → wq_H → Prop := fun r T' H' => T = T' ∧ WT T H' ∧ wfr [(12, 5), (12, 6), (12, 7), (12, 8), (12, 9), (27, 17), (1, 10), (6, 5), (8, 999), (10, 999), (15, 999), (9, 999), (18, 999), (19, 999), (7, 999), (11, 999), (17, 999), (13, 999)] T H H' ∧ ∃ z : Int, some (vI z) = r ∧ ((-2147483648) ≤ z ∧ z ≤ 2147483647) ∧ ((CEN T H' ce e d))
set_option maxHeartbeats 4000000 in
theorem u_156 {kt : Nat → Option mc_E} {T : wq_T} {H : wq_H} {r0 : Nat} {cu : Nat} {wa : Nat} {ce : Nat} {e : xD} {d : xD} {n : Int} (hW : WT T H) (g0 : T.2.2.2 r0 = some 1) (qcu : H r0 6 = (cu : Int)) (gcu : T.2.2.2 cu = some 27) (qwa : H r0 2 = (wa : Int)) (gwa : T.2.2.2 wa = some 6) (qce : H r0 3 = (ce : Int)) (gce : T.2.2.2 ce = some 12) (p0 : ∀ i, i ≠ 13 → e i = d i) (p1 : XW d) (p2 : e 0 3 = d 0 3) (p3 : e 0 0 = d 0 0) (p4 : H r0 8 = 0 ∨ n = xlots d) (p5 : H r0 8 ≠ 0 ∨ (d 0 3 = 0 ∧ d 0 0 = 0)) (hCU_cu : CU T H cu e d n) (hCEN_ce : CEN T H ce e d) (hHDR_ce : HDR T H ce ) : wpc kt 6 156 [.ref r0] T H (uq_156 r0 cu wa ce e d n T H) := by
  refine wp_enter e156 (Nat.le_of_ble_eq_true rfl) rfl ?_
  have f0 : wfr [(12, 5), (12, 6), (12, 7), (12, 8), (12, 9), (27, 17), (1, 10), (6, 5), (8, 999), (10, 999), (15, 999), (9, 999), (18, 999), (19, 999), (7, 999), (11, 999), (17, 999), (13, 999)] T H H := wfr.rf
  show wp _ _ 156 0 [(0, .ref r0)] [] _ H _
  have u1081 := CU_k hCU_cu
  have b1082 : 0 ≤ H r0 8 ∧ H r0 8 ≤ 1 := hW.box g0 (n := 13) rfl (by decide) rfl
  refine wp_of e156 c156_0 (rw_aload_n (pc' := 1) (v := .ref r0) rfl rfl rfl ?_)
  refine wp_of e156 c156_1 (rw_aload_n (pc' := 2) (v := .ref r0) rfl rfl rfl ?_)
  refine wp_of e156 c156_2 (xg_I (pc' := 5) lf_0_58 hW g0 sh_1 (by decide) (by decide) ty_1_8 rfl rfl (fun b1083 b1084 => ?_))
  refine wp_of e156 c156_5 (xc_V (pc' := 8) (r := r0) (as := [vI (H r0 8)]) (st := []) (lm_0_174) rfl rfl (Nat.le_of_ble_eq_true rfl) hW g0 sh_1 (by decide) rfl (by decide) (u_83 (e := e) (d := d) (n := n) hW g0 ⟨by omega, by omega⟩ qcu gcu qwa gwa qce gce (by assumption) (by assumption) (by omega) (by omega) (by omega) hCU_cu hCEN_ce hHDR_ce) (fun R1085 T1086 H1087 p1088 => ?_))
  obtain ⟨e1089, w1091, f1092, z1093, e1090, b1094, p1095⟩ := p1088
  subst e1089
  subst e1090
  rcases p1095 with ⟨a1096, a1097, a1098, a1099, a1100, a1101⟩ | ⟨a1102, a1103, a1104⟩
  · have f1105 := f0.tr f1092 rfl
    show wp _ _ 156 8 [(0, .ref r0)] [vI z1093] _ H1087 _
    refine wp_of e156 c156_8 (rw_istore_n (pc' := 9) (z := z1093) (L' := [(1, vI z1093), (0, .ref r0)]) rfl rfl rfl ?_)
    refine wp_of e156 c156_9 (rw_iload_n (pc' := 10) (z := z1093) rfl rfl ?_)
    refine wp_of e156 c156_10 (rw_if_eq (p1 := 19) (p2 := 13) (by decide) rfl ⟨by omega, by omega⟩ (fun c1106 => ?_) (fun c1106 => ?_))
    · refine wp_of e156 c156_19 (rw_aload_n (pc' := 20) (v := .ref r0) rfl rfl rfl ?_)
      have k1107 : H1087 r0 3 = H r0 3 := (f1092 r0 3 _ g0 rfl)
      have q1108 : H1087 r0 3 = (ce : Int) := k1107.trans qce
      refine wp_of e156 c156_20 (xg_K (pc' := 23) lf_0_30 w1091 g0 sh_1 (by decide) (by decide) rfl q1108 rfl ?_)
      refine wp_of e156 c156_23 (rw_aload_n (pc' := 24) (v := .ref r0) rfl rfl rfl ?_)
      have k1109 : H1087 r0 6 = H r0 6 := (f1092 r0 6 _ g0 rfl)
      have q1110 : H1087 r0 6 = (cu : Int) := k1109.trans qcu
      refine wp_of e156 c156_24 (xg_K (pc' := 27) lf_0_51 w1091 g0 sh_1 (by decide) (by decide) rfl q1110 rfl ?_)
      refine wp_of e156 c156_27 (xg_I (pc' := 30) lf_0_298 w1091 gcu sh_27 (by decide) (by decide) ty_27_17 rfl rfl (fun b1111 b1112 => ?_))
      refine wp_of e156 c156_30 (rw_aload_n (pc' := 31) (v := .ref r0) rfl rfl rfl ?_)
      refine wp_of e156 c156_31 (xg_K (pc' := 34) lf_0_51 w1091 g0 sh_1 (by decide) (by decide) rfl q1110 rfl ?_)
      refine wp_of e156 c156_34 (xc_V (pc' := 37) (r := ce) (as := [vI (H1087 cu 17), .ref cu]) (st := []) (lm_0_301) rfl rfl (Nat.le_of_ble_eq_true rfl) w1091 gce sh_12 (by decide) rfl (by decide) (s_124 w1091 gce ⟨by omega, by omega⟩ gcu) (fun R1113 T1114 H1115 p1116 => ?_))
      obtain ⟨e1117, e1119, z1120, e1118, b1121⟩ := p1116
      subst e1117
      subst e1118
      subst e1119
      show wp _ _ 156 37 [(1, vI z1093), (0, .ref r0)] [vI z1120] _ H1087 _
      refine wp_of e156 c156_37 (rw_istore_n (pc' := 38) (z := z1120) (L' := [(2, vI z1120), (1, vI z1093), (0, .ref r0)]) rfl rfl rfl ?_)
      refine wp_of e156 c156_38 (rw_iload_n (pc' := 39) (z := z1120) rfl rfl ?_)
      refine wp_of e156 c156_39 (rw_if_ge (p1 := 49) (p2 := 42) (by decide) rfl ⟨by omega, by omega⟩ (fun c1122 => ?_) (fun c1122 => ?_))
      · refine wp_of e156 c156_49 (rw_aload_n (pc' := 50) (v := .ref r0) rfl rfl rfl ?_)
        refine wp_of e156 c156_50 (xg_K (pc' := 53) lf_0_51 w1091 g0 sh_1 (by decide) (by decide) rfl q1110 rfl ?_)
        refine wp_of e156 c156_53 (rw_iload_n (pc' := 54) (z := z1120) rfl rfl ?_)
        refine wp_of e156 c156_54 (rw_iconst (pc' := 55) rfl ?_)
        refine wp_of e156 c156_55 (rw_iadd (pc' := 56) rfl ?_)
        refine wp_of e156 c156_56 (xp_I (pc' := 59) lf_0_298 w1091 gcu sh_27 (by decide) (by decide) ty_27_17 rfl rfl (by omega) (by omega) ⟨by omega, by omega⟩ rfl (fun H1123 e1124 w1125 => ?_))
        have f1126 := f1105.put' e1124 gcu rfl
        have k1127 : H1123 cu 17 = z1120 + 1 := wq_u_s e1124
        refine wp_of e156 c156_59 (rw_aload_n (pc' := 60) (v := .ref r0) rfl rfl rfl ?_)
        refine wp_of e156 c156_60 (rw_iload_n (pc' := 61) (z := z1120) rfl rfl ?_)
        refine wp_of e156 c156_61 (xc_V (pc' := 64) (r := r0) (as := [vI z1120]) (st := []) (lm_0_99) rfl rfl (Nat.le_of_ble_eq_true rfl) w1125 g0 sh_1 (by decide) rfl (by decide) (s_51 w1125 g0 ⟨by omega, by omega⟩) (fun R1128 T1129 H1130 p1131 => ?_))
        obtain ⟨e1132, w1134, f1135, z1136, e1133, b1137⟩ := p1131
        subst e1132
        subst e1133
        have f1138 := f1126.tr f1135 rfl
        show wp _ _ 156 64 [(2, vI z1120), (1, vI z1093), (0, .ref r0)] [vI z1136] _ H1130 _
        have h1139 : CEN T H1130 ce e d := (CEN_fr w1125 gce f1135 rfl (CEN_fr w1091 gce ((wfr.rf (l := [(27, 17)])).put' e1124 gcu rfl) rfl a1099))
        exact wp_ireturn e156 c156_64 rfl ⟨rfl, w1134, f1138, z1136, rfl, ⟨by omega, by omega⟩, (h1139)⟩
      · refine wp_of e156 c156_42 (rw_aload_n (pc' := 43) (v := .ref r0) rfl rfl rfl ?_)
        refine wp_of e156 c156_43 (rw_bipush (pc' := 45) (z := 6) rfl (by decide) ?_)
        refine wp_of e156 c156_45 (xc_V (pc' := 48) (r := r0) (as := [vI 6]) (st := []) (lm_0_70) rfl rfl (Nat.le_of_ble_eq_true rfl) w1091 g0 sh_1 (by decide) rfl (by decide) (s_12 w1091 g0 ⟨by omega, by omega⟩) (fun R1140 T1141 H1142 p1143 => ?_))
        obtain ⟨e1144, w1146, f1147, z1148, e1145, b1149⟩ := p1143
        subst e1144
        subst e1145
        have f1150 := f1105.tr f1147 rfl
        show wp _ _ 156 48 [(2, vI z1120), (1, vI z1093), (0, .ref r0)] [vI z1148] _ H1142 _
        have h1151 : CEN T H1142 ce e d := (CEN_fr w1091 gce f1147 rfl a1099)
        exact wp_ireturn e156 c156_48 rfl ⟨rfl, w1146, f1150, z1148, rfl, ⟨by omega, by omega⟩, (h1151)⟩
    · exfalso
      omega
  · have f1152 := f0.tr f1092 rfl
    show wp _ _ 156 8 [(0, .ref r0)] [vI z1093] _ H1087 _
    refine wp_of e156 c156_8 (rw_istore_n (pc' := 9) (z := z1093) (L' := [(1, vI z1093), (0, .ref r0)]) rfl rfl rfl ?_)
    refine wp_of e156 c156_9 (rw_iload_n (pc' := 10) (z := z1093) rfl rfl ?_)
    refine wp_of e156 c156_10 (rw_if_eq (p1 := 19) (p2 := 13) (by decide) rfl ⟨by omega, by omega⟩ (fun c1153 => ?_) (fun c1153 => ?_))
    · exfalso
      omega
    · refine wp_of e156 c156_13 (rw_aload_n (pc' := 14) (v := .ref r0) rfl rfl rfl ?_)
      refine wp_of e156 c156_14 (rw_iload_n (pc' := 15) (z := z1093) rfl rfl ?_)
      refine wp_of e156 c156_15 (xc_V (pc' := 18) (r := r0) (as := [vI z1093]) (st := []) (lm_0_70) rfl rfl (Nat.le_of_ble_eq_true rfl) w1091 g0 sh_1 (by decide) rfl (by decide) (s_12 w1091 g0 ⟨by omega, by omega⟩) (fun R1154 T1155 H1156 p1157 => ?_))
      obtain ⟨e1158, w1160, f1161, z1162, e1159, b1163⟩ := p1157
      subst e1158
      subst e1159
      have f1164 := f1152.tr f1161 rfl
      show wp _ _ 156 18 [(1, vI z1093), (0, .ref r0)] [vI z1162] _ H1156 _
      have h1165 : CEN T H1156 ce e d := (CEN_fr w1091 gce f1161 rfl a1104)
      exact wp_ireturn e156 c156_18 rfl ⟨rfl, w1160, f1164, z1162, rfl, ⟨by omega, by omega⟩, (h1165)⟩
