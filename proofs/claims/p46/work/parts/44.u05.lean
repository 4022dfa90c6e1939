/-! what methods do (own work, written by wip/gen3/sx3.py) -/
/-! StrikeAwake.parish(I)I  -/
abbrev uq_11 (r0 : Nat) (a1 : Int) (tp : Nat) (rd : Nat) (cu : Nat) (dr : Nat) (B : Nat → Int) (y : Int) (T : wq_T) (H : wq_H) : Option Value → wq_T → wq_H → Prop := fun r T' H' => T = T' ∧ WT T H' ∧ wfr [(12, 9), (27, 7), (27, 8), (27, 9), (27, 10), (27, 11), (27, 12), (27, 13), (27, 14), (27, 15), (27, 16), (27, 17), (27, 18), (35, 6), (35, 7), (35, 8), (35, 9), (35, 10), (35, 11), (35, 12), (35, 13), (35, 14), (35, 15), (35, 16), (35, 17), (3, 1), (3, 2), (3, 3), (3, 4), (1, 6), (1, 7), (1, 8), (1, 9), (1, 10), (1, 11), (1, 12), (4, 0), (4, 1), (4, 2), (4, 3), (4, 4), (4, 5), (4, 6), (38, 999), (39, 999), (36, 999), (31, 999), (40, 999), (41, 999), (34, 999), (37, 999), (29, 999), (30, 999), (33, 999), (32, 999)] T H H' ∧ ∃ z : Int, some (vI z) = r ∧ ((-2147483648) ≤ z ∧ z ≤ 2147483647) ∧ (((z = -1) ∧ (a1 < 0 ∨ H r0 9 < a1) ∧ (H' r0 9 = H r0 9) ∧ (H' r0 10 = 2) ∧ (H' r0 6 = (cu : Int)) ∧ (H' r0 7 = (dr : Int)) ∧ (H' r0 8 = H r0 8) ∧ (H' r0 11 = H r0 11)) ∨ ((z = -1) ∧ (0 ≤ a1 ∧ a1 ≤ H r0 9) ∧ (H' r0 9 = 0) ∧ ((xparse B y).1.1 ≠ 0) ∧ (H' r0 10 = 4) ∧ (H' r0 11 = (xparse B y).1.1) ∧ (H' r0 12 = (xparse B y).1.2.1) ∧ (H' r0 6 = (cu : Int)) ∧ (H' r0 7 = (dr : Int)) ∧ (H' r0 8 = H r0 8)) ∨ ((0 ≤ z ∧ z ≤ 6) ∧ (0 ≤ a1 ∧ a1 ≤ H r0 9) ∧ (H' r0 9 = 0) ∧ ((xparse B y).1.1 = 0) ∧ (z = (xparse B y).2 0 3) ∧ (H' r0 10 = 0) ∧ (H' r0 6 = (dr : Int)) ∧ (H' r0 7 = (cu : Int)) ∧ (H' r0 8 = 1) ∧ (H' r0 11 = 0)))
set_option maxHeartbeats 4000000 in
theorem u_11 {kt : Nat → Option mc_E} {T : wq_T} {H : wq_H} {r0 : Nat} {a1 : Int} {tp : Nat} {rd : Nat} {cu : Nat} {dr : Nat} {B : Nat → Int} {y : Int} (hW : WT T H) (g0 : T.2.2.2 r0 = some 1) (i1 : (-2147483648) ≤ a1 ∧ a1 ≤ 2147483647) (qtp : H r0 0 = (tp : Int)) (gtp : T.2.2.2 tp = some 2) (qrd : H r0 1 = (rd : Int)) (grd : T.2.2.2 rd = some 3) (qcu : H r0 6 = (cu : Int)) (gcu : T.2.2.2 cu = some 27) (qdr : H r0 7 = (dr : Int)) (gdr : T.2.2.2 dr = some 27) (p0 : a1 = y) (hTP_tp : TP T H tp B) (hDD_dr : DD T H dr ) : wpc kt 8 11 [.ref r0, vI a1] T H (uq_11 r0 a1 tp rd cu dr B y T H) := by
  refine wp_enter e11 (Nat.le_of_ble_eq_true rfl) rfl ?_
  have f0 : wfr [(12, 9), (27, 7), (27, 8), (27, 9), (27, 10), (27, 11), (27, 12), (27, 13), (27, 14), (27, 15), (27, 16), (27, 17), (27, 18), (35, 6), (35, 7), (35, 8), (35, 9), (35, 10), (35, 11), (35, 12), (35, 13), (35, 14), (35, 15), (35, 16), (35, 17), (3, 1), (3, 2), (3, 3), (3, 4), (1, 6), (1, 7), (1, 8), (1, 9), (1, 10), (1, 11), (1, 12), (4, 0), (4, 1), (4, 2), (4, 3), (4, 4), (4, 5), (4, 6), (38, 999), (39, 999), (36, 999), (31, 999), (40, 999), (41, 999), (34, 999), (37, 999), (29, 999), (30, 999), (33, 999), (32, 999)] T H H := wfr.rf
  show wp _ _ 11 0 [(0, .ref r0), (1, vI a1)] [] _ H _
  have b1182 : 0 ≤ H r0 9 ∧ H r0 9 ≤ 900 := hW.box g0 (n := 13) rfl (by decide) rfl
  have b1183 : 0 ≤ H r0 8 ∧ H r0 8 ≤ 1 := hW.box g0 (n := 13) rfl (by decide) rfl
  have b1184 : (-2147483648) ≤ H r0 11 ∧ H r0 11 ≤ 2147483647 := hW.box g0 (n := 13) rfl (by decide) rfl
  have _y1 : (xparse B a1).1.1 = (xparse B y).1.1 := by rw [p0]
  have _y2 : (xparse B a1).1.2.1 = (xparse B y).1.2.1 := by rw [p0]
  have _y3 : (xparse B a1).2 0 3 = (xparse B y).2 0 3 := by rw [p0]
  refine wp_of e11 c11_0 (rw_iload_n (pc' := 1) (z := a1) rfl rfl ?_)
  refine wp_of e11 c11_1 (rw_if_lt (p1 := 12) (p2 := 4) (by decide) rfl ⟨by omega, by omega⟩ (fun c1185 => ?_) (fun c1185 => ?_))
  · refine wp_of e11 c11_12 (rw_aload_n (pc' := 13) (v := .ref r0) rfl rfl rfl ?_)
    refine wp_of e11 c11_13 (rw_iconst (pc' := 14) rfl ?_)
    refine wp_of e11 c11_14 (xc_V (pc' := 17) (r := r0) (as := [vI 2]) (st := []) (lm_0_70) rfl rfl (Nat.le_of_ble_eq_true rfl) hW g0 sh_1 (by decide) rfl (by decide) (u_12  hW g0 ⟨by omega, by omega⟩) (fun R1186 T1187 H1188 p1189 => ?_))
    obtain ⟨e1190, w1192, f1193, z1194, e1191, b1195, p1196⟩ := p1189
    subst e1190
    subst e1191
    obtain ⟨a1197, a1198⟩ := p1196
    have f1199 := f0.tr f1193 rfl
    show wp _ _ 11 17 [(0, .ref r0), (1, vI a1)] [vI z1194] _ H1188 _
    have k1200 : H1188 r0 6 = H r0 6 := (f1193 r0 6 _ g0 rfl)
    have q1201 : H1188 r0 6 = (cu : Int) := k1200.trans qcu
    have k1202 : H1188 r0 7 = H r0 7 := (f1193 r0 7 _ g0 rfl)
    have q1203 : H1188 r0 7 = (dr : Int) := k1202.trans qdr
    have k1204 : H1188 r0 8 = H r0 8 := (f1193 r0 8 _ g0 rfl)
    have k1205 : H1188 r0 9 = H r0 9 := (f1193 r0 9 _ g0 rfl)
    have k1206 : H1188 r0 11 = H r0 11 := (f1193 r0 11 _ g0 rfl)
    exact wp_ireturn e11 c11_17 rfl ⟨rfl, w1192, f1199, z1194, rfl, ⟨by omega, by omega⟩, (Or.inl ⟨by omega, by omega, by omega, by omega, by omega, by omega, by omega, by omega⟩)⟩
  · refine wp_of e11 c11_4 (rw_iload_n (pc' := 5) (z := a1) rfl rfl ?_)
    refine wp_of e11 c11_5 (rw_aload_n (pc' := 6) (v := .ref r0) rfl rfl rfl ?_)
    refine wp_of e11 c11_6 (xg_I (pc' := 9) lf_0_62 hW g0 sh_1 (by decide) (by decide) ty_1_9 rfl rfl (fun b1207 b1208 => ?_))
    refine wp_of e11 c11_9 (rw_icmp_le (p1 := 18) (p2 := 12) (by decide) rfl ⟨by omega, by omega⟩ ⟨by omega, by omega⟩ (fun c1209 => ?_) (fun c1209 => ?_))
    · refine wp_of e11 c11_18 (rw_aload_n (pc' := 19) (v := .ref r0) rfl rfl rfl ?_)
      refine wp_of e11 c11_19 (rw_iconst (pc' := 20) rfl ?_)
      refine wp_of e11 c11_20 (xp_I (pc' := 23) lf_0_62 hW g0 sh_1 (by decide) (by decide) ty_1_9 rfl rfl (by omega) (by omega) ⟨by omega, by omega⟩ rfl (fun H1210 e1211 w1212 => ?_))
      have f1213 := f0.put' e1211 g0 rfl
      have k1214 : H1210 r0 9 = 0 := wq_u_s e1211
      refine wp_of e11 c11_23 (rw_aload_n (pc' := 24) (v := .ref r0) rfl rfl rfl ?_)
      have k1215 : H1210 r0 1 = H r0 1 := (wq_u_j e1211 rfl)
      have q1216 : H1210 r0 1 = (rd : Int) := k1215.trans qrd
      refine wp_of e11 c11_24 (xg_K (pc' := 27) lf_0_16 w1212 g0 sh_1 (by decide) (by decide) rfl q1216 rfl ?_)
      refine wp_of e11 c11_27 (rw_aload_n (pc' := 28) (v := .ref r0) rfl rfl rfl ?_)
      have k1217 : H1210 r0 0 = H r0 0 := (wq_u_j e1211 rfl)
      have q1218 : H1210 r0 0 = (tp : Int) := k1217.trans qtp
      refine wp_of e11 c11_28 (xg_K (pc' := 31) lf_0_9 w1212 g0 sh_1 (by decide) (by decide) rfl q1218 rfl ?_)
      refine wp_of e11 c11_31 (rw_iload_n (pc' := 32) (z := a1) rfl rfl ?_)
      refine wp_of e11 c11_32 (rw_aload_n (pc' := 33) (v := .ref r0) rfl rfl rfl ?_)
      have k1219 : H1210 r0 7 = H r0 7 := (wq_u_j e1211 rfl)
      have q1220 : H1210 r0 7 = (dr : Int) := k1219.trans qdr
      refine wp_of e11 c11_33 (xg_K (pc' := 36) lf_0_55 w1212 g0 sh_1 (by decide) (by decide) rfl q1220 rfl ?_)
      obtain ⟨r1221, q1222, g1223⟩ := w1212.ref grd (t' := 4) (n := 5) (j := 0) (p := 0) (q := 0) rfl (by decide) rfl
      have h1224 : TP T H1210 tp B := (TP_fr hW gtp ((wfr.rf (l := [(1, 9)])).put' e1211 g0 rfl) rfl hTP_tp)
      have h1225 : DD T H1210 dr  := (DD_fr hW gdr ((wfr.rf (l := [(1, 9)])).put' e1211 g0 rfl) rfl hDD_dr)
      refine wp_of e11 c11_36 (xc_V (pc' := 39) (r := rd) (as := [.ref tp, vI a1, .ref dr]) (st := []) (lm_0_74) rfl rfl (Nat.le_of_ble_eq_true rfl) w1212 grd sh_3 (by decide) rfl (by decide) (u_13 (B := B) w1212 grd gtp ⟨by omega, by omega⟩ gdr q1222 g1223 h1224 h1225) (fun R1226 T1227 H1228 p1229 => ?_))
      obtain ⟨e1230, w1232, f1233, z1234, e1231, b1235, p1236⟩ := p1229
      subst e1230
      subst e1231
      rcases p1236 with ⟨a1237, a1238, a1239, a1240⟩ | ⟨a1241, a1242, a1243, a1244⟩
      · have f1245 := f1213.tr f1233 rfl
        show wp _ _ 11 39 [(0, .ref r0), (1, vI a1)] [vI z1234] _ H1228 _
        have u1246 := DC_k a1240
        refine wp_of e11 c11_39 (rw_istore_n (pc' := 40) (z := z1234) (L' := [(2, vI z1234), (0, .ref r0), (1, vI a1)]) rfl rfl rfl ?_)
        refine wp_of e11 c11_40 (rw_aload_n (pc' := 41) (v := .ref r0) rfl rfl rfl ?_)
        refine wp_of e11 c11_41 (rw_aload_n (pc' := 42) (v := .ref r0) rfl rfl rfl ?_)
        have k1247 : H1228 r0 1 = H1210 r0 1 := (f1233 r0 1 _ g0 rfl)
        have q1248 : H1228 r0 1 = (rd : Int) := k1247.trans q1216
        refine wp_of e11 c11_42 (xg_K (pc' := 45) lf_0_16 w1232 g0 sh_1 (by decide) (by decide) rfl q1248 rfl ?_)
        refine wp_of e11 c11_45 (xg_I (pc' := 48) lf_0_78 w1232 grd sh_3 (by decide) (by decide) ty_3_3 rfl rfl (fun b1249 b1250 => ?_))
        refine wp_of e11 c11_48 (xp_I (pc' := 51) lf_0_81 w1232 g0 sh_1 (by decide) (by decide) ty_1_11 rfl rfl (by omega) (by omega) ⟨by omega, by omega⟩ rfl (fun H1251 e1252 w1253 => ?_))
        have f1254 := f1245.put' e1252 g0 rfl
        have k1255 : H1251 r0 11 = H1228 rd 3 := wq_u_s e1252
        refine wp_of e11 c11_51 (rw_aload_n (pc' := 52) (v := .ref r0) rfl rfl rfl ?_)
        refine wp_of e11 c11_52 (rw_aload_n (pc' := 53) (v := .ref r0) rfl rfl rfl ?_)
        have k1256 : H1251 r0 1 = H1228 r0 1 := (wq_u_j e1252 rfl)
        have q1257 : H1251 r0 1 = (rd : Int) := k1256.trans q1248
        refine wp_of e11 c11_53 (xg_K (pc' := 56) lf_0_16 w1253 g0 sh_1 (by decide) (by decide) rfl q1257 rfl ?_)
        refine wp_of e11 c11_56 (xg_I (pc' := 59) lf_0_84 w1253 grd sh_3 (by decide) (by decide) ty_3_4 rfl rfl (fun b1258 b1259 => ?_))
        refine wp_of e11 c11_59 (xp_I (pc' := 62) lf_0_87 w1253 g0 sh_1 (by decide) (by decide) ty_1_12 rfl rfl (by omega) (by omega) ⟨by omega, by omega⟩ rfl (fun H1260 e1261 w1262 => ?_))
        have f1263 := f1254.put' e1261 g0 rfl
        have k1264 : H1260 r0 12 = H1251 rd 4 := wq_u_s e1261
        refine wp_of e11 c11_62 (rw_iload_n (pc' := 63) (z := z1234) rfl rfl ?_)
        refine wp_of e11 c11_63 (rw_if_ne (p1 := 72) (p2 := 66) (by decide) rfl ⟨by omega, by omega⟩ (fun c1265 => ?_) (fun c1265 => ?_))
        · refine wp_of e11 c11_72 (rw_aload_n (pc' := 73) (v := .ref r0) rfl rfl rfl ?_)
          have k1266 : H1260 r0 7 = H1210 r0 7 := ((wq_u_j e1261 rfl).trans ((wq_u_j e1252 rfl).trans (f1233 r0 7 _ g0 rfl)))
          have q1267 : H1260 r0 7 = (dr : Int) := k1266.trans q1220
          refine wp_of e11 c11_73 (xg_K (pc' := 76) lf_0_55 w1262 g0 sh_1 (by decide) (by decide) rfl q1267 rfl ?_)
          refine wp_of e11 c11_76 (xc_V (pc' := 79) (r := dr) (as := []) (st := []) (lm_0_90) rfl rfl (Nat.le_of_ble_eq_true rfl) w1262 gdr sh_27 (by decide) rfl (by decide) (s_44 w1262 gdr) (fun R1268 T1269 H1270 p1271 => ?_))
          obtain ⟨e1272, w1274, f1275, e1273⟩ := p1271
          subst e1272
          subst e1273
          have f1276 := f1263.tr f1275 rfl
          show wp _ _ 11 79 [(2, vI z1234), (0, .ref r0), (1, vI a1)] [] _ H1270 _
          refine wp_of e11 c11_79 (rw_aload_n (pc' := 80) (v := .ref r0) rfl rfl rfl ?_)
          have k1277 : H1270 r0 6 = H r0 6 := ((f1275 r0 6 _ g0 rfl).trans ((wq_u_j e1261 rfl).trans ((wq_u_j e1252 rfl).trans ((f1233 r0 6 _ g0 rfl).trans (wq_u_j e1211 rfl)))))
          have q1278 : H1270 r0 6 = (cu : Int) := k1277.trans qcu
          refine wp_of e11 c11_80 (xg_K (pc' := 83) lf_0_51 w1274 g0 sh_1 (by decide) (by decide) rfl q1278 rfl ?_)
          refine wp_of e11 c11_83 (rw_astore_n (pc' := 84) (v := .ref cu) (L' := [(3, .ref cu), (2, vI z1234), (0, .ref r0), (1, vI a1)]) rfl rfl rfl rfl ?_)
          refine wp_of e11 c11_84 (rw_aload_n (pc' := 85) (v := .ref r0) rfl rfl rfl ?_)
          refine wp_of e11 c11_85 (rw_aload_n (pc' := 86) (v := .ref r0) rfl rfl rfl ?_)
          have k1279 : H1270 r0 7 = H1260 r0 7 := (f1275 r0 7 _ g0 rfl)
          have q1280 : H1270 r0 7 = (dr : Int) := k1279.trans q1267
          refine wp_of e11 c11_86 (xg_K (pc' := 89) lf_0_55 w1274 g0 sh_1 (by decide) (by decide) rfl q1280 rfl ?_)
          refine wp_of e11 c11_89 (xp_R (pc' := 92) lf_0_51 w1274 g0 sh_1 (by decide) (by decide) rfl rfl (wok_2 ty_1_6 gdr) rfl (fun H1281 e1282 w1283 => ?_))
          have f1284 := f1276.put' e1282 g0 rfl
          have q1285 : H1281 r0 6 = (dr : Int) := wq_u_s e1282
          refine wp_of e11 c11_92 (rw_aload_n (pc' := 93) (v := .ref r0) rfl rfl rfl ?_)
          refine wp_of e11 c11_93 (rw_aload_n (pc' := 94) (v := .ref cu) rfl rfl rfl ?_)
          refine wp_of e11 c11_94 (xp_R (pc' := 97) lf_0_55 w1283 g0 sh_1 (by decide) (by decide) rfl rfl (wok_2 ty_1_7 gcu) rfl (fun H1286 e1287 w1288 => ?_))
          have f1289 := f1284.put' e1287 g0 rfl
          have q1290 : H1286 r0 7 = (cu : Int) := wq_u_s e1287
          refine wp_of e11 c11_97 (rw_aload_n (pc' := 98) (v := .ref r0) rfl rfl rfl ?_)
          refine wp_of e11 c11_98 (rw_iconst (pc' := 99) rfl ?_)
          refine wp_of e11 c11_99 (xp_Z (pc' := 102) lf_0_58 w1288 g0 sh_1 (by decide) (by decide) ty_1_8 rfl rfl (by omega) (by omega) rfl (fun H1291 e1292 w1293 => ?_))
          have f1294 := f1289.put' e1292 g0 rfl
          have k1295 : H1291 r0 8 = 1 := wq_u_s e1292
          refine wp_of e11 c11_102 (rw_aload_n (pc' := 103) (v := .ref r0) rfl rfl rfl ?_)
          refine wp_of e11 c11_103 (xg_R (pc' := 106) lf_0_30 w1293 g0 sh_1 (by decide) (by decide) ty_1_3 rfl rfl (fun r1296 q1297 g1298 => ?_))
          refine wp_of e11 c11_106 (xc_V (pc' := 109) (r := r1296) (as := []) (st := []) (lm_0_93) rfl rfl (Nat.le_of_ble_eq_true rfl) w1293 g1298 sh_12 (by decide) rfl (by decide) (s_50 w1293 g1298) (fun R1299 T1300 H1301 p1302 => ?_))
          obtain ⟨e1303, w1305, f1306, e1304⟩ := p1302
          subst e1303
          subst e1304
          have f1307 := f1294.tr f1306 rfl
          show wp _ _ 11 109 [(3, .ref cu), (2, vI z1234), (0, .ref r0), (1, vI a1)] [] _ H1301 _
          refine wp_of e11 c11_109 (rw_aload_n (pc' := 110) (v := .ref r0) rfl rfl rfl ?_)
          refine wp_of e11 c11_110 (rw_aload_n (pc' := 111) (v := .ref r0) rfl rfl rfl ?_)
          have k1308 : H1301 r0 6 = H1281 r0 6 := ((f1306 r0 6 _ g0 rfl).trans ((wq_u_j e1292 rfl).trans (wq_u_j e1287 rfl)))
          have q1309 : H1301 r0 6 = (dr : Int) := k1308.trans q1285
          refine wp_of e11 c11_111 (xg_K (pc' := 114) lf_0_51 w1305 g0 sh_1 (by decide) (by decide) rfl q1309 rfl ?_)
          have k1310 : H1301 dr 10 = H1228 dr 10 := ((f1306 dr 10 _ gdr rfl).trans ((wq_u_t e1292 g0 gdr rfl 10).trans ((wq_u_t e1287 g0 gdr rfl 10).trans ((wq_u_t e1282 g0 gdr rfl 10).trans ((f1275 dr 10 _ gdr rfl).trans ((wq_u_t e1261 g0 gdr rfl 10).trans (wq_u_t e1252 g0 gdr rfl 10)))))))
          refine wp_of e11 c11_114 (xg_I (pc' := 117) lf_0_96 w1305 gdr sh_27 (by decide) (by decide) ty_27_10 rfl rfl (fun b1311 b1312 => ?_))
          refine wp_of e11 c11_117 (xc_V (pc' := 120) (r := r0) (as := [vI (H1301 dr 10)]) (st := []) (lm_0_99) rfl rfl (Nat.le_of_ble_eq_true rfl) w1305 g0 sh_1 (by decide) rfl (by decide) (u_51  w1305 g0 ⟨by omega, by omega⟩) (fun R1313 T1314 H1315 p1316 => ?_))
          obtain ⟨e1317, w1319, f1320, z1321, e1318, b1322, p1323⟩ := p1316
          subst e1317
          subst e1318
          obtain ⟨a1324, a1325⟩ := p1323
          have f1326 := f1307.tr f1320 rfl
          show wp _ _ 11 120 [(3, .ref cu), (2, vI z1234), (0, .ref r0), (1, vI a1)] [vI z1321] _ H1315 _
          have k1327 : H1315 r0 6 = H1301 r0 6 := (f1320 r0 6 _ g0 rfl)
          have q1328 : H1315 r0 6 = (dr : Int) := k1327.trans q1309
          have k1329 : H1315 r0 7 = H1286 r0 7 := ((f1320 r0 7 _ g0 rfl).trans ((f1306 r0 7 _ g0 rfl).trans (wq_u_j e1292 rfl)))
          have q1330 : H1315 r0 7 = (cu : Int) := k1329.trans q1290
          have k1331 : H1315 r0 8 = H1291 r0 8 := ((f1320 r0 8 _ g0 rfl).trans (f1306 r0 8 _ g0 rfl))
          have k1332 : H1315 r0 9 = H1210 r0 9 := ((f1320 r0 9 _ g0 rfl).trans ((f1306 r0 9 _ g0 rfl).trans ((wq_u_j e1292 rfl).trans ((wq_u_j e1287 rfl).trans ((wq_u_j e1282 rfl).trans ((f1275 r0 9 _ g0 rfl).trans ((wq_u_j e1261 rfl).trans ((wq_u_j e1252 rfl).trans (f1233 r0 9 _ g0 rfl)))))))))
          have k1333 : H1315 r0 11 = H1251 r0 11 := ((f1320 r0 11 _ g0 rfl).trans ((f1306 r0 11 _ g0 rfl).trans ((wq_u_j e1292 rfl).trans ((wq_u_j e1287 rfl).trans ((wq_u_j e1282 rfl).trans ((f1275 r0 11 _ g0 rfl).trans (wq_u_j e1261 rfl)))))))
          have k1334 : H1315 r0 12 = H1260 r0 12 := ((f1320 r0 12 _ g0 rfl).trans ((f1306 r0 12 _ g0 rfl).trans ((wq_u_j e1292 rfl).trans ((wq_u_j e1287 rfl).trans ((wq_u_j e1282 rfl).trans (f1275 r0 12 _ g0 rfl))))))
          exact wp_ireturn e11 c11_120 rfl ⟨rfl, w1319, f1326, z1321, rfl, ⟨by omega, by omega⟩, (Or.inr (Or.inr ⟨by omega, by omega, by omega, by omega, by omega, by omega, by omega, by omega, by omega, by omega⟩))⟩
        · exfalso
          omega
      · have f1335 := f1213.tr f1233 rfl
        show wp _ _ 11 39 [(0, .ref r0), (1, vI a1)] [vI z1234] _ H1228 _
        refine wp_of e11 c11_39 (rw_istore_n (pc' := 40) (z := z1234) (L' := [(2, vI z1234), (0, .ref r0), (1, vI a1)]) rfl rfl rfl ?_)
        refine wp_of e11 c11_40 (rw_aload_n (pc' := 41) (v := .ref r0) rfl rfl rfl ?_)
        refine wp_of e11 c11_41 (rw_aload_n (pc' := 42) (v := .ref r0) rfl rfl rfl ?_)
        have k1336 : H1228 r0 1 = H1210 r0 1 := (f1233 r0 1 _ g0 rfl)
        have q1337 : H1228 r0 1 = (rd : Int) := k1336.trans q1216
        refine wp_of e11 c11_42 (xg_K (pc' := 45) lf_0_16 w1232 g0 sh_1 (by decide) (by decide) rfl q1337 rfl ?_)
        refine wp_of e11 c11_45 (xg_I (pc' := 48) lf_0_78 w1232 grd sh_3 (by decide) (by decide) ty_3_3 rfl rfl (fun b1338 b1339 => ?_))
        refine wp_of e11 c11_48 (xp_I (pc' := 51) lf_0_81 w1232 g0 sh_1 (by decide) (by decide) ty_1_11 rfl rfl (by omega) (by omega) ⟨by omega, by omega⟩ rfl (fun H1340 e1341 w1342 => ?_))
        have f1343 := f1335.put' e1341 g0 rfl
        have k1344 : H1340 r0 11 = H1228 rd 3 := wq_u_s e1341
        refine wp_of e11 c11_51 (rw_aload_n (pc' := 52) (v := .ref r0) rfl rfl rfl ?_)
        refine wp_of e11 c11_52 (rw_aload_n (pc' := 53) (v := .ref r0) rfl rfl rfl ?_)
        have k1345 : H1340 r0 1 = H1228 r0 1 := (wq_u_j e1341 rfl)
        have q1346 : H1340 r0 1 = (rd : Int) := k1345.trans q1337
        refine wp_of e11 c11_53 (xg_K (pc' := 56) lf_0_16 w1342 g0 sh_1 (by decide) (by decide) rfl q1346 rfl ?_)
        have k1347 : H1340 rd 4 = H1228 rd 4 := (wq_u_t e1341 g0 grd rfl 4)
        refine wp_of e11 c11_56 (xg_I (pc' := 59) lf_0_84 w1342 grd sh_3 (by decide) (by decide) ty_3_4 rfl rfl (fun b1348 b1349 => ?_))
        refine wp_of e11 c11_59 (xp_I (pc' := 62) lf_0_87 w1342 g0 sh_1 (by decide) (by decide) ty_1_12 rfl rfl (by omega) (by omega) ⟨by omega, by omega⟩ rfl (fun H1350 e1351 w1352 => ?_))
        have f1353 := f1343.put' e1351 g0 rfl
        have k1354 : H1350 r0 12 = H1340 rd 4 := wq_u_s e1351
        refine wp_of e11 c11_62 (rw_iload_n (pc' := 63) (z := z1234) rfl rfl ?_)
        refine wp_of e11 c11_63 (rw_if_ne (p1 := 72) (p2 := 66) (by decide) rfl ⟨by omega, by omega⟩ (fun c1355 => ?_) (fun c1355 => ?_))
        · exfalso
          omega
        · refine wp_of e11 c11_66 (rw_aload_n (pc' := 67) (v := .ref r0) rfl rfl rfl ?_)
          refine wp_of e11 c11_67 (rw_iconst (pc' := 68) rfl ?_)
          refine wp_of e11 c11_68 (xc_V (pc' := 71) (r := r0) (as := [vI 4]) (st := []) (lm_0_70) rfl rfl (Nat.le_of_ble_eq_true rfl) w1352 g0 sh_1 (by decide) rfl (by decide) (u_12  w1352 g0 ⟨by omega, by omega⟩) (fun R1356 T1357 H1358 p1359 => ?_))
          obtain ⟨e1360, w1362, f1363, z1364, e1361, b1365, p1366⟩ := p1359
          subst e1360
          subst e1361
          obtain ⟨a1367, a1368⟩ := p1366
          have f1369 := f1353.tr f1363 rfl
          show wp _ _ 11 71 [(2, vI z1234), (0, .ref r0), (1, vI a1)] [vI z1364] _ H1358 _
          have k1370 : H1358 r0 6 = H r0 6 := ((f1363 r0 6 _ g0 rfl).trans ((wq_u_j e1351 rfl).trans ((wq_u_j e1341 rfl).trans ((f1233 r0 6 _ g0 rfl).trans (wq_u_j e1211 rfl)))))
          have q1371 : H1358 r0 6 = (cu : Int) := k1370.trans qcu
          have k1372 : H1358 r0 7 = H1210 r0 7 := ((f1363 r0 7 _ g0 rfl).trans ((wq_u_j e1351 rfl).trans ((wq_u_j e1341 rfl).trans (f1233 r0 7 _ g0 rfl))))
          have q1373 : H1358 r0 7 = (dr : Int) := k1372.trans q1220
          have k1374 : H1358 r0 8 = H r0 8 := ((f1363 r0 8 _ g0 rfl).trans ((wq_u_j e1351 rfl).trans ((wq_u_j e1341 rfl).trans ((f1233 r0 8 _ g0 rfl).trans (wq_u_j e1211 rfl)))))
          have k1375 : H1358 r0 9 = H1210 r0 9 := ((f1363 r0 9 _ g0 rfl).trans ((wq_u_j e1351 rfl).trans ((wq_u_j e1341 rfl).trans (f1233 r0 9 _ g0 rfl))))
          have k1376 : H1358 r0 11 = H1340 r0 11 := ((f1363 r0 11 _ g0 rfl).trans (wq_u_j e1351 rfl))
          have k1377 : H1358 r0 12 = H1350 r0 12 := (f1363 r0 12 _ g0 rfl)
          exact wp_ireturn e11 c11_71 rfl ⟨rfl, w1362, f1369, z1364, rfl, ⟨by omega, by omega⟩, (Or.inr (Or.inl ⟨by omega, by omega, by omega, by omega, by omega, by omega, by omega, by omega, by omega, by omega⟩))⟩
    · refine wp_of e11 c11_12 (rw_aload_n (pc' := 13) (v := .ref r0) rfl rfl rfl ?_)
      refine wp_of e11 c11_13 (rw_iconst (pc' := 14) rfl ?_)
      refine wp_of e11 c11_14 (xc_V (pc' := 17) (r := r0) (as := [vI 2]) (st := []) (lm_0_70) rfl rfl (Nat.le_of_ble_eq_true rfl) hW g0 sh_1 (by decide) rfl (by decide) (u_12  hW g0 ⟨by omega, by omega⟩) (fun R1378 T1379 H1380 p1381 => ?_))
      obtain ⟨e1382, w1384, f1385, z1386, e1383, b1387, p1388⟩ := p1381
      subst e1382
      subst e1383
      obtain ⟨a1389, a1390⟩ := p1388
      have f1391 := f0.tr f1385 rfl
      show wp _ _ 11 17 [(0, .ref r0), (1, vI a1)] [vI z1386] _ H1380 _
      have k1392 : H1380 r0 6 = H r0 6 := (f1385 r0 6 _ g0 rfl)
      have q1393 : H1380 r0 6 = (cu : Int) := k1392.trans qcu
      have k1394 : H1380 r0 7 = H r0 7 := (f1385 r0 7 _ g0 rfl)
      have q1395 : H1380 r0 7 = (dr : Int) := k1394.trans qdr
      have k1396 : H1380 r0 8 = H r0 8 := (f1385 r0 8 _ g0 rfl)
      have k1397 : H1380 r0 9 = H r0 9 := (f1385 r0 9 _ g0 rfl)
      have k1398 : H1380 r0 11 = H r0 11 := (f1385 r0 11 _ g0 rfl)
      exact wp_ireturn e11 c11_17 rfl ⟨rfl, w1384, f1391, z1386, rfl, ⟨by omega, by omega⟩, (Or.inl ⟨by omega, by omega, by omega, by omega, by omega, by omega, by omega, by omega⟩)⟩
/-! StrikeAwake.deny(I)Z  -/
abbrev uq_63 (r0 : Nat) (a1 : Int) (T : wq_T) (H : wq_H) : Option Value → wq_T → wq_H → Prop := fun r T' H' => T = T' ∧ WT T H' ∧ wfr [(1, 10)] T H H' ∧ ∃ z : Int, some (vI z) = r ∧ (0 ≤ z ∧ z ≤ 1) ∧ (((z = 0) ∧ (H' r0 10 = a1)))
set_option maxHeartbeats 4000000 in
theorem u_63 {kt : Nat → Option mc_E} {T : wq_T} {H : wq_H} {r0 : Nat} {a1 : Int} (hW : WT T H) (g0 : T.2.2.2 r0 = some 1) (i1 : (-2147483648) ≤ a1 ∧ a1 ≤ 2147483647) : wpc kt 1 63 [.ref r0, vI a1] T H (uq_63 r0 a1 T H) := by
  refine wp_enter e63 (Nat.le_of_ble_eq_true rfl) rfl ?_
  have f0 : wfr [(1, 10)] T H H := wfr.rf
  show wp _ _ 63 0 [(0, .ref r0), (1, vI a1)] [] _ H _
  refine wp_of e63 c63_0 (rw_aload_n (pc' := 1) (v := .ref r0) rfl rfl rfl ?_)
  refine wp_of e63 c63_1 (rw_iload_n (pc' := 2) (z := a1) rfl rfl ?_)
  refine wp_of e63 c63_2 (xp_I (pc' := 5) lf_0_102 hW g0 sh_1 (by decide) (by decide) ty_1_10 rfl rfl (by omega) (by omega) ⟨by omega, by omega⟩ rfl (fun H1006 e1007 w1008 => ?_))
  have f1009 := f0.put' e1007 g0 rfl
  have k1010 : H1006 r0 10 = a1 := wq_u_s e1007
  refine wp_of e63 c63_5 (rw_iconst (pc' := 6) rfl ?_)
  exact wp_zreturn e63 c63_6 rfl (by omega) ⟨rfl, w1008, f1009, 0, rfl, ⟨by omega, by omega⟩, ⟨by omega, by omega⟩⟩
/-! StrikeAwake.grant()Z  -/
abbrev uq_64 (r0 : Nat) (T : wq_T) (H : wq_H) : Option Value → wq_T → wq_H → Prop := fun r T' H' => T = T' ∧ WT T H' ∧ wfr [(1, 10)] T H H' ∧ ∃ z : Int, some (vI z) = r ∧ (0 ≤ z ∧ z ≤ 1) ∧ (((z = 1) ∧ (H' r0 10 = 0)))
set_option maxHeartbeats 4000000 in
theorem u_64 {kt : Nat → Option mc_E} {T : wq_T} {H : wq_H} {r0 : Nat} (hW : WT T H) (g0 : T.2.2.2 r0 = some 1) : wpc kt 1 64 [.ref r0] T H (uq_64 r0 T H) := by
  refine wp_enter e64 (Nat.le_of_ble_eq_true rfl) rfl ?_
  have f0 : wfr [(1, 10)] T H H := wfr.rf
  show wp _ _ 64 0 [(0, .ref r0)] [] _ H _
  refine wp_of e64 c64_0 (rw_aload_n (pc' := 1) (v := .ref r0) rfl rfl rfl ?_)
  refine wp_of e64 c64_1 (rw_iconst (pc' := 2) rfl ?_)
  refine wp_of e64 c64_2 (xp_I (pc' := 5) lf_0_102 hW g0 sh_1 (by decide) (by decide) ty_1_10 rfl rfl (by omega) (by omega) ⟨by omega, by omega⟩ rfl (fun H1006 e1007 w1008 => ?_))
  have f1009 := f0.put' e1007 g0 rfl
  have k1010 : H1006 r0 10 = 0 := wq_u_s e1007
  refine wp_of e64 c64_5 (rw_iconst (pc' := 6) rfl ?_)
  exact wp_zreturn e64 c64_6 rfl (by omega) ⟨rfl, w1008, f1009, 1, rfl, ⟨by omega, by omega⟩, ⟨by omega, by omega⟩⟩
/-! StrikeAwake.again()Z  -/
abbrev uq_158 (r0 : Nat) (T : wq_T) (H : wq_H) : Option Value → wq_T → wq_H → Prop := fun r T' H' => T = T' ∧ WT T H' ∧ wfr [(27, 17), (1, 10)] T H H' ∧ ∃ z : Int, some (vI z) = r ∧ (0 ≤ z ∧ z ≤ 1) ∧ (((z = 1) ∧ (H r0 8 = 1)) ∨ ((z = 0) ∧ (H r0 8 = 0)))
set_option maxHeartbeats 4000000 in
theorem u_158 {kt : Nat → Option mc_E} {T : wq_T} {H : wq_H} {r0 : Nat} (hW : WT T H) (g0 : T.2.2.2 r0 = some 1) : wpc kt 2 158 [.ref r0] T H (uq_158 r0 T H) := by
  refine wp_enter e158 (Nat.le_of_ble_eq_true rfl) rfl ?_
  have f0 : wfr [(27, 17), (1, 10)] T H H := wfr.rf
  show wp _ _ 158 0 [(0, .ref r0)] [] _ H _
  have b1040 : 0 ≤ H r0 8 ∧ H r0 8 ≤ 1 := hW.box g0 (n := 13) rfl (by decide) rfl
  refine wp_of e158 c158_0 (rw_aload_n (pc' := 1) (v := .ref r0) rfl rfl rfl ?_)
  refine wp_of e158 c158_1 (xg_I (pc' := 4) lf_0_58 hW g0 sh_1 (by decide) (by decide) ty_1_8 rfl rfl (fun b1041 b1042 => ?_))
  refine wp_of e158 c158_4 (rw_if_ne (p1 := 13) (p2 := 7) (by decide) rfl ⟨by omega, by omega⟩ (fun c1043 => ?_) (fun c1043 => ?_))
  · refine wp_of e158 c158_13 (rw_aload_n (pc' := 14) (v := .ref r0) rfl rfl rfl ?_)
    refine wp_of e158 c158_14 (xg_R (pc' := 17) lf_0_51 hW g0 sh_1 (by decide) (by decide) ty_1_6 rfl rfl (fun r1044 q1045 g1046 => ?_))
    refine wp_of e158 c158_17 (rw_iconst (pc' := 18) rfl ?_)
    refine wp_of e158 c158_18 (xp_I (pc' := 21) lf_0_298 hW g1046 sh_27 (by decide) (by decide) ty_27_17 rfl rfl (by omega) (by omega) ⟨by omega, by omega⟩ rfl (fun H1047 e1048 w1049 => ?_))
    have f1050 := f0.put' e1048 g1046 rfl
    have k1051 : H1047 r1044 17 = 0 := wq_u_s e1048
    refine wp_of e158 c158_21 (rw_aload_n (pc' := 22) (v := .ref r0) rfl rfl rfl ?_)
    refine wp_of e158 c158_22 (xc_V (pc' := 25) (r := r0) (as := []) (st := []) (lm_0_151) rfl rfl (Nat.le_of_ble_eq_true rfl) w1049 g0 sh_1 (by decide) rfl (by decide) (u_64  w1049 g0) (fun R1052 T1053 H1054 p1055 => ?_))
    obtain ⟨e1056, w1058, f1059, z1060, e1057, b1061, p1062⟩ := p1055
    subst e1056
    subst e1057
    obtain ⟨a1063, a1064⟩ := p1062
    have f1065 := f1050.tr f1059 rfl
    show wp _ _ 158 25 [(0, .ref r0)] [vI z1060] _ H1054 _
    exact wp_zreturn e158 c158_25 rfl (by omega) ⟨rfl, w1058, f1065, z1060, rfl, ⟨by omega, by omega⟩, (Or.inl ⟨by omega, by omega⟩)⟩
  · refine wp_of e158 c158_7 (rw_aload_n (pc' := 8) (v := .ref r0) rfl rfl rfl ?_)
    refine wp_of e158 c158_8 (rw_iconst (pc' := 9) rfl ?_)
    refine wp_of e158 c158_9 (xc_V (pc' := 12) (r := r0) (as := [vI 1]) (st := []) (lm_0_145) rfl rfl (Nat.le_of_ble_eq_true rfl) hW g0 sh_1 (by decide) rfl (by decide) (u_63  hW g0 ⟨by omega, by omega⟩) (fun R1066 T1067 H1068 p1069 => ?_))
    obtain ⟨e1070, w1072, f1073, z1074, e1071, b1075, p1076⟩ := p1069
    subst e1070
    subst e1071
    obtain ⟨a1077, a1078⟩ := p1076
    have f1079 := f0.tr f1073 rfl
    show wp _ _ 158 12 [(0, .ref r0)] [vI z1074] _ H1068 _
    exact wp_zreturn e158 c158_12 rfl (by omega) ⟨rfl, w1072, f1079, z1074, rfl, ⟨by omega, by omega⟩, (Or.inr ⟨by omega, by omega⟩)⟩
