/-! what methods do (own work, written by wip/gen3/sx3.py) -/
/-! StrikeAwake.parish(I)I  -/
abbrev uq_11 (r0 : Nat) (a1 : Int) (tp : Nat) (rd : Nat) (cu : Nat) (dr : Nat) (B : Nat → Int) (y : Int) (eU : xD) (dU : xD) (nU : Int) (nY : Int) (gY : Nat → Int) (cY : Int) (C : Nat → Bool) (T : wq_T) (H : wq_H) : Option Value → wq_T → wq_H → Prop := fun r T' H' => T = T' ∧ WT T H' ∧ wfr [(12, 9), (27, 7), (27, 8), (27, 9), (27, 10), (27, 11), (27, 12), (27, 13), (27, 14), (27, 15), (27, 16), (27, 17), (27, 18), (35, 6), (35, 7), (35, 8), (35, 9), (35, 10), (35, 11), (35, 12), (35, 13), (35, 14), (35, 15), (35, 16), (35, 17), (3, 1), (3, 2), (3, 3), (3, 4), (1, 6), (1, 7), (1, 8), (1, 9), (1, 10), (1, 11), (1, 12), (4, 0), (4, 1), (4, 2), (4, 3), (4, 4), (4, 5), (4, 6), (38, 999), (39, 999), (36, 999), (31, 999), (40, 999), (41, 999), (34, 999), (37, 999), (29, 999), (30, 999), (33, 999), (32, 999)] T H H' ∧ ∃ z : Int, some (vI z) = r ∧ ((-2147483648) ≤ z ∧ z ≤ 2147483647) ∧ (((z = -1) ∧ (a1 < 0 ∨ H r0 9 < a1) ∧ (H' r0 9 = H r0 9) ∧ (H' r0 10 = 2) ∧ (H' r0 6 = (cu : Int)) ∧ (H' r0 7 = (dr : Int)) ∧ (H' r0 8 = H r0 8) ∧ (H' r0 11 = H r0 11) ∧ CU T H' cu eU dU nU ∧ CY T H' cu nY gY cY ∧ SP T H' r0 C) ∨ ((z = -1) ∧ (0 ≤ a1 ∧ a1 ≤ H r0 9) ∧ (H' r0 9 = 0) ∧ ((xparse B y).1.1 ≠ 0) ∧ (H' r0 10 = 4) ∧ (H' r0 11 = (xparse B y).1.1) ∧ (H' r0 12 = (xparse B y).1.2.1) ∧ (H' r0 6 = (cu : Int)) ∧ (H' r0 7 = (dr : Int)) ∧ (H' r0 8 = H r0 8) ∧ CU T H' cu eU dU nU ∧ CY T H' cu nY gY cY ∧ SP T H' r0 C) ∨ ((0 ≤ z ∧ z ≤ 6) ∧ (0 ≤ a1 ∧ a1 ≤ H r0 9) ∧ (H' r0 9 = 0) ∧ ((xparse B y).1.1 = 0) ∧ (z = (xparse B y).2 0 3) ∧ (H' r0 10 = 0) ∧ (H' r0 6 = (dr : Int)) ∧ (H' r0 7 = (cu : Int)) ∧ (H' r0 8 = 1) ∧ (H' r0 11 = 0) ∧ (XA (xset (xparse B y).2)) ∧ (1 ≤ (xset (xparse B y).2) 0 0 ∧ 1 ≤ (xset (xparse B y).2) 0 3) ∧ CU T H' dr (xset (xparse B y).2) (xset (xparse B y).2) (xlots (xset (xparse B y).2)) ∧ CY T H' dr ((xparse B y).2 0 3) (fun _ => 0) 0 ∧ SP T H' r0 (fun a => !(C a))))
set_option maxHeartbeats 4000000 in
theorem u_11 {kt : Nat → Option mc_E} {T : wq_T} {H : wq_H} {r0 : Nat} {a1 : Int} {tp : Nat} {rd : Nat} {cu : Nat} {dr : Nat} {B : Nat → Int} {y : Int} {eU : xD} {dU : xD} {nU : Int} {nY : Int} {gY : Nat → Int} {cY : Int} {C : Nat → Bool} (hW : WT T H) (g0 : T.2.2.2 r0 = some 1) (i1 : (-2147483648) ≤ a1 ∧ a1 ≤ 2147483647) (qtp : H r0 0 = (tp : Int)) (gtp : T.2.2.2 tp = some 2) (qrd : H r0 1 = (rd : Int)) (grd : T.2.2.2 rd = some 3) (qcu : H r0 6 = (cu : Int)) (gcu : T.2.2.2 cu = some 27) (qdr : H r0 7 = (dr : Int)) (gdr : T.2.2.2 dr = some 27) (p0 : a1 = y) (p1 : C cu = true) (p2 : C dr = false) (p3 : dU 0 3 ≤ 6) (p4 : nY ≤ 6) (hTP_tp : TP T H tp B) (hDD_dr : DD T H dr ) (hDE_dr : DE T H dr ) (hCU_cu : CU T H cu eU dU nU) (hCY_cu : CY T H cu nY gY cY) (hSP_r0 : SP T H r0 C) : wpc kt 8 11 [.ref r0, vI a1] T H (uq_11 r0 a1 tp rd cu dr B y eU dU nU nY gY cY C T H) := by
  refine wp_enter e11 (Nat.le_of_ble_eq_true rfl) rfl ?_
  have f0 : wfr [(12, 9), (27, 7), (27, 8), (27, 9), (27, 10), (27, 11), (27, 12), (27, 13), (27, 14), (27, 15), (27, 16), (27, 17), (27, 18), (35, 6), (35, 7), (35, 8), (35, 9), (35, 10), (35, 11), (35, 12), (35, 13), (35, 14), (35, 15), (35, 16), (35, 17), (3, 1), (3, 2), (3, 3), (3, 4), (1, 6), (1, 7), (1, 8), (1, 9), (1, 10), (1, 11), (1, 12), (4, 0), (4, 1), (4, 2), (4, 3), (4, 4), (4, 5), (4, 6), (38, 999), (39, 999), (36, 999), (31, 999), (40, 999), (41, 999), (34, 999), (37, 999), (29, 999), (30, 999), (33, 999), (32, 999)] T H H := wfr.rf
  show wp _ _ 11 0 [(0, .ref r0), (1, vI a1)] [] _ H _
  have u1194 := CU_k hCU_cu
  have b1195 : 0 ≤ H r0 9 ∧ H r0 9 ≤ 900 := hW.box g0 (n := 13) rfl (by decide) rfl
  have b1196 : 0 ≤ H r0 8 ∧ H r0 8 ≤ 1 := hW.box g0 (n := 13) rfl (by decide) rfl
  have b1197 : (-2147483648) ≤ H r0 11 ∧ H r0 11 ≤ 2147483647 := hW.box g0 (n := 13) rfl (by decide) rfl
  have _y1 : (xparse B a1).1.1 = (xparse B y).1.1 := by rw [p0]
  have _y2 : (xparse B a1).1.2.1 = (xparse B y).1.2.1 := by rw [p0]
  have _y3 : (xparse B a1).2 0 3 = (xparse B y).2 0 3 := by rw [p0]
  have pC1 := p1
  have pC2 := p2
  have pC3 := p3
  have pC4 := p4
  refine wp_of e11 c11_0 (rw_iload_n (pc' := 1) (z := a1) rfl rfl ?_)
  refine wp_of e11 c11_1 (rw_if_lt (p1 := 12) (p2 := 4) (by decide) rfl ⟨i1.1, i1.2⟩ (fun c1198 => ?_) (fun c1198 => ?_))
  · refine wp_of e11 c11_12 (rw_aload_n (pc' := 13) (v := .ref r0) rfl rfl rfl ?_)
    refine wp_of e11 c11_13 (rw_iconst (pc' := 14) rfl ?_)
    refine wp_of e11 c11_14 (xc_V (pc' := 17) (r := r0) (as := [vI 2]) (st := []) (lm_0_70) rfl rfl (Nat.le_of_ble_eq_true rfl) hW g0 sh_1 (by decide) rfl (by decide) (u_12  hW g0 ⟨by decide, by decide⟩) (fun R1199 T1200 H1201 p1202 => ?_))
    obtain ⟨e1203, w1205, f1206, z1207, e1204, b1208, p1209⟩ := p1202
    subst e1203
    subst e1204
    obtain ⟨a1210, a1211⟩ := p1209
    have f1212 := f0.tr f1206 rfl
    show wp _ _ 11 17 [(0, .ref r0), (1, vI a1)] [vI z1207] _ H1201 _
    have k1213 : H1201 r0 6 = H r0 6 := (f1206 r0 6 _ g0 rfl)
    have q1214 : H1201 r0 6 = (cu : Int) := k1213.trans qcu
    have k1215 : H1201 r0 7 = H r0 7 := (f1206 r0 7 _ g0 rfl)
    have q1216 : H1201 r0 7 = (dr : Int) := k1215.trans qdr
    have k1217 : H1201 r0 8 = H r0 8 := (f1206 r0 8 _ g0 rfl)
    have k1218 : H1201 r0 9 = H r0 9 := (f1206 r0 9 _ g0 rfl)
    have k1219 : H1201 r0 11 = H r0 11 := (f1206 r0 11 _ g0 rfl)
    have h1220 : CU T H1201 cu eU dU nU := (CU_fr hW gcu f1206 rfl hCU_cu)
    have h1221 : CY T H1201 cu nY gY cY := (CY_fr hW gcu f1206 rfl hCY_cu)
    have h1222 : SP T H1201 r0 C := (SP_fr hW g0 f1206 rfl hSP_r0)
    exact wp_ireturn e11 c11_17 rfl ⟨rfl, w1205, f1212, z1207, rfl, ⟨b1208.1, b1208.2⟩, (Or.inl ⟨by omega, by omega, by omega, by omega, by omega, by omega, by omega, by omega, h1220, h1221, h1222⟩)⟩
  · refine wp_of e11 c11_4 (rw_iload_n (pc' := 5) (z := a1) rfl rfl ?_)
    refine wp_of e11 c11_5 (rw_aload_n (pc' := 6) (v := .ref r0) rfl rfl rfl ?_)
    refine wp_of e11 c11_6 (xg_I (pc' := 9) lf_0_62 hW g0 sh_1 (by decide) (by decide) ty_1_9 rfl rfl (fun b1223 b1224 => ?_))
    refine wp_of e11 c11_9 (rw_icmp_le (p1 := 18) (p2 := 12) (by decide) rfl ⟨i1.1, i1.2⟩ ⟨Int.le_trans (by decide) b1223, Int.le_trans b1224 (by decide)⟩ (fun c1225 => ?_) (fun c1225 => ?_))
    · refine wp_of e11 c11_18 (rw_aload_n (pc' := 19) (v := .ref r0) rfl rfl rfl ?_)
      refine wp_of e11 c11_19 (rw_iconst (pc' := 20) rfl ?_)
      refine wp_of e11 c11_20 (xp_I (pc' := 23) lf_0_62 hW g0 sh_1 (by decide) (by decide) ty_1_9 rfl rfl (by decide) (by decide) ⟨by decide, by decide⟩ rfl (fun H1226 e1227 w1228 => ?_))
      have f1229 := f0.put' e1227 g0 rfl
      have k1230 : H1226 r0 9 = 0 := wq_u_s e1227
      refine wp_of e11 c11_23 (rw_aload_n (pc' := 24) (v := .ref r0) rfl rfl rfl ?_)
      have k1231 : H1226 r0 1 = H r0 1 := (wq_u_j e1227 rfl)
      have q1232 : H1226 r0 1 = (rd : Int) := k1231.trans qrd
      refine wp_of e11 c11_24 (xg_K (pc' := 27) lf_0_16 w1228 g0 sh_1 (by decide) (by decide) rfl q1232 rfl ?_)
      refine wp_of e11 c11_27 (rw_aload_n (pc' := 28) (v := .ref r0) rfl rfl rfl ?_)
      have k1233 : H1226 r0 0 = H r0 0 := (wq_u_j e1227 rfl)
      have q1234 : H1226 r0 0 = (tp : Int) := k1233.trans qtp
      refine wp_of e11 c11_28 (xg_K (pc' := 31) lf_0_9 w1228 g0 sh_1 (by decide) (by decide) rfl q1234 rfl ?_)
      refine wp_of e11 c11_31 (rw_iload_n (pc' := 32) (z := a1) rfl rfl ?_)
      refine wp_of e11 c11_32 (rw_aload_n (pc' := 33) (v := .ref r0) rfl rfl rfl ?_)
      have k1235 : H1226 r0 7 = H r0 7 := (wq_u_j e1227 rfl)
      have q1236 : H1226 r0 7 = (dr : Int) := k1235.trans qdr
      refine wp_of e11 c11_33 (xg_K (pc' := 36) lf_0_55 w1228 g0 sh_1 (by decide) (by decide) rfl q1236 rfl ?_)
      have h1238 : SP T H1226 r0 C := (SP_fr hW g0 ((wfr.rf (l := [(1, 9)])).put' e1227 g0 rfl) rfl hSP_r0)
      have h1237 : SQ T H1226 (C) := SP.sq h1238
      have w1239 := rt_WT w1228 h1237
      obtain ⟨r1240, q1241, g1242⟩ := w1228.ref grd (t' := 4) (n := 5) (j := 0) (p := 0) (q := 0) rfl (by decide) rfl
      have h1243 : TP T H1226 tp B := (TP_fr hW gtp ((wfr.rf (l := [(1, 9)])).put' e1227 g0 rfl) rfl hTP_tp)
      have h1244 : DD T H1226 dr  := (DD_fr hW gdr ((wfr.rf (l := [(1, 9)])).put' e1227 g0 rfl) rfl hDD_dr)
      refine wp_of e11 c11_36 (xc_V (pc' := 39) (r := rd) (as := [.ref tp, vI a1, .ref dr]) (st := []) (lm_0_74) rfl rfl (Nat.le_of_ble_eq_true rfl) w1228 grd sh_3 (by decide) rfl (by decide) (rt_wpc (C := C) (u_13 (T := rtT T (C)) (B := B) w1239 (rtT_k (C := C) grd (rtF_o grd (by decide) (by decide))) (rtT_k (C := C) gtp (rtF_o gtp (by decide) (by decide))) ⟨by omega, by omega⟩ (rtT_k (C := C) gdr (rtF_c gdr (by decide) pC2)) q1241 (rtT_k (C := C) g1242 (rtF_o g1242 (by decide) (by decide))) h1243 (DD_rt gdr h1238 pC2 h1244)) (fun _ _ _ p => p.1)) (fun R1245 T1246 H1247 p1248 => ?_))
      obtain ⟨e1249, -, w1251, f1252, z1257, e1250, b1258, p1253⟩ := p1248
      subst e1249
      subst e1250
      have o1256 := rt_old f1252 rfl
      have f1255 := rt_fr f1252 rfl
      have w1254 := rt_un w1228 w1251 o1256
      rcases p1253 with ⟨a1259, a1260, a1261, a1262, a1263⟩ | ⟨a1264, a1265, a1266, a1267⟩
      · have f1268 := f1229.tr f1255 rfl
        show wp _ _ 11 39 [(0, .ref r0), (1, vI a1)] [vI z1257] _ H1247 _
        have h1269 : DC T H1247 dr ((xparse B a1).2) := DC_un a1262
        have u1270 := DC_k h1269
        have h1271 : CZ T H1247 dr ((xparse B a1).2 0 3) := CZ_un a1263
        have h1272 : CU T H1226 cu eU dU nU := (CU_fr hW gcu ((wfr.rf (l := [(1, 9)])).put' e1227 g0 rfl) rfl hCU_cu)
        have h1273 : CU T H1247 cu eU dU nU := CU_fz w1228 gcu h1238 pC1 o1256 pC3 h1272
        have h1274 : CY T H1226 cu nY gY cY := (CY_fr hW gcu ((wfr.rf (l := [(1, 9)])).put' e1227 g0 rfl) rfl hCY_cu)
        have h1275 : CY T H1247 cu nY gY cY := CY_fz w1228 gcu h1238 pC1 o1256 pC4 h1274
        refine wp_of e11 c11_39 (rw_istore_n (pc' := 40) (z := z1257) (L' := [(2, vI z1257), (0, .ref r0), (1, vI a1)]) rfl rfl rfl ?_)
        refine wp_of e11 c11_40 (rw_aload_n (pc' := 41) (v := .ref r0) rfl rfl rfl ?_)
        refine wp_of e11 c11_41 (rw_aload_n (pc' := 42) (v := .ref r0) rfl rfl rfl ?_)
        have k1276 : H1247 r0 1 = H1226 r0 1 := (f1255 r0 1 _ g0 rfl)
        have q1277 : H1247 r0 1 = (rd : Int) := k1276.trans q1232
        refine wp_of e11 c11_42 (xg_K (pc' := 45) lf_0_16 w1254 g0 sh_1 (by decide) (by decide) rfl q1277 rfl ?_)
        refine wp_of e11 c11_45 (xg_I (pc' := 48) lf_0_78 w1254 grd sh_3 (by decide) (by decide) ty_3_3 rfl rfl (fun b1278 b1279 => ?_))
        refine wp_of e11 c11_48 (xp_I (pc' := 51) lf_0_81 w1254 g0 sh_1 (by decide) (by decide) ty_1_11 rfl rfl (b1278) (b1279) ⟨b1278, b1279⟩ rfl (fun H1280 e1281 w1282 => ?_))
        have f1283 := f1268.put' e1281 g0 rfl
        have k1284 : H1280 r0 11 = H1247 rd 3 := wq_u_s e1281
        refine wp_of e11 c11_51 (rw_aload_n (pc' := 52) (v := .ref r0) rfl rfl rfl ?_)
        refine wp_of e11 c11_52 (rw_aload_n (pc' := 53) (v := .ref r0) rfl rfl rfl ?_)
        have k1285 : H1280 r0 1 = H1247 r0 1 := (wq_u_j e1281 rfl)
        have q1286 : H1280 r0 1 = (rd : Int) := k1285.trans q1277
        refine wp_of e11 c11_53 (xg_K (pc' := 56) lf_0_16 w1282 g0 sh_1 (by decide) (by decide) rfl q1286 rfl ?_)
        refine wp_of e11 c11_56 (xg_I (pc' := 59) lf_0_84 w1282 grd sh_3 (by decide) (by decide) ty_3_4 rfl rfl (fun b1287 b1288 => ?_))
        refine wp_of e11 c11_59 (xp_I (pc' := 62) lf_0_87 w1282 g0 sh_1 (by decide) (by decide) ty_1_12 rfl rfl (b1287) (b1288) ⟨b1287, b1288⟩ rfl (fun H1289 e1290 w1291 => ?_))
        have f1292 := f1283.put' e1290 g0 rfl
        have k1293 : H1289 r0 12 = H1280 rd 4 := wq_u_s e1290
        refine wp_of e11 c11_62 (rw_iload_n (pc' := 63) (z := z1257) rfl rfl ?_)
        refine wp_of e11 c11_63 (rw_if_ne (p1 := 72) (p2 := 66) (by decide) rfl ⟨by omega, by omega⟩ (fun c1294 => ?_) (fun c1294 => ?_))
        · refine wp_of e11 c11_72 (rw_aload_n (pc' := 73) (v := .ref r0) rfl rfl rfl ?_)
          have k1295 : H1289 r0 7 = H1226 r0 7 := ((wq_u_j e1290 rfl).trans ((wq_u_j e1281 rfl).trans (f1255 r0 7 _ g0 rfl)))
          have q1296 : H1289 r0 7 = (dr : Int) := k1295.trans q1236
          refine wp_of e11 c11_73 (xg_K (pc' := 76) lf_0_55 w1291 g0 sh_1 (by decide) (by decide) rfl q1296 rfl ?_)
          have k1297 : H1289 dr 13 = H1247 dr 13 := ((wq_u_t e1290 g0 gdr rfl 13).trans (wq_u_t e1281 g0 gdr rfl 13))
          have k1298 : H1289 dr 14 = H1247 dr 14 := ((wq_u_t e1290 g0 gdr rfl 14).trans (wq_u_t e1281 g0 gdr rfl 14))
          have k1299 : H1289 dr 10 = H1247 dr 10 := ((wq_u_t e1290 g0 gdr rfl 10).trans (wq_u_t e1281 g0 gdr rfl 10))
          have h1300 : DC T H1289 dr ((xparse B a1).2) := (DC_fr w1282 gdr ((wfr.rf (l := [(1, 12)])).put' e1290 g0 rfl) rfl (DC_fr w1254 gdr ((wfr.rf (l := [(1, 11)])).put' e1281 g0 rfl) rfl h1269))
          have h1301 : DD T H1289 dr  := (DD_fr w1282 gdr ((wfr.rf (l := [(1, 12)])).put' e1290 g0 rfl) rfl (DD_fr w1254 gdr ((wfr.rf (l := [(1, 11)])).put' e1281 g0 rfl) rfl (DD_fr w1228 gdr f1255 rfl h1244)))
          have h1302 : DE T H1289 dr  := (DE_fr w1282 gdr ((wfr.rf (l := [(1, 12)])).put' e1290 g0 rfl) rfl (DE_fr w1254 gdr ((wfr.rf (l := [(1, 11)])).put' e1281 g0 rfl) rfl (DE_fr w1228 gdr f1255 rfl (DE_fr hW gdr ((wfr.rf (l := [(1, 9)])).put' e1227 g0 rfl) rfl hDE_dr))))
          have h1303 : CZ T H1289 dr ((xparse B a1).2 0 3) := (CZ_fr w1282 gdr ((wfr.rf (l := [(1, 12)])).put' e1290 g0 rfl) rfl (CZ_fr w1254 gdr ((wfr.rf (l := [(1, 11)])).put' e1281 g0 rfl) rfl h1271))
          refine wp_of e11 c11_76 (xc_V (pc' := 79) (r := dr) (as := []) (st := []) (lm_0_90) rfl rfl (Nat.le_of_ble_eq_true rfl) w1291 gdr sh_27 (by decide) rfl (by decide) (u_44 (d := ((xparse B a1).2)) w1291 gdr (xdP_parse (by omega)) h1300 h1301 h1302 h1303) (fun R1304 T1305 H1306 p1307 => ?_))
          obtain ⟨e1308, w1310, f1311, e1309, p1312⟩ := p1307
          subst e1308
          subst e1309
          obtain ⟨a1313, a1314⟩ := p1312
          have f1315 := f1292.tr f1311 rfl
          show wp _ _ 11 79 [(2, vI z1257), (0, .ref r0), (1, vI a1)] [] _ H1306 _
          have u1316 := CU_k a1313
          have _xv := @xset_v (xparse B a1).2
          refine wp_of e11 c11_79 (rw_aload_n (pc' := 80) (v := .ref r0) rfl rfl rfl ?_)
          have k1317 : H1306 r0 6 = H r0 6 := ((f1311 r0 6 _ g0 rfl).trans ((wq_u_j e1290 rfl).trans ((wq_u_j e1281 rfl).trans ((f1255 r0 6 _ g0 rfl).trans (wq_u_j e1227 rfl)))))
          have q1318 : H1306 r0 6 = (cu : Int) := k1317.trans qcu
          refine wp_of e11 c11_80 (xg_K (pc' := 83) lf_0_51 w1310 g0 sh_1 (by decide) (by decide) rfl q1318 rfl ?_)
          refine wp_of e11 c11_83 (rw_astore_n (pc' := 84) (v := .ref cu) (L' := [(3, .ref cu), (2, vI z1257), (0, .ref r0), (1, vI a1)]) rfl rfl rfl rfl ?_)
          refine wp_of e11 c11_84 (rw_aload_n (pc' := 85) (v := .ref r0) rfl rfl rfl ?_)
          refine wp_of e11 c11_85 (rw_aload_n (pc' := 86) (v := .ref r0) rfl rfl rfl ?_)
          have k1319 : H1306 r0 7 = H1289 r0 7 := (f1311 r0 7 _ g0 rfl)
          have q1320 : H1306 r0 7 = (dr : Int) := k1319.trans q1296
          refine wp_of e11 c11_86 (xg_K (pc' := 89) lf_0_55 w1310 g0 sh_1 (by decide) (by decide) rfl q1320 rfl ?_)
          refine wp_of e11 c11_89 (xp_R (pc' := 92) lf_0_51 w1310 g0 sh_1 (by decide) (by decide) rfl rfl (wok_2 ty_1_6 gdr) rfl (fun H1321 e1322 w1323 => ?_))
          have f1324 := f1315.put' e1322 g0 rfl
          have q1325 : H1321 r0 6 = (dr : Int) := wq_u_s e1322
          refine wp_of e11 c11_92 (rw_aload_n (pc' := 93) (v := .ref r0) rfl rfl rfl ?_)
          refine wp_of e11 c11_93 (rw_aload_n (pc' := 94) (v := .ref cu) rfl rfl rfl ?_)
          refine wp_of e11 c11_94 (xp_R (pc' := 97) lf_0_55 w1323 g0 sh_1 (by decide) (by decide) rfl rfl (wok_2 ty_1_7 gcu) rfl (fun H1326 e1327 w1328 => ?_))
          have f1329 := f1324.put' e1327 g0 rfl
          have q1330 : H1326 r0 7 = (cu : Int) := wq_u_s e1327
          refine wp_of e11 c11_97 (rw_aload_n (pc' := 98) (v := .ref r0) rfl rfl rfl ?_)
          refine wp_of e11 c11_98 (rw_iconst (pc' := 99) rfl ?_)
          refine wp_of e11 c11_99 (xp_Z (pc' := 102) lf_0_58 w1328 g0 sh_1 (by decide) (by decide) ty_1_8 rfl rfl (by decide) (by decide) rfl (fun H1331 e1332 w1333 => ?_))
          have f1334 := f1329.put' e1332 g0 rfl
          have k1335 : H1331 r0 8 = 1 := wq_u_s e1332
          refine wp_of e11 c11_102 (rw_aload_n (pc' := 103) (v := .ref r0) rfl rfl rfl ?_)
          refine wp_of e11 c11_103 (xg_R (pc' := 106) lf_0_30 w1333 g0 sh_1 (by decide) (by decide) ty_1_3 rfl rfl (fun r1336 q1337 g1338 => ?_))
          refine wp_of e11 c11_106 (xc_V (pc' := 109) (r := r1336) (as := []) (st := []) (lm_0_93) rfl rfl (Nat.le_of_ble_eq_true rfl) w1333 g1338 sh_12 (by decide) rfl (by decide) (s_50 w1333 g1338) (fun R1339 T1340 H1341 p1342 => ?_))
          obtain ⟨e1343, w1345, f1346, e1344⟩ := p1342
          subst e1343
          subst e1344
          have f1347 := f1334.tr f1346 rfl
          show wp _ _ 11 109 [(3, .ref cu), (2, vI z1257), (0, .ref r0), (1, vI a1)] [] _ H1341 _
          refine wp_of e11 c11_109 (rw_aload_n (pc' := 110) (v := .ref r0) rfl rfl rfl ?_)
          refine wp_of e11 c11_110 (rw_aload_n (pc' := 111) (v := .ref r0) rfl rfl rfl ?_)
          have k1348 : H1341 r0 6 = H1321 r0 6 := ((f1346 r0 6 _ g0 rfl).trans ((wq_u_j e1332 rfl).trans (wq_u_j e1327 rfl)))
          have q1349 : H1341 r0 6 = (dr : Int) := k1348.trans q1325
          refine wp_of e11 c11_111 (xg_K (pc' := 114) lf_0_51 w1345 g0 sh_1 (by decide) (by decide) rfl q1349 rfl ?_)
          have k1350 : H1341 dr 10 = H1306 dr 10 := ((f1346 dr 10 _ gdr rfl).trans ((wq_u_t e1332 g0 gdr rfl 10).trans ((wq_u_t e1327 g0 gdr rfl 10).trans (wq_u_t e1322 g0 gdr rfl 10))))
          refine wp_of e11 c11_114 (xg_I (pc' := 117) lf_0_96 w1345 gdr sh_27 (by decide) (by decide) ty_27_10 rfl rfl (fun b1351 b1352 => ?_))
          refine wp_of e11 c11_117 (xc_V (pc' := 120) (r := r0) (as := [vI (H1341 dr 10)]) (st := []) (lm_0_99) rfl rfl (Nat.le_of_ble_eq_true rfl) w1345 g0 sh_1 (by decide) rfl (by decide) (u_51  w1345 g0 ⟨Int.le_trans (by decide) b1351, Int.le_trans b1352 (by decide)⟩) (fun R1353 T1354 H1355 p1356 => ?_))
          obtain ⟨e1357, w1359, f1360, z1361, e1358, b1362, p1363⟩ := p1356
          subst e1357
          subst e1358
          obtain ⟨a1364, a1365⟩ := p1363
          have f1366 := f1347.tr f1360 rfl
          show wp _ _ 11 120 [(3, .ref cu), (2, vI z1257), (0, .ref r0), (1, vI a1)] [vI z1361] _ H1355 _
          have k1367 : H1355 r0 6 = H1341 r0 6 := (f1360 r0 6 _ g0 rfl)
          have q1368 : H1355 r0 6 = (dr : Int) := k1367.trans q1349
          have k1369 : H1355 r0 7 = H1326 r0 7 := ((f1360 r0 7 _ g0 rfl).trans ((f1346 r0 7 _ g0 rfl).trans (wq_u_j e1332 rfl)))
          have q1370 : H1355 r0 7 = (cu : Int) := k1369.trans q1330
          have k1371 : H1355 r0 8 = H1331 r0 8 := ((f1360 r0 8 _ g0 rfl).trans (f1346 r0 8 _ g0 rfl))
          have k1372 : H1355 r0 9 = H1226 r0 9 := ((f1360 r0 9 _ g0 rfl).trans ((f1346 r0 9 _ g0 rfl).trans ((wq_u_j e1332 rfl).trans ((wq_u_j e1327 rfl).trans ((wq_u_j e1322 rfl).trans ((f1311 r0 9 _ g0 rfl).trans ((wq_u_j e1290 rfl).trans ((wq_u_j e1281 rfl).trans (f1255 r0 9 _ g0 rfl)))))))))
          have k1373 : H1355 r0 11 = H1280 r0 11 := ((f1360 r0 11 _ g0 rfl).trans ((f1346 r0 11 _ g0 rfl).trans ((wq_u_j e1332 rfl).trans ((wq_u_j e1327 rfl).trans ((wq_u_j e1322 rfl).trans ((f1311 r0 11 _ g0 rfl).trans (wq_u_j e1290 rfl)))))))
          have k1374 : H1355 r0 12 = H1289 r0 12 := ((f1360 r0 12 _ g0 rfl).trans ((f1346 r0 12 _ g0 rfl).trans ((wq_u_j e1332 rfl).trans ((wq_u_j e1327 rfl).trans ((wq_u_j e1322 rfl).trans (f1311 r0 12 _ g0 rfl))))))
          have h1375 : CU T H1355 dr (xset ((xparse B a1).2)) (xset ((xparse B a1).2)) (xlots (xset ((xparse B a1).2))) := (CU_fr w1345 gdr f1360 rfl (CU_fr w1333 gdr f1346 rfl (CU_fr w1328 gdr ((wfr.rf (l := [(1, 8)])).put' e1332 g0 rfl) rfl (CU_fr w1323 gdr ((wfr.rf (l := [(1, 7)])).put' e1327 g0 rfl) rfl (CU_fr w1310 gdr ((wfr.rf (l := [(1, 6)])).put' e1322 g0 rfl) rfl a1313)))))
          have h1376 : CY T H1355 dr (((xparse B a1).2) 0 3) (fun _ => 0) 0 := (CY_fr w1345 gdr f1360 rfl (CY_fr w1333 gdr f1346 rfl (CY_fr w1328 gdr ((wfr.rf (l := [(1, 8)])).put' e1332 g0 rfl) rfl (CY_fr w1323 gdr ((wfr.rf (l := [(1, 7)])).put' e1327 g0 rfl) rfl (CY_fr w1310 gdr ((wfr.rf (l := [(1, 6)])).put' e1322 g0 rfl) rfl a1314)))))
          have h1377 : SP T H1355 r0 C := (SP_fr w1345 g0 f1360 rfl (SP_fr w1333 g0 f1346 rfl (SP_fr w1328 g0 ((wfr.rf (l := [(1, 8)])).put' e1332 g0 rfl) rfl (SP_fr w1323 g0 ((wfr.rf (l := [(1, 7)])).put' e1327 g0 rfl) rfl (SP_fr w1310 g0 ((wfr.rf (l := [(1, 6)])).put' e1322 g0 rfl) rfl (SP_fr w1291 g0 f1311 rfl (SP_fr w1282 g0 ((wfr.rf (l := [(1, 12)])).put' e1290 g0 rfl) rfl (SP_fr w1254 g0 ((wfr.rf (l := [(1, 11)])).put' e1281 g0 rfl) rfl (SP_fr w1228 g0 f1255 rfl h1238)))))))))
          exact wp_ireturn e11 c11_120 rfl ⟨rfl, w1359, f1366, z1361, rfl, ⟨b1362.1, b1362.2⟩, (Or.inr (Or.inr ⟨by omega, by omega, by omega, by omega, by omega, by omega, by omega, by omega, by omega, by omega, by rw [← p0]; exact (XA_set (by omega)).1, by rw [← p0]; exact (XA_set (by omega)).2, by rw [← p0]; exact h1375, by rw [← p0]; exact h1376, SP_not h1377⟩))⟩
        · exfalso
          omega
      · have f1378 := f1229.tr f1255 rfl
        show wp _ _ 11 39 [(0, .ref r0), (1, vI a1)] [vI z1257] _ H1247 _
        have h1379 : CU T H1226 cu eU dU nU := (CU_fr hW gcu ((wfr.rf (l := [(1, 9)])).put' e1227 g0 rfl) rfl hCU_cu)
        have h1380 : CU T H1247 cu eU dU nU := CU_fz w1228 gcu h1238 pC1 o1256 pC3 h1379
        have h1381 : CY T H1226 cu nY gY cY := (CY_fr hW gcu ((wfr.rf (l := [(1, 9)])).put' e1227 g0 rfl) rfl hCY_cu)
        have h1382 : CY T H1247 cu nY gY cY := CY_fz w1228 gcu h1238 pC1 o1256 pC4 h1381
        refine wp_of e11 c11_39 (rw_istore_n (pc' := 40) (z := z1257) (L' := [(2, vI z1257), (0, .ref r0), (1, vI a1)]) rfl rfl rfl ?_)
        refine wp_of e11 c11_40 (rw_aload_n (pc' := 41) (v := .ref r0) rfl rfl rfl ?_)
        refine wp_of e11 c11_41 (rw_aload_n (pc' := 42) (v := .ref r0) rfl rfl rfl ?_)
        have k1383 : H1247 r0 1 = H1226 r0 1 := (f1255 r0 1 _ g0 rfl)
        have q1384 : H1247 r0 1 = (rd : Int) := k1383.trans q1232
        refine wp_of e11 c11_42 (xg_K (pc' := 45) lf_0_16 w1254 g0 sh_1 (by decide) (by decide) rfl q1384 rfl ?_)
        refine wp_of e11 c11_45 (xg_I (pc' := 48) lf_0_78 w1254 grd sh_3 (by decide) (by decide) ty_3_3 rfl rfl (fun b1385 b1386 => ?_))
        refine wp_of e11 c11_48 (xp_I (pc' := 51) lf_0_81 w1254 g0 sh_1 (by decide) (by decide) ty_1_11 rfl rfl (b1385) (b1386) ⟨b1385, b1386⟩ rfl (fun H1387 e1388 w1389 => ?_))
        have f1390 := f1378.put' e1388 g0 rfl
        have k1391 : H1387 r0 11 = H1247 rd 3 := wq_u_s e1388
        refine wp_of e11 c11_51 (rw_aload_n (pc' := 52) (v := .ref r0) rfl rfl rfl ?_)
        refine wp_of e11 c11_52 (rw_aload_n (pc' := 53) (v := .ref r0) rfl rfl rfl ?_)
        have k1392 : H1387 r0 1 = H1247 r0 1 := (wq_u_j e1388 rfl)
        have q1393 : H1387 r0 1 = (rd : Int) := k1392.trans q1384
        refine wp_of e11 c11_53 (xg_K (pc' := 56) lf_0_16 w1389 g0 sh_1 (by decide) (by decide) rfl q1393 rfl ?_)
        have k1394 : H1387 rd 4 = H1247 rd 4 := (wq_u_t e1388 g0 grd rfl 4)
        refine wp_of e11 c11_56 (xg_I (pc' := 59) lf_0_84 w1389 grd sh_3 (by decide) (by decide) ty_3_4 rfl rfl (fun b1395 b1396 => ?_))
        refine wp_of e11 c11_59 (xp_I (pc' := 62) lf_0_87 w1389 g0 sh_1 (by decide) (by decide) ty_1_12 rfl rfl (b1395) (b1396) ⟨b1395, b1396⟩ rfl (fun H1397 e1398 w1399 => ?_))
        have f1400 := f1390.put' e1398 g0 rfl
        have k1401 : H1397 r0 12 = H1387 rd 4 := wq_u_s e1398
        refine wp_of e11 c11_62 (rw_iload_n (pc' := 63) (z := z1257) rfl rfl ?_)
        refine wp_of e11 c11_63 (rw_if_ne (p1 := 72) (p2 := 66) (by decide) rfl ⟨by omega, by omega⟩ (fun c1402 => ?_) (fun c1402 => ?_))
        · exfalso
          omega
        · refine wp_of e11 c11_66 (rw_aload_n (pc' := 67) (v := .ref r0) rfl rfl rfl ?_)
          refine wp_of e11 c11_67 (rw_iconst (pc' := 68) rfl ?_)
          refine wp_of e11 c11_68 (xc_V (pc' := 71) (r := r0) (as := [vI 4]) (st := []) (lm_0_70) rfl rfl (Nat.le_of_ble_eq_true rfl) w1399 g0 sh_1 (by decide) rfl (by decide) (u_12  w1399 g0 ⟨by decide, by decide⟩) (fun R1403 T1404 H1405 p1406 => ?_))
          obtain ⟨e1407, w1409, f1410, z1411, e1408, b1412, p1413⟩ := p1406
          subst e1407
          subst e1408
          obtain ⟨a1414, a1415⟩ := p1413
          have f1416 := f1400.tr f1410 rfl
          show wp _ _ 11 71 [(2, vI z1257), (0, .ref r0), (1, vI a1)] [vI z1411] _ H1405 _
          have k1417 : H1405 r0 6 = H r0 6 := ((f1410 r0 6 _ g0 rfl).trans ((wq_u_j e1398 rfl).trans ((wq_u_j e1388 rfl).trans ((f1255 r0 6 _ g0 rfl).trans (wq_u_j e1227 rfl)))))
          have q1418 : H1405 r0 6 = (cu : Int) := k1417.trans qcu
          have k1419 : H1405 r0 7 = H1226 r0 7 := ((f1410 r0 7 _ g0 rfl).trans ((wq_u_j e1398 rfl).trans ((wq_u_j e1388 rfl).trans (f1255 r0 7 _ g0 rfl))))
          have q1420 : H1405 r0 7 = (dr : Int) := k1419.trans q1236
          have k1421 : H1405 r0 8 = H r0 8 := ((f1410 r0 8 _ g0 rfl).trans ((wq_u_j e1398 rfl).trans ((wq_u_j e1388 rfl).trans ((f1255 r0 8 _ g0 rfl).trans (wq_u_j e1227 rfl)))))
          have k1422 : H1405 r0 9 = H1226 r0 9 := ((f1410 r0 9 _ g0 rfl).trans ((wq_u_j e1398 rfl).trans ((wq_u_j e1388 rfl).trans (f1255 r0 9 _ g0 rfl))))
          have k1423 : H1405 r0 11 = H1387 r0 11 := ((f1410 r0 11 _ g0 rfl).trans (wq_u_j e1398 rfl))
          have k1424 : H1405 r0 12 = H1397 r0 12 := (f1410 r0 12 _ g0 rfl)
          have h1425 : CU T H1405 cu eU dU nU := (CU_fr w1399 gcu f1410 rfl (CU_fr w1389 gcu ((wfr.rf (l := [(1, 12)])).put' e1398 g0 rfl) rfl (CU_fr w1254 gcu ((wfr.rf (l := [(1, 11)])).put' e1388 g0 rfl) rfl h1380)))
          have h1426 : CY T H1405 cu nY gY cY := (CY_fr w1399 gcu f1410 rfl (CY_fr w1389 gcu ((wfr.rf (l := [(1, 12)])).put' e1398 g0 rfl) rfl (CY_fr w1254 gcu ((wfr.rf (l := [(1, 11)])).put' e1388 g0 rfl) rfl h1382)))
          have h1427 : SP T H1405 r0 C := (SP_fr w1399 g0 f1410 rfl (SP_fr w1389 g0 ((wfr.rf (l := [(1, 12)])).put' e1398 g0 rfl) rfl (SP_fr w1254 g0 ((wfr.rf (l := [(1, 11)])).put' e1388 g0 rfl) rfl (SP_fr w1228 g0 f1255 rfl h1238))))
          exact wp_ireturn e11 c11_71 rfl ⟨rfl, w1409, f1416, z1411, rfl, ⟨b1412.1, b1412.2⟩, (Or.inr (Or.inl ⟨by omega, by omega, by omega, by omega, by omega, by omega, by omega, by omega, by omega, by omega, h1425, h1426, h1427⟩))⟩
    · refine wp_of e11 c11_12 (rw_aload_n (pc' := 13) (v := .ref r0) rfl rfl rfl ?_)
      refine wp_of e11 c11_13 (rw_iconst (pc' := 14) rfl ?_)
      refine wp_of e11 c11_14 (xc_V (pc' := 17) (r := r0) (as := [vI 2]) (st := []) (lm_0_70) rfl rfl (Nat.le_of_ble_eq_true rfl) hW g0 sh_1 (by decide) rfl (by decide) (u_12  hW g0 ⟨by decide, by decide⟩) (fun R1428 T1429 H1430 p1431 => ?_))
      obtain ⟨e1432, w1434, f1435, z1436, e1433, b1437, p1438⟩ := p1431
      subst e1432
      subst e1433
      obtain ⟨a1439, a1440⟩ := p1438
      have f1441 := f0.tr f1435 rfl
      show wp _ _ 11 17 [(0, .ref r0), (1, vI a1)] [vI z1436] _ H1430 _
      have k1442 : H1430 r0 6 = H r0 6 := (f1435 r0 6 _ g0 rfl)
      have q1443 : H1430 r0 6 = (cu : Int) := k1442.trans qcu
      have k1444 : H1430 r0 7 = H r0 7 := (f1435 r0 7 _ g0 rfl)
      have q1445 : H1430 r0 7 = (dr : Int) := k1444.trans qdr
      have k1446 : H1430 r0 8 = H r0 8 := (f1435 r0 8 _ g0 rfl)
      have k1447 : H1430 r0 9 = H r0 9 := (f1435 r0 9 _ g0 rfl)
      have k1448 : H1430 r0 11 = H r0 11 := (f1435 r0 11 _ g0 rfl)
      have h1449 : CU T H1430 cu eU dU nU := (CU_fr hW gcu f1435 rfl hCU_cu)
      have h1450 : CY T H1430 cu nY gY cY := (CY_fr hW gcu f1435 rfl hCY_cu)
      have h1451 : SP T H1430 r0 C := (SP_fr hW g0 f1435 rfl hSP_r0)
      exact wp_ireturn e11 c11_17 rfl ⟨rfl, w1434, f1441, z1436, rfl, ⟨b1437.1, b1437.2⟩, (Or.inl ⟨by omega, by omega, by omega, by omega, by omega, by omega, by omega, by omega, h1449, h1450, h1451⟩)⟩
/-! StrikeAwake.deny(I)Z  -/
abbrev uq_63 (r0 : Nat) (a1 : Int) (T : wq_T) (H : wq_H) : Option Value → wq_T → wq_H → Prop := fun r T' H' => T = T' ∧ WT T H' ∧ wfr [(1, 10)] T H H' ∧ ∃ z : Int, some (vI z) = r ∧ (0 ≤ z ∧ z ≤ 1) ∧ (((z = 0) ∧ (H' r0 10 = a1)))
set_option maxHeartbeats 4000000 in
theorem u_63 {kt : Nat → Option mc_E} {T : wq_T} {H : wq_H} {r0 : Nat} {a1 : Int} (hW : WT T H) (g0 : T.2.2.2 r0 = some 1) (i1 : (-2147483648) ≤ a1 ∧ a1 ≤ 2147483647) : wpc kt 1 63 [.ref r0, vI a1] T H (uq_63 r0 a1 T H) := by
  refine wp_enter e63 (Nat.le_of_ble_eq_true rfl) rfl ?_
  have f0 : wfr [(1, 10)] T H H := wfr.rf
  show wp _ _ 63 0 [(0, .ref r0), (1, vI a1)] [] _ H _
  refine wp_of e63 c63_0 (rw_aload_n (pc' := 1) (v := .ref r0) rfl rfl rfl ?_)
  refine wp_of e63 c63_1 (rw_iload_n (pc' := 2) (z := a1) rfl rfl ?_)
  refine wp_of e63 c63_2 (xp_I (pc' := 5) lf_0_102 hW g0 sh_1 (by decide) (by decide) ty_1_10 rfl rfl (i1.1) (i1.2) ⟨i1.1, i1.2⟩ rfl (fun H1006 e1007 w1008 => ?_))
  have f1009 := f0.put' e1007 g0 rfl
  have k1010 : H1006 r0 10 = a1 := wq_u_s e1007
  refine wp_of e63 c63_5 (rw_iconst (pc' := 6) rfl ?_)
  exact wp_zreturn e63 c63_6 rfl (by omega) ⟨rfl, w1008, f1009, 0, rfl, ⟨by decide, by decide⟩, ⟨by omega, by omega⟩⟩
/-! StrikeAwake.grant()Z  -/
abbrev uq_64 (r0 : Nat) (T : wq_T) (H : wq_H) : Option Value → wq_T → wq_H → Prop := fun r T' H' => T = T' ∧ WT T H' ∧ wfr [(1, 10)] T H H' ∧ ∃ z : Int, some (vI z) = r ∧ (0 ≤ z ∧ z ≤ 1) ∧ (((z = 1) ∧ (H' r0 10 = 0)))
set_option maxHeartbeats 4000000 in
theorem u_64 {kt : Nat → Option mc_E} {T : wq_T} {H : wq_H} {r0 : Nat} (hW : WT T H) (g0 : T.2.2.2 r0 = some 1) : wpc kt 1 64 [.ref r0] T H (uq_64 r0 T H) := by
  refine wp_enter e64 (Nat.le_of_ble_eq_true rfl) rfl ?_
  have f0 : wfr [(1, 10)] T H H := wfr.rf
  show wp _ _ 64 0 [(0, .ref r0)] [] _ H _
  refine wp_of e64 c64_0 (rw_aload_n (pc' := 1) (v := .ref r0) rfl rfl rfl ?_)
  refine wp_of e64 c64_1 (rw_iconst (pc' := 2) rfl ?_)
  refine wp_of e64 c64_2 (xp_I (pc' := 5) lf_0_102 hW g0 sh_1 (by decide) (by decide) ty_1_10 rfl rfl (by decide) (by decide) ⟨by decide, by decide⟩ rfl (fun H1006 e1007 w1008 => ?_))
  have f1009 := f0.put' e1007 g0 rfl
  have k1010 : H1006 r0 10 = 0 := wq_u_s e1007
  refine wp_of e64 c64_5 (rw_iconst (pc' := 6) rfl ?_)
  exact wp_zreturn e64 c64_6 rfl (by omega) ⟨rfl, w1008, f1009, 1, rfl, ⟨by decide, by decide⟩, ⟨by omega, by omega⟩⟩
/-! StrikeAwake.isPerson(I)Z  -/
abbrev uq_55 (r0 : Nat) (a1 : Int) (cu : Nat) (T : wq_T) (H : wq_H) : Option Value → wq_T → wq_H → Prop := fun r T' H' => T = T' ∧ H = H' ∧ ∃ z : Int, some (vI z) = r ∧ (0 ≤ z ∧ z ≤ 1) ∧ (((z = 1) ∧ (0 ≤ a1 ∧ a1 < H cu 10)) ∨ ((z = 0) ∧ (a1 < 0 ∨ H cu 10 ≤ a1)))
set_option maxHeartbeats 4000000 in
theorem u_55 {kt : Nat → Option mc_E} {T : wq_T} {H : wq_H} {r0 : Nat} {a1 : Int} {cu : Nat} (hW : WT T H) (g0 : T.2.2.2 r0 = some 1) (i1 : (-2147483648) ≤ a1 ∧ a1 ≤ 2147483647) (qcu : H r0 6 = (cu : Int)) (gcu : T.2.2.2 cu = some 27) : wpc kt 1 55 [.ref r0, vI a1] T H (uq_55 r0 a1 cu T H) := by
  refine wp_enter e55 (Nat.le_of_ble_eq_true rfl) rfl ?_
  show wp _ _ 55 0 [(0, .ref r0), (1, vI a1)] [] _ H _
  refine wp_of e55 c55_0 (rw_iload_n (pc' := 1) (z := a1) rfl rfl ?_)
  refine wp_of e55 c55_1 (rw_if_lt (p1 := 19) (p2 := 4) (by decide) rfl ⟨i1.1, i1.2⟩ (fun c1005 => ?_) (fun c1005 => ?_))
  · refine wp_of e55 c55_19 (rw_iconst (pc' := 20) rfl ?_)
    exact wp_zreturn e55 c55_20 rfl (by omega) ⟨rfl, rfl, 0, rfl, ⟨by decide, by decide⟩, (Or.inr ⟨by omega, by omega⟩)⟩
  · refine wp_of e55 c55_4 (rw_iload_n (pc' := 5) (z := a1) rfl rfl ?_)
    refine wp_of e55 c55_5 (rw_aload_n (pc' := 6) (v := .ref r0) rfl rfl rfl ?_)
    refine wp_of e55 c55_6 (xg_K (pc' := 9) lf_0_51 hW g0 sh_1 (by decide) (by decide) rfl qcu rfl ?_)
    refine wp_of e55 c55_9 (xg_I (pc' := 12) lf_0_96 hW gcu sh_27 (by decide) (by decide) ty_27_10 rfl rfl (fun b1006 b1007 => ?_))
    refine wp_of e55 c55_12 (rw_icmp_ge (p1 := 19) (p2 := 15) (by decide) rfl ⟨i1.1, i1.2⟩ ⟨Int.le_trans (by decide) b1006, Int.le_trans b1007 (by decide)⟩ (fun c1008 => ?_) (fun c1008 => ?_))
    · refine wp_of e55 c55_19 (rw_iconst (pc' := 20) rfl ?_)
      exact wp_zreturn e55 c55_20 rfl (by omega) ⟨rfl, rfl, 0, rfl, ⟨by decide, by decide⟩, (Or.inr ⟨by omega, by omega⟩)⟩
    · refine wp_of e55 c55_15 (rw_iconst (pc' := 16) rfl ?_)
      refine wp_of e55 c55_16 (rw_goto (p1 := 20) (by decide) ?_)
      exact wp_zreturn e55 c55_20 rfl (by omega) ⟨rfl, rfl, 1, rfl, ⟨by decide, by decide⟩, (Or.inl ⟨by omega, by omega⟩)⟩
/-! StrikeAwake.isHour(I)Z  -/
abbrev uq_60 (r0 : Nat) (a1 : Int) (cu : Nat) (T : wq_T) (H : wq_H) : Option Value → wq_T → wq_H → Prop := fun r T' H' => T = T' ∧ H = H' ∧ ∃ z : Int, some (vI z) = r ∧ (0 ≤ z ∧ z ≤ 1) ∧ (((z = 1) ∧ (0 ≤ a1 ∧ a1 < H cu 7)) ∨ ((z = 0) ∧ (a1 < 0 ∨ H cu 7 ≤ a1)))
set_option maxHeartbeats 4000000 in
theorem u_60 {kt : Nat → Option mc_E} {T : wq_T} {H : wq_H} {r0 : Nat} {a1 : Int} {cu : Nat} (hW : WT T H) (g0 : T.2.2.2 r0 = some 1) (i1 : (-2147483648) ≤ a1 ∧ a1 ≤ 2147483647) (qcu : H r0 6 = (cu : Int)) (gcu : T.2.2.2 cu = some 27) : wpc kt 1 60 [.ref r0, vI a1] T H (uq_60 r0 a1 cu T H) := by
  refine wp_enter e60 (Nat.le_of_ble_eq_true rfl) rfl ?_
  show wp _ _ 60 0 [(0, .ref r0), (1, vI a1)] [] _ H _
  refine wp_of e60 c60_0 (rw_iload_n (pc' := 1) (z := a1) rfl rfl ?_)
  refine wp_of e60 c60_1 (rw_if_lt (p1 := 19) (p2 := 4) (by decide) rfl ⟨i1.1, i1.2⟩ (fun c1005 => ?_) (fun c1005 => ?_))
  · refine wp_of e60 c60_19 (rw_iconst (pc' := 20) rfl ?_)
    exact wp_zreturn e60 c60_20 rfl (by omega) ⟨rfl, rfl, 0, rfl, ⟨by decide, by decide⟩, (Or.inr ⟨by omega, by omega⟩)⟩
  · refine wp_of e60 c60_4 (rw_iload_n (pc' := 5) (z := a1) rfl rfl ?_)
    refine wp_of e60 c60_5 (rw_aload_n (pc' := 6) (v := .ref r0) rfl rfl rfl ?_)
    refine wp_of e60 c60_6 (xg_K (pc' := 9) lf_0_51 hW g0 sh_1 (by decide) (by decide) rfl qcu rfl ?_)
    refine wp_of e60 c60_9 (xg_I (pc' := 12) lf_0_339 hW gcu sh_27 (by decide) (by decide) ty_27_7 rfl rfl (fun b1006 b1007 => ?_))
    refine wp_of e60 c60_12 (rw_icmp_ge (p1 := 19) (p2 := 15) (by decide) rfl ⟨i1.1, i1.2⟩ ⟨Int.le_trans (by decide) b1006, Int.le_trans b1007 (by decide)⟩ (fun c1008 => ?_) (fun c1008 => ?_))
    · refine wp_of e60 c60_19 (rw_iconst (pc' := 20) rfl ?_)
      exact wp_zreturn e60 c60_20 rfl (by omega) ⟨rfl, rfl, 0, rfl, ⟨by decide, by decide⟩, (Or.inr ⟨by omega, by omega⟩)⟩
    · refine wp_of e60 c60_15 (rw_iconst (pc' := 16) rfl ?_)
      refine wp_of e60 c60_16 (rw_goto (p1 := 20) (by decide) ?_)
      exact wp_zreturn e60 c60_20 rfl (by omega) ⟨rfl, rfl, 1, rfl, ⟨by decide, by decide⟩, (Or.inl ⟨by omega, by omega⟩)⟩
/-! StrikeAwake.isSpan(II)Z  -/
abbrev uq_57 (r0 : Nat) (a1 : Int) (a2 : Int) (cu : Nat) (e : xD) (d : xD) (n : Int) (T : wq_T) (H : wq_H) : Option Value → wq_T → wq_H → Prop := fun r T' H' => T = T' ∧ H = H' ∧ ∃ z : Int, some (vI z) = r ∧ (0 ≤ z ∧ z ≤ 1) ∧ (((z = 1) ∧ ((0 ≤ a1 ∧ a1 < d 0 3) ∧ 0 ≤ a2 ∧ a2 < ((xsp d (a1).toNat).length : Int))) ∨ ((z = 0) ∧ ((a1 < 0 ∨ d 0 3 ≤ a1) ∨ a2 < 0 ∨ ((xsp d (a1).toNat).length : Int) ≤ a2)))
set_option maxHeartbeats 4000000 in
theorem u_57 {kt : Nat → Option mc_E} {T : wq_T} {H : wq_H} {r0 : Nat} {a1 : Int} {a2 : Int} {cu : Nat} {e : xD} {d : xD} {n : Int} (hW : WT T H) (g0 : T.2.2.2 r0 = some 1) (i1 : (-2147483648) ≤ a1 ∧ a1 ≤ 2147483647) (i2 : (-2147483648) ≤ a2 ∧ a2 ≤ 2147483647) (qcu : H r0 6 = (cu : Int)) (gcu : T.2.2.2 cu = some 27) (p0 : e 0 3 = d 0 3) (p1 : e 0 0 = d 0 0) (hCU_cu : CU T H cu e d n) : wpc kt 2 57 [.ref r0, vI a1, vI a2] T H (uq_57 r0 a1 a2 cu e d n T H) := by
  refine wp_enter e57 (Nat.le_of_ble_eq_true rfl) rfl ?_
  show wp _ _ 57 0 [(0, .ref r0), (1, vI a1), (2, vI a2)] [] _ H _
  have u1027 := CU_k hCU_cu
  refine wp_of e57 c57_0 (rw_aload_n (pc' := 1) (v := .ref r0) rfl rfl rfl ?_)
  refine wp_of e57 c57_1 (rw_iload_n (pc' := 2) (z := a1) rfl rfl ?_)
  refine wp_of e57 c57_2 (xc_V (pc' := 5) (r := r0) (as := [vI a1]) (st := []) (lm_0_105) rfl rfl (Nat.le_of_ble_eq_true rfl) hW g0 sh_1 (by decide) rfl (by decide) (u_55  hW g0 ⟨i1.1, i1.2⟩ qcu gcu) (fun R1028 T1029 H1030 p1031 => ?_))
  obtain ⟨e1032, e1034, z1035, e1033, b1036, p1037⟩ := p1031
  subst e1032
  subst e1033
  subst e1034
  rcases p1037 with ⟨a1038, a1039⟩ | ⟨a1040, a1041⟩
  · show wp _ _ 57 5 [(0, .ref r0), (1, vI a1), (2, vI a2)] [vI z1035] _ H _
    refine wp_of e57 c57_5 (rw_if_eq (p1 := 32) (p2 := 8) (by decide) rfl ⟨Int.le_trans (by decide) b1036.1, Int.le_trans b1036.2 (by decide)⟩ (fun c1042 => ?_) (fun c1042 => ?_))
    · exfalso
      omega
    · refine wp_of e57 c57_8 (rw_iload_n (pc' := 9) (z := a2) rfl rfl ?_)
      refine wp_of e57 c57_9 (rw_if_lt (p1 := 32) (p2 := 12) (by decide) rfl ⟨i2.1, i2.2⟩ (fun c1043 => ?_) (fun c1043 => ?_))
      · refine wp_of e57 c57_32 (rw_iconst (pc' := 33) rfl ?_)
        exact wp_zreturn e57 c57_33 rfl (by omega) ⟨rfl, rfl, 0, rfl, ⟨by decide, by decide⟩, (Or.inr ⟨by omega, by omega⟩)⟩
      · refine wp_of e57 c57_12 (rw_iload_n (pc' := 13) (z := a2) rfl rfl ?_)
        refine wp_of e57 c57_13 (rw_aload_n (pc' := 14) (v := .ref r0) rfl rfl rfl ?_)
        refine wp_of e57 c57_14 (xg_K (pc' := 17) lf_0_51 hW g0 sh_1 (by decide) (by decide) rfl qcu rfl ?_)
        refine wp_of e57 c57_17 (xg_R (pc' := 20) lf_0_109 hW gcu sh_27 (by decide) (by decide) ty_27_0 rfl rfl (fun r1044 q1045 g1046 => ?_))
        refine wp_of e57 c57_20 (rw_iload_n (pc' := 21) (z := a1) rfl rfl ?_)
        refine wp_of e57 c57_21 (xa_R (pc' := 22) (by decide) hW g1046 sh_28 (by decide) (ty_28 _) (by omega) (by omega) rfl (fun r1047 q1048 g1049 => ?_))
        have _z := CS_at (hCU_cu).2.1 q1045 q1048 (k := (a1).toNat) (by omega) (by omega)
        have _l := @xsp_len d (a1).toNat (hCU_cu).2.1.1
        have h1050 : PS T H r1047 d (a1).toNat (xsp d (a1).toNat) := _z.1
        have _n := h1050.1
        refine wp_of e57 c57_22 (xg_I (pc' := 25) lf_0_113 hW g1049 sh_35 (by decide) (by decide) ty_35_15 rfl rfl (fun b1051 b1052 => ?_))
        refine wp_of e57 c57_25 (rw_icmp_ge (p1 := 32) (p2 := 28) (by decide) rfl ⟨i2.1, i2.2⟩ ⟨Int.le_trans (by decide) b1051, Int.le_trans b1052 (by decide)⟩ (fun c1053 => ?_) (fun c1053 => ?_))
        · refine wp_of e57 c57_32 (rw_iconst (pc' := 33) rfl ?_)
          exact wp_zreturn e57 c57_33 rfl (by omega) ⟨rfl, rfl, 0, rfl, ⟨by decide, by decide⟩, (Or.inr ⟨by omega, by omega⟩)⟩
        · refine wp_of e57 c57_28 (rw_iconst (pc' := 29) rfl ?_)
          refine wp_of e57 c57_29 (rw_goto (p1 := 33) (by decide) ?_)
          exact wp_zreturn e57 c57_33 rfl (by omega) ⟨rfl, rfl, 1, rfl, ⟨by decide, by decide⟩, (Or.inl ⟨by omega, by omega⟩)⟩
  · show wp _ _ 57 5 [(0, .ref r0), (1, vI a1), (2, vI a2)] [vI z1035] _ H _
    refine wp_of e57 c57_5 (rw_if_eq (p1 := 32) (p2 := 8) (by decide) rfl ⟨Int.le_trans (by decide) b1036.1, Int.le_trans b1036.2 (by decide)⟩ (fun c1054 => ?_) (fun c1054 => ?_))
    · refine wp_of e57 c57_32 (rw_iconst (pc' := 33) rfl ?_)
      exact wp_zreturn e57 c57_33 rfl (by omega) ⟨rfl, rfl, 0, rfl, ⟨by decide, by decide⟩, (Or.inr ⟨by omega, by omega⟩)⟩
    · exfalso
      omega
/-! StrikeAwake.say(II)Z  -/
abbrev uq_62 (r0 : Nat) (a1 : Int) (a2 : Int) (cu : Nat) (e : xD) (d : xD) (n : Int) (nY : Int) (gY : Nat → Int) (cY : Int) (T : wq_T) (H : wq_H) : Option Value → wq_T → wq_H → Prop := fun r T' H' => T = T' ∧ WT T H' ∧ wfr [(35, 16), (1, 10)] T H H' ∧ ∃ z : Int, some (vI z) = r ∧ (0 ≤ z ∧ z ≤ 1) ∧ (((z = 1) ∧ ((0 ≤ a1 ∧ a1 < d 0 3) ∧ 0 ≤ a2 ∧ a2 < ((xsp d (a1).toNat).length : Int)) ∧ (SG d (xup gY (a1).toNat a2)) ∧ CY T H' cu nY (xup gY (a1).toNat a2) cY) ∨ ((z = 0) ∧ ((a1 < 0 ∨ d 0 3 ≤ a1) ∨ a2 < 0 ∨ ((xsp d (a1).toNat).length : Int) ≤ a2) ∧ CY T H' cu nY gY cY))
set_option maxHeartbeats 4000000 in
theorem u_62 {kt : Nat → Option mc_E} {T : wq_T} {H : wq_H} {r0 : Nat} {a1 : Int} {a2 : Int} {cu : Nat} {e : xD} {d : xD} {n : Int} {nY : Int} {gY : Nat → Int} {cY : Int} (hW : WT T H) (g0 : T.2.2.2 r0 = some 1) (i1 : (-2147483648) ≤ a1 ∧ a1 ≤ 2147483647) (i2 : (-2147483648) ≤ a2 ∧ a2 ≤ 2147483647) (qcu : H r0 6 = (cu : Int)) (gcu : T.2.2.2 cu = some 27) (p0 : e 0 3 = d 0 3) (p1 : e 0 0 = d 0 0) (p2 : nY = d 0 3) (p3 : SG d gY) (hCU_cu : CU T H cu e d n) (hCY_cu : CY T H cu nY gY cY) (hDD_cu : DD T H cu ) : wpc kt 3 62 [.ref r0, vI a1, vI a2] T H (uq_62 r0 a1 a2 cu e d n nY gY cY T H) := by
  refine wp_enter e62 (Nat.le_of_ble_eq_true rfl) rfl ?_
  have f0 : wfr [(35, 16), (1, 10)] T H H := wfr.rf
  show wp _ _ 62 0 [(0, .ref r0), (1, vI a1), (2, vI a2)] [] _ H _
  have u1056 := CU_k hCU_cu
  have _xl := @xsp_len d (a1).toNat hCU_cu.2.1.1
  refine wp_of e62 c62_0 (rw_aload_n (pc' := 1) (v := .ref r0) rfl rfl rfl ?_)
  refine wp_of e62 c62_1 (rw_iload_n (pc' := 2) (z := a1) rfl rfl ?_)
  refine wp_of e62 c62_2 (rw_iload_n (pc' := 3) (z := a2) rfl rfl ?_)
  refine wp_of e62 c62_3 (xc_V (pc' := 6) (r := r0) (as := [vI a1, vI a2]) (st := []) (lm_0_118) rfl rfl (Nat.le_of_ble_eq_true rfl) hW g0 sh_1 (by decide) rfl (by decide) (u_57 (e := e) (d := d) (n := n) hW g0 ⟨i1.1, i1.2⟩ ⟨i2.1, i2.2⟩ qcu gcu (by omega) (by omega) hCU_cu) (fun R1057 T1058 H1059 p1060 => ?_))
  obtain ⟨e1061, e1063, z1064, e1062, b1065, p1066⟩ := p1060
  subst e1061
  subst e1062
  subst e1063
  rcases p1066 with ⟨a1067, a1068⟩ | ⟨a1069, a1070⟩
  · show wp _ _ 62 6 [(0, .ref r0), (1, vI a1), (2, vI a2)] [vI z1064] _ H _
    refine wp_of e62 c62_6 (rw_if_ne (p1 := 15) (p2 := 9) (by decide) rfl ⟨Int.le_trans (by decide) b1065.1, Int.le_trans b1065.2 (by decide)⟩ (fun c1071 => ?_) (fun c1071 => ?_))
    · refine wp_of e62 c62_15 (rw_aload_n (pc' := 16) (v := .ref r0) rfl rfl rfl ?_)
      refine wp_of e62 c62_16 (xg_K (pc' := 19) lf_0_51 hW g0 sh_1 (by decide) (by decide) rfl qcu rfl ?_)
      refine wp_of e62 c62_19 (xg_R (pc' := 22) lf_0_109 hW gcu sh_27 (by decide) (by decide) ty_27_0 rfl rfl (fun r1072 q1073 g1074 => ?_))
      refine wp_of e62 c62_22 (rw_iload_n (pc' := 23) (z := a1) rfl rfl ?_)
      refine wp_of e62 c62_23 (xa_R (pc' := 24) (by decide) hW g1074 sh_28 (by decide) (ty_28 _) (by omega) (by omega) rfl (fun r1075 q1076 g1077 => ?_))
      refine wp_of e62 c62_24 (rw_iload_n (pc' := 25) (z := a2) rfl rfl ?_)
      refine wp_of e62 c62_25 (xp_I (pc' := 28) lf_0_148 hW g1077 sh_35 (by decide) (by decide) ty_35_16 rfl rfl (by omega) (by omega) ⟨i2.1, i2.2⟩ rfl (fun H1078 e1079 w1080 => ?_))
      have f1081 := f0.put' e1079 g1077 rfl
      have k1082 : H1078 r1075 16 = a2 := wq_u_s e1079
      have h1083 : CY T H1078 cu nY (xup gY (a1).toNat a2) cY := CY_put hDD_cu q1073 g1074 gcu q1076 g1077 (k := (a1).toNat) (by omega) (by omega) e1079 hCY_cu
      refine wp_of e62 c62_28 (rw_aload_n (pc' := 29) (v := .ref r0) rfl rfl rfl ?_)
      refine wp_of e62 c62_29 (xc_V (pc' := 32) (r := r0) (as := []) (st := []) (lm_0_151) rfl rfl (Nat.le_of_ble_eq_true rfl) w1080 g0 sh_1 (by decide) rfl (by decide) (u_64  w1080 g0) (fun R1084 T1085 H1086 p1087 => ?_))
      obtain ⟨e1088, w1090, f1091, z1092, e1089, b1093, p1094⟩ := p1087
      subst e1088
      subst e1089
      obtain ⟨a1095, a1096⟩ := p1094
      have f1097 := f1081.tr f1091 rfl
      show wp _ _ 62 32 [(0, .ref r0), (1, vI a1), (2, vI a2)] [vI z1092] _ H1086 _
      have h1098 : CY T H1086 cu nY (xup gY (a1).toNat a2) cY := (CY_fr w1080 gcu f1091 rfl h1083)
      exact wp_zreturn e62 c62_32 rfl (by omega) ⟨rfl, w1090, f1097, z1092, rfl, ⟨b1093.1, b1093.2⟩, (Or.inl ⟨by omega, by omega, SG_up (by assumption) (by omega) (by omega), h1098⟩)⟩
    · exfalso
      omega
  · show wp _ _ 62 6 [(0, .ref r0), (1, vI a1), (2, vI a2)] [vI z1064] _ H _
    refine wp_of e62 c62_6 (rw_if_ne (p1 := 15) (p2 := 9) (by decide) rfl ⟨Int.le_trans (by decide) b1065.1, Int.le_trans b1065.2 (by decide)⟩ (fun c1099 => ?_) (fun c1099 => ?_))
    · exfalso
      omega
    · refine wp_of e62 c62_9 (rw_aload_n (pc' := 10) (v := .ref r0) rfl rfl rfl ?_)
      refine wp_of e62 c62_10 (rw_iconst (pc' := 11) rfl ?_)
      refine wp_of e62 c62_11 (xc_V (pc' := 14) (r := r0) (as := [vI 1]) (st := []) (lm_0_145) rfl rfl (Nat.le_of_ble_eq_true rfl) hW g0 sh_1 (by decide) rfl (by decide) (u_63  hW g0 ⟨by decide, by decide⟩) (fun R1100 T1101 H1102 p1103 => ?_))
      obtain ⟨e1104, w1106, f1107, z1108, e1105, b1109, p1110⟩ := p1103
      subst e1104
      subst e1105
      obtain ⟨a1111, a1112⟩ := p1110
      have f1113 := f0.tr f1107 rfl
      show wp _ _ 62 14 [(0, .ref r0), (1, vI a1), (2, vI a2)] [vI z1108] _ H1102 _
      have h1114 : CY T H1102 cu nY gY cY := (CY_fr hW gcu f1107 rfl hCY_cu)
      exact wp_zreturn e62 c62_14 rfl (by omega) ⟨rfl, w1106, f1113, z1108, rfl, ⟨b1109.1, b1109.2⟩, (Or.inr ⟨by omega, by omega, h1114⟩)⟩
/-! StrikeAwake.strike(II)I  -/
abbrev uq_153 (r0 : Nat) (a1 : Int) (a2 : Int) (cu : Nat) (e : xD) (d : xD) (n : Int) (y : Int) (w : Int) (T : wq_T) (H : wq_H) : Option Value → wq_T → wq_H → Prop := fun r T' H' => T = T' ∧ WT T H' ∧ wfr [(12, 9), (27, 16), (1, 10), (29, 999), (30, 999)] T H H' ∧ ∃ z : Int, some (vI z) = r ∧ ((-2147483648) ≤ z ∧ z ≤ 2147483647) ∧ (((z = -1) ∧ ((y < 0 ∨ d 0 0 ≤ y) ∨ a2 < 0 ∨ 99 < a2) ∧ CU T H' cu e d n) ∨ ((0 ≤ z ∧ z ≤ 24) ∧ ((0 ≤ y ∧ y < d 0 0) ∧ 0 ≤ a2 ∧ a2 ≤ 99) ∧ (z = xcn ((wq_u e 13 (y).toNat w) 13) 24) ∧ CU T H' cu (wq_u e 13 (y).toNat w) d n))
set_option maxHeartbeats 4000000 in
theorem u_153 {kt : Nat → Option mc_E} {T : wq_T} {H : wq_H} {r0 : Nat} {a1 : Int} {a2 : Int} {cu : Nat} {e : xD} {d : xD} {n : Int} {y : Int} {w : Int} (hW : WT T H) (g0 : T.2.2.2 r0 = some 1) (i1 : (-2147483648) ≤ a1 ∧ a1 ≤ 2147483647) (i2 : (-2147483648) ≤ a2 ∧ a2 ≤ 2147483647) (qcu : H r0 6 = (cu : Int)) (gcu : T.2.2.2 cu = some 27) (p0 : e 0 3 = d 0 3) (p1 : e 0 0 = d 0 0) (p2 : a1 = y) (p3 : w = a2 + 1) (hCU_cu : CU T H cu e d n) : wpc kt 3 153 [.ref r0, vI a1, vI a2] T H (uq_153 r0 a1 a2 cu e d n y w T H) := by
  refine wp_enter e153 (Nat.le_of_ble_eq_true rfl) rfl ?_
  have f0 : wfr [(12, 9), (27, 16), (1, 10), (29, 999), (30, 999)] T H H := wfr.rf
  show wp _ _ 153 0 [(0, .ref r0), (1, vI a1), (2, vI a2)] [] _ H _
  have u1105 := CU_k hCU_cu
  have b1106 : 0 ≤ H cu 7 ∧ H cu 7 ≤ 24 := hW.box gcu (n := 19) rfl (by decide) rfl
  have h1107 : DC T H cu e := hCU_cu.1
  have h1108 : CS T H cu d 0 := hCU_cu.2.1
  refine wp_of e153 c153_0 (rw_aload_n (pc' := 1) (v := .ref r0) rfl rfl rfl ?_)
  refine wp_of e153 c153_1 (rw_iload_n (pc' := 2) (z := a1) rfl rfl ?_)
  refine wp_of e153 c153_2 (xc_V (pc' := 5) (r := r0) (as := [vI a1]) (st := []) (lm_0_132) rfl rfl (Nat.le_of_ble_eq_true rfl) hW g0 sh_1 (by decide) rfl (by decide) (u_60  hW g0 ⟨i1.1, i1.2⟩ qcu gcu) (fun R1109 T1110 H1111 p1112 => ?_))
  obtain ⟨e1113, e1115, z1116, e1114, b1117, p1118⟩ := p1112
  subst e1113
  subst e1114
  subst e1115
  rcases p1118 with ⟨a1119, a1120⟩ | ⟨a1121, a1122⟩
  · show wp _ _ 153 5 [(0, .ref r0), (1, vI a1), (2, vI a2)] [vI z1116] _ H _
    refine wp_of e153 c153_5 (rw_if_ne (p1 := 14) (p2 := 8) (by decide) rfl ⟨Int.le_trans (by decide) b1117.1, Int.le_trans b1117.2 (by decide)⟩ (fun c1123 => ?_) (fun c1123 => ?_))
    · refine wp_of e153 c153_14 (rw_iload_n (pc' := 15) (z := a2) rfl rfl ?_)
      refine wp_of e153 c153_15 (rw_if_lt (p1 := 24) (p2 := 18) (by decide) rfl ⟨i2.1, i2.2⟩ (fun c1124 => ?_) (fun c1124 => ?_))
      · refine wp_of e153 c153_24 (rw_aload_n (pc' := 25) (v := .ref r0) rfl rfl rfl ?_)
        refine wp_of e153 c153_25 (rw_iconst (pc' := 26) rfl ?_)
        refine wp_of e153 c153_26 (xc_V (pc' := 29) (r := r0) (as := [vI 2]) (st := []) (lm_0_70) rfl rfl (Nat.le_of_ble_eq_true rfl) hW g0 sh_1 (by decide) rfl (by decide) (u_12  hW g0 ⟨by decide, by decide⟩) (fun R1125 T1126 H1127 p1128 => ?_))
        obtain ⟨e1129, w1131, f1132, z1133, e1130, b1134, p1135⟩ := p1128
        subst e1129
        subst e1130
        obtain ⟨a1136, a1137⟩ := p1135
        have f1138 := f0.tr f1132 rfl
        show wp _ _ 153 29 [(0, .ref r0), (1, vI a1), (2, vI a2)] [vI z1133] _ H1127 _
        have h1139 : CU T H1127 cu e d n := (CU_fr hW gcu f1132 rfl hCU_cu)
        exact wp_ireturn e153 c153_29 rfl ⟨rfl, w1131, f1138, z1133, rfl, ⟨b1134.1, b1134.2⟩, (Or.inl ⟨by omega, by omega, h1139⟩)⟩
      · refine wp_of e153 c153_18 (rw_iload_n (pc' := 19) (z := a2) rfl rfl ?_)
        refine wp_of e153 c153_19 (rw_bipush (pc' := 21) (z := 99) rfl (by decide) ?_)
        refine wp_of e153 c153_21 (rw_icmp_le (p1 := 30) (p2 := 24) (by decide) rfl ⟨i2.1, i2.2⟩ ⟨by decide, by decide⟩ (fun c1140 => ?_) (fun c1140 => ?_))
        · refine wp_of e153 c153_30 (rw_aload_n (pc' := 31) (v := .ref r0) rfl rfl rfl ?_)
          refine wp_of e153 c153_31 (xg_K (pc' := 34) lf_0_51 hW g0 sh_1 (by decide) (by decide) rfl qcu rfl ?_)
          refine wp_of e153 c153_34 (rw_iload_n (pc' := 35) (z := a1) rfl rfl ?_)
          refine wp_of e153 c153_35 (rw_iload_n (pc' := 36) (z := a2) rfl rfl ?_)
          refine wp_of e153 c153_36 (xc_V (pc' := 39) (r := cu) (as := [vI a1, vI a2]) (st := []) (lm_0_291) rfl rfl (Nat.le_of_ble_eq_true rfl) hW gcu sh_27 (by decide) rfl (by decide) (u_40 (d := e) (w := w) (y := y) hW gcu ⟨by omega, by omega⟩ ⟨by omega, by omega⟩ (by omega) (by omega) h1107) (fun R1141 T1142 H1143 p1144 => ?_))
          obtain ⟨e1145, w1147, f1148, e1146, p1149⟩ := p1144
          subst e1145
          subst e1146
          have f1151 := f0.tr f1148 rfl
          show wp _ _ 153 39 [(0, .ref r0), (1, vI a1), (2, vI a2)] [] _ H1143 _
          have u1152 := DC_k p1149
          refine wp_of e153 c153_39 (rw_aload_n (pc' := 40) (v := .ref r0) rfl rfl rfl ?_)
          refine wp_of e153 c153_40 (xg_R (pc' := 43) lf_0_30 w1147 g0 sh_1 (by decide) (by decide) ty_1_3 rfl rfl (fun r1153 q1154 g1155 => ?_))
          refine wp_of e153 c153_43 (xc_V (pc' := 46) (r := r1153) (as := []) (st := []) (lm_0_93) rfl rfl (Nat.le_of_ble_eq_true rfl) w1147 g1155 sh_12 (by decide) rfl (by decide) (s_50 w1147 g1155) (fun R1156 T1157 H1158 p1159 => ?_))
          obtain ⟨e1160, w1162, f1163, e1161⟩ := p1159
          subst e1160
          subst e1161
          have f1164 := f1151.tr f1163 rfl
          show wp _ _ 153 46 [(0, .ref r0), (1, vI a1), (2, vI a2)] [] _ H1158 _
          refine wp_of e153 c153_46 (rw_aload_n (pc' := 47) (v := .ref r0) rfl rfl rfl ?_)
          refine wp_of e153 c153_47 (rw_aload_n (pc' := 48) (v := .ref r0) rfl rfl rfl ?_)
          have k1165 : H1158 r0 6 = H r0 6 := ((f1163 r0 6 _ g0 rfl).trans (f1148 r0 6 _ g0 rfl))
          have q1166 : H1158 r0 6 = (cu : Int) := k1165.trans qcu
          refine wp_of e153 c153_48 (xg_K (pc' := 51) lf_0_51 w1162 g0 sh_1 (by decide) (by decide) rfl q1166 rfl ?_)
          have k1167 : H1158 cu 16 = H1143 cu 16 := (f1163 cu 16 _ gcu rfl)
          refine wp_of e153 c153_51 (xg_I (pc' := 54) lf_0_295 w1162 gcu sh_27 (by decide) (by decide) ty_27_16 rfl rfl (fun b1168 b1169 => ?_))
          refine wp_of e153 c153_54 (xc_V (pc' := 57) (r := r0) (as := [vI (H1158 cu 16)]) (st := []) (lm_0_99) rfl rfl (Nat.le_of_ble_eq_true rfl) w1162 g0 sh_1 (by decide) rfl (by decide) (u_51  w1162 g0 ⟨Int.le_trans (by decide) b1168, Int.le_trans b1169 (by decide)⟩) (fun R1170 T1171 H1172 p1173 => ?_))
          obtain ⟨e1174, w1176, f1177, z1178, e1175, b1179, p1180⟩ := p1173
          subst e1174
          subst e1175
          obtain ⟨a1181, a1182⟩ := p1180
          have f1183 := f1164.tr f1177 rfl
          show wp _ _ 153 57 [(0, .ref r0), (1, vI a1), (2, vI a2)] [vI z1178] _ H1172 _
          have k1184 : H1172 cu 18 = H cu 18 := ((f1177 cu 18 _ gcu rfl).trans ((f1163 cu 18 _ gcu rfl).trans (f1148 cu 18 _ gcu rfl)))
          have h1185 : DC T H1172 cu (wq_u e 13 y.toNat w) := (DC_fr w1162 gcu f1177 rfl (DC_fr w1147 gcu f1163 rfl p1149))
          have h1186 : CS T H1172 cu d 0 := (CS_fr w1162 gcu f1177 rfl (CS_fr w1147 gcu f1163 rfl (CS_fr hW gcu f1148 rfl h1108)))
          exact wp_ireturn e153 c153_57 rfl ⟨rfl, w1176, f1183, z1178, rfl, ⟨b1179.1, b1179.2⟩, (Or.inr ⟨by omega, by omega, by omega, ⟨h1185, h1186, by omega⟩⟩)⟩
        · refine wp_of e153 c153_24 (rw_aload_n (pc' := 25) (v := .ref r0) rfl rfl rfl ?_)
          refine wp_of e153 c153_25 (rw_iconst (pc' := 26) rfl ?_)
          refine wp_of e153 c153_26 (xc_V (pc' := 29) (r := r0) (as := [vI 2]) (st := []) (lm_0_70) rfl rfl (Nat.le_of_ble_eq_true rfl) hW g0 sh_1 (by decide) rfl (by decide) (u_12  hW g0 ⟨by decide, by decide⟩) (fun R1187 T1188 H1189 p1190 => ?_))
          obtain ⟨e1191, w1193, f1194, z1195, e1192, b1196, p1197⟩ := p1190
          subst e1191
          subst e1192
          obtain ⟨a1198, a1199⟩ := p1197
          have f1200 := f0.tr f1194 rfl
          show wp _ _ 153 29 [(0, .ref r0), (1, vI a1), (2, vI a2)] [vI z1195] _ H1189 _
          have h1201 : CU T H1189 cu e d n := (CU_fr hW gcu f1194 rfl hCU_cu)
          exact wp_ireturn e153 c153_29 rfl ⟨rfl, w1193, f1200, z1195, rfl, ⟨b1196.1, b1196.2⟩, (Or.inl ⟨by omega, by omega, h1201⟩)⟩
    · exfalso
      omega
  · show wp _ _ 153 5 [(0, .ref r0), (1, vI a1), (2, vI a2)] [vI z1116] _ H _
    refine wp_of e153 c153_5 (rw_if_ne (p1 := 14) (p2 := 8) (by decide) rfl ⟨Int.le_trans (by decide) b1117.1, Int.le_trans b1117.2 (by decide)⟩ (fun c1202 => ?_) (fun c1202 => ?_))
    · exfalso
      omega
    · refine wp_of e153 c153_8 (rw_aload_n (pc' := 9) (v := .ref r0) rfl rfl rfl ?_)
      refine wp_of e153 c153_9 (rw_iconst (pc' := 10) rfl ?_)
      refine wp_of e153 c153_10 (xc_V (pc' := 13) (r := r0) (as := [vI 1]) (st := []) (lm_0_70) rfl rfl (Nat.le_of_ble_eq_true rfl) hW g0 sh_1 (by decide) rfl (by decide) (u_12  hW g0 ⟨by decide, by decide⟩) (fun R1203 T1204 H1205 p1206 => ?_))
      obtain ⟨e1207, w1209, f1210, z1211, e1208, b1212, p1213⟩ := p1206
      subst e1207
      subst e1208
      obtain ⟨a1214, a1215⟩ := p1213
      have f1216 := f0.tr f1210 rfl
      show wp _ _ 153 13 [(0, .ref r0), (1, vI a1), (2, vI a2)] [vI z1211] _ H1205 _
      have h1217 : CU T H1205 cu e d n := (CU_fr hW gcu f1210 rfl hCU_cu)
      exact wp_ireturn e153 c153_13 rfl ⟨rfl, w1209, f1216, z1211, rfl, ⟨b1212.1, b1212.2⟩, (Or.inl ⟨by omega, by omega, h1217⟩)⟩
/-! StrikeAwake.still(I)Z  -/
abbrev uq_154 (r0 : Nat) (a1 : Int) (cu : Nat) (e : xD) (d : xD) (n : Int) (y : Int) (T : wq_T) (H : wq_H) : Option Value → wq_T → wq_H → Prop := fun r T' H' => T = T' ∧ WT T H' ∧ wfr [(12, 9), (27, 16), (1, 10), (29, 999), (30, 999)] T H H' ∧ ∃ z : Int, some (vI z) = r ∧ (0 ≤ z ∧ z ≤ 1) ∧ (((z = 1) ∧ (0 ≤ y ∧ y < d 0 0) ∧ (e 13 (y).toNat > 0) ∧ CU T H' cu (wq_u e 13 (y).toNat 0) d n) ∨ ((z = 0) ∧ ((y < 0 ∨ d 0 0 ≤ y) ∨ e 13 (y).toNat ≤ 0) ∧ CU T H' cu e d n))
set_option maxHeartbeats 4000000 in
theorem u_154 {kt : Nat → Option mc_E} {T : wq_T} {H : wq_H} {r0 : Nat} {a1 : Int} {cu : Nat} {e : xD} {d : xD} {n : Int} {y : Int} (hW : WT T H) (g0 : T.2.2.2 r0 = some 1) (i1 : (-2147483648) ≤ a1 ∧ a1 ≤ 2147483647) (qcu : H r0 6 = (cu : Int)) (gcu : T.2.2.2 cu = some 27) (p0 : e 0 3 = d 0 3) (p1 : e 0 0 = d 0 0) (p2 : a1 = y) (hCU_cu : CU T H cu e d n) : wpc kt 3 154 [.ref r0, vI a1] T H (uq_154 r0 a1 cu e d n y T H) := by
  refine wp_enter e154 (Nat.le_of_ble_eq_true rfl) rfl ?_
  have f0 : wfr [(12, 9), (27, 16), (1, 10), (29, 999), (30, 999)] T H H := wfr.rf
  show wp _ _ 154 0 [(0, .ref r0), (1, vI a1)] [] _ H _
  have u1091 := CU_k hCU_cu
  have b1092 : 0 ≤ H cu 7 ∧ H cu 7 ≤ 24 := hW.box gcu (n := 19) rfl (by decide) rfl
  have h1093 : DC T H cu e := hCU_cu.1
  have h1094 : CS T H cu d 0 := hCU_cu.2.1
  have h1095 : ST T H cu (e 13) := hCU_cu.1.2.2.1
  refine wp_of e154 c154_0 (rw_aload_n (pc' := 1) (v := .ref r0) rfl rfl rfl ?_)
  refine wp_of e154 c154_1 (rw_iload_n (pc' := 2) (z := a1) rfl rfl ?_)
  refine wp_of e154 c154_2 (xc_V (pc' := 5) (r := r0) (as := [vI a1]) (st := []) (lm_0_132) rfl rfl (Nat.le_of_ble_eq_true rfl) hW g0 sh_1 (by decide) rfl (by decide) (u_60  hW g0 ⟨i1.1, i1.2⟩ qcu gcu) (fun R1096 T1097 H1098 p1099 => ?_))
  obtain ⟨e1100, e1102, z1103, e1101, b1104, p1105⟩ := p1099
  subst e1100
  subst e1101
  subst e1102
  rcases p1105 with ⟨a1106, a1107⟩ | ⟨a1108, a1109⟩
  · show wp _ _ 154 5 [(0, .ref r0), (1, vI a1)] [vI z1103] _ H _
    refine wp_of e154 c154_5 (rw_if_eq (p1 := 20) (p2 := 8) (by decide) rfl ⟨Int.le_trans (by decide) b1104.1, Int.le_trans b1104.2 (by decide)⟩ (fun c1110 => ?_) (fun c1110 => ?_))
    · exfalso
      omega
    · have _ty : (a1).toNat = (y).toNat := by rw [p2]
      refine wp_of e154 c154_8 (rw_aload_n (pc' := 9) (v := .ref r0) rfl rfl rfl ?_)
      refine wp_of e154 c154_9 (xg_K (pc' := 12) lf_0_51 hW g0 sh_1 (by decide) (by decide) rfl qcu rfl ?_)
      refine wp_of e154 c154_12 (xg_R (pc' := 15) lf_0_262 hW gcu sh_27 (by decide) (by decide) ty_27_1 rfl rfl (fun r1111 q1112 g1113 => ?_))
      refine wp_of e154 c154_15 (rw_iload_n (pc' := 16) (z := a1) rfl rfl ?_)
      refine wp_of e154 c154_16 (xa_I (so := 0) (pc' := 17) hW g1113 sh_29 (by decide) (ty_29 _) (by omega) (by omega) rfl (fun b1114 b1115 => ?_))
      have := ST_at h1095 q1112 (k := (a1.toNat)) (by omega)
      have _tz : e 13 (a1.toNat) = e 13 (y).toNat := by rw [← p2]
      refine wp_of e154 c154_17 (rw_if_ge (p1 := 26) (p2 := 20) (by decide) rfl ⟨b1114, b1115⟩ (fun c1116 => ?_) (fun c1116 => ?_))
      · refine wp_of e154 c154_26 (rw_aload_n (pc' := 27) (v := .ref r0) rfl rfl rfl ?_)
        refine wp_of e154 c154_27 (xg_K (pc' := 30) lf_0_51 hW g0 sh_1 (by decide) (by decide) rfl qcu rfl ?_)
        refine wp_of e154 c154_30 (rw_iload_n (pc' := 31) (z := a1) rfl rfl ?_)
        refine wp_of e154 c154_31 (rw_bipush (pc' := 33) (z := -2) rfl (by decide) ?_)
        refine wp_of e154 c154_33 (xc_V (pc' := 36) (r := cu) (as := [vI a1, vI (-2)]) (st := []) (lm_0_291) rfl rfl (Nat.le_of_ble_eq_true rfl) hW gcu sh_27 (by decide) rfl (by decide) (u_40 (d := e) (w := 0) (y := y) hW gcu ⟨by omega, by omega⟩ ⟨by decide, by decide⟩ (by omega) (by omega) h1093) (fun R1117 T1118 H1119 p1120 => ?_))
        obtain ⟨e1121, w1123, f1124, e1122, p1125⟩ := p1120
        subst e1121
        subst e1122
        have f1127 := f0.tr f1124 rfl
        show wp _ _ 154 36 [(0, .ref r0), (1, vI a1)] [] _ H1119 _
        have u1128 := DC_k p1125
        refine wp_of e154 c154_36 (rw_aload_n (pc' := 37) (v := .ref r0) rfl rfl rfl ?_)
        refine wp_of e154 c154_37 (xg_R (pc' := 40) lf_0_30 w1123 g0 sh_1 (by decide) (by decide) ty_1_3 rfl rfl (fun r1129 q1130 g1131 => ?_))
        refine wp_of e154 c154_40 (xc_V (pc' := 43) (r := r1129) (as := []) (st := []) (lm_0_93) rfl rfl (Nat.le_of_ble_eq_true rfl) w1123 g1131 sh_12 (by decide) rfl (by decide) (s_50 w1123 g1131) (fun R1132 T1133 H1134 p1135 => ?_))
        obtain ⟨e1136, w1138, f1139, e1137⟩ := p1135
        subst e1136
        subst e1137
        have f1140 := f1127.tr f1139 rfl
        show wp _ _ 154 43 [(0, .ref r0), (1, vI a1)] [] _ H1134 _
        refine wp_of e154 c154_43 (rw_aload_n (pc' := 44) (v := .ref r0) rfl rfl rfl ?_)
        refine wp_of e154 c154_44 (xc_V (pc' := 47) (r := r0) (as := []) (st := []) (lm_0_151) rfl rfl (Nat.le_of_ble_eq_true rfl) w1138 g0 sh_1 (by decide) rfl (by decide) (u_64  w1138 g0) (fun R1141 T1142 H1143 p1144 => ?_))
        obtain ⟨e1145, w1147, f1148, z1149, e1146, b1150, p1151⟩ := p1144
        subst e1145
        subst e1146
        obtain ⟨a1152, a1153⟩ := p1151
        have f1154 := f1140.tr f1148 rfl
        show wp _ _ 154 47 [(0, .ref r0), (1, vI a1)] [vI z1149] _ H1143 _
        have k1155 : H1143 cu 18 = H cu 18 := ((f1148 cu 18 _ gcu rfl).trans ((f1139 cu 18 _ gcu rfl).trans (f1124 cu 18 _ gcu rfl)))
        have h1156 : DC T H1143 cu (wq_u e 13 y.toNat 0) := (DC_fr w1138 gcu f1148 rfl (DC_fr w1123 gcu f1139 rfl p1125))
        have h1157 : CS T H1143 cu d 0 := (CS_fr w1138 gcu f1148 rfl (CS_fr w1123 gcu f1139 rfl (CS_fr hW gcu f1124 rfl h1094)))
        exact wp_zreturn e154 c154_47 rfl (by omega) ⟨rfl, w1147, f1154, z1149, rfl, ⟨b1150.1, b1150.2⟩, (Or.inl ⟨by omega, by omega, by omega, ⟨h1156, h1157, by omega⟩⟩)⟩
      · refine wp_of e154 c154_20 (rw_aload_n (pc' := 21) (v := .ref r0) rfl rfl rfl ?_)
        refine wp_of e154 c154_21 (rw_iconst (pc' := 22) rfl ?_)
        refine wp_of e154 c154_22 (xc_V (pc' := 25) (r := r0) (as := [vI 1]) (st := []) (lm_0_145) rfl rfl (Nat.le_of_ble_eq_true rfl) hW g0 sh_1 (by decide) rfl (by decide) (u_63  hW g0 ⟨by decide, by decide⟩) (fun R1158 T1159 H1160 p1161 => ?_))
        obtain ⟨e1162, w1164, f1165, z1166, e1163, b1167, p1168⟩ := p1161
        subst e1162
        subst e1163
        obtain ⟨a1169, a1170⟩ := p1168
        have f1171 := f0.tr f1165 rfl
        show wp _ _ 154 25 [(0, .ref r0), (1, vI a1)] [vI z1166] _ H1160 _
        have h1172 : CU T H1160 cu e d n := (CU_fr hW gcu f1165 rfl hCU_cu)
        exact wp_zreturn e154 c154_25 rfl (by omega) ⟨rfl, w1164, f1171, z1166, rfl, ⟨b1167.1, b1167.2⟩, (Or.inr ⟨by omega, by omega, h1172⟩)⟩
  · show wp _ _ 154 5 [(0, .ref r0), (1, vI a1)] [vI z1103] _ H _
    refine wp_of e154 c154_5 (rw_if_eq (p1 := 20) (p2 := 8) (by decide) rfl ⟨Int.le_trans (by decide) b1104.1, Int.le_trans b1104.2 (by decide)⟩ (fun c1173 => ?_) (fun c1173 => ?_))
    · refine wp_of e154 c154_20 (rw_aload_n (pc' := 21) (v := .ref r0) rfl rfl rfl ?_)
      refine wp_of e154 c154_21 (rw_iconst (pc' := 22) rfl ?_)
      refine wp_of e154 c154_22 (xc_V (pc' := 25) (r := r0) (as := [vI 1]) (st := []) (lm_0_145) rfl rfl (Nat.le_of_ble_eq_true rfl) hW g0 sh_1 (by decide) rfl (by decide) (u_63  hW g0 ⟨by decide, by decide⟩) (fun R1174 T1175 H1176 p1177 => ?_))
      obtain ⟨e1178, w1180, f1181, z1182, e1179, b1183, p1184⟩ := p1177
      subst e1178
      subst e1179
      obtain ⟨a1185, a1186⟩ := p1184
      have f1187 := f0.tr f1181 rfl
      show wp _ _ 154 25 [(0, .ref r0), (1, vI a1)] [vI z1182] _ H1176 _
      have h1188 : CU T H1176 cu e d n := (CU_fr hW gcu f1181 rfl hCU_cu)
      exact wp_zreturn e154 c154_25 rfl (by omega) ⟨rfl, w1180, f1187, z1182, rfl, ⟨b1183.1, b1183.2⟩, (Or.inr ⟨by omega, by omega, h1188⟩)⟩
    · exfalso
      omega
/-! StrikeAwake$Parish.isPicture(J)Z  -/
abbrev uq_162 (r0 : Nat) (a1 : Int) (e : xD) (d : xD) (n : Int) (T : wq_T) (H : wq_H) : Option Value → wq_T → wq_H → Prop := fun r T' H' => T = T' ∧ H = H' ∧ ∃ z : Int, some (vI z) = r ∧ (0 ≤ z ∧ z ≤ 1) ∧ (((z = 1) ∧ (0 ≤ a1 ∧ wdv (d 0 3).toNat a1 ≤ 20000) ∧ (xpd d a1 0 (d 0 3).toNat = 0)) ∨ ((z = 0) ∧ (a1 < 0 ∨ 0 < xpd d a1 0 (d 0 3).toNat ∨ 20000 < wdv (d 0 3).toNat a1)))
set_option maxHeartbeats 4000000 in
theorem u_162 {kt : Nat → Option mc_E} {T : wq_T} {H : wq_H} {r0 : Nat} {a1 : Int} {e : xD} {d : xD} {n : Int} (hW : WT T H) (g0 : T.2.2.2 r0 = some 27) (i1 : (-9223372036854775808) ≤ a1 ∧ a1 ≤ 9223372036854775807) (p0 : e 0 3 = d 0 3) (hCU_r0 : CU T H r0 e d n) : wpc kt 1 162 [.ref r0, vL a1] T H (uq_162 r0 a1 e d n T H) := by
  refine wp_enter e162 (Nat.le_of_ble_eq_true rfl) rfl ?_
  show wp _ _ 162 0 [(0, .ref r0), (1, vL a1)] [] _ H _
  have u1046 := CU_k hCU_r0
  refine wp_of e162 c162_0 (rw_lload_n (pc' := 1) (z := a1) rfl rfl ?_)
  refine wp_of e162 c162_1 (rw_lstore_n (pc' := 2) (z := a1) (L' := [(3, vL a1), (0, .ref r0), (1, vL a1)]) rfl rfl rfl ?_)
  refine wp_of e162 c162_2 (rw_aload_n (pc' := 3) (v := .ref r0) rfl rfl rfl ?_)
  refine wp_of e162 c162_3 (xg_I (pc' := 6) lf_7_50 hW g0 sh_27 (by decide) (by decide) ty_27_10 rfl rfl (fun b1047 b1048 => ?_))
  refine wp_of e162 c162_6 (rw_iconst (pc' := 7) rfl ?_)
  refine wp_of e162 c162_7 (rw_isub (pc' := 8) rfl ?_)
  refine wp_of e162 c162_8 (rw_istore (pc' := 10) (z := (H r0 10) - 1) (L' := [(5, vI ((H r0 10) - 1)), (3, vL a1), (0, .ref r0), (1, vL a1)]) rfl rfl rfl ?_)
  have lp1068 : ∀ (n1069 : Nat) (v1071 : Int) (v1072 : Int), ((-1) ≤ v1071 ∧ v1071 ≤ 5) → ((-9223372036854775808) ≤ v1072 ∧ v1072 ≤ 9223372036854775807) → (v1071 ≤ d 0 3 - 1) → (a1 < 0 ∨ 0 ≤ v1072) → (a1 < 0 ∨ v1072 = wdv (d 0 3 - 1 - v1071).toNat a1) → (a1 < 0 ∨ xpd d a1 (v1071 + 1).toNat ((d 0 3).toNat - (v1071 + 1).toNat) = 0) → (v1071 - (-1)).toNat = n1069 → wp kt 0 162 10 [(5, vI v1071), (3, vL v1072), (0, .ref r0), (1, vL a1)] [] T H (uq_162 r0 a1 e d n T H) := by
    intro n1069
    induction n1069 using Nat.strongRecOn with
    | _ n1069 ih1070 =>
      intro v1071 v1072 b1075 b1076 x1078 x1079 x1080 x1081 m1077
      have _x : v1071 = -1 → a1 < 0 ∨ (v1072 = wdv (d 0 3).toNat a1 ∧ xpd d a1 0 (d 0 3).toNat = 0) := fun q => by
        rcases ‹a1 < 0 ∨ v1072 = wdv (d 0 3 - 1 - v1071).toNat a1› with h | h
        · exact Or.inl h
        · rcases ‹a1 < 0 ∨ xpd d a1 (v1071 + 1).toNat ((d 0 3).toNat - (v1071 + 1).toNat) = 0› with k | k
          · exact Or.inl k
          · rw [q] at k
            exact Or.inr ⟨wdv_z h q, k⟩
      refine wp_of e162 c162_10 (rw_iload (pc' := 12) (z := v1071) rfl rfl ?_)
      refine wp_of e162 c162_12 (rw_if_lt (p1 := 60) (p2 := 15) (by decide) rfl ⟨Int.le_trans (by decide) b1075.1, Int.le_trans b1075.2 (by decide)⟩ (fun c1082 => ?_) (fun c1082 => ?_))
      · refine wp_of e162 c162_60 (rw_lload_n (pc' := 61) (z := a1) rfl rfl ?_)
        refine wp_of e162 c162_61 (rw_lconst (pc' := 62) (z := 0) rfl rfl ?_)
        refine wp_of e162 c162_62 (rw_lcmp (pc' := 63) rfl ⟨i1.1, i1.2⟩ ⟨by decide, by decide⟩ ?_)
        have b1083 := wq_cmp_b a1 0
        refine wp_of e162 c162_63 (rw_if_lt (p1 := 78) (p2 := 66) (by decide) rfl ⟨by omega, by omega⟩ (fun c1084 => ?_) (fun c1084 => ?_))
        · refine wp_of e162 c162_78 (rw_iconst (pc' := 79) rfl ?_)
          exact wp_zreturn e162 c162_79 rfl (by omega) ⟨rfl, rfl, 0, rfl, ⟨by decide, by decide⟩, (Or.inr ⟨by omega, by omega⟩)⟩
        · refine wp_of e162 c162_66 (rw_lload_n (pc' := 67) (z := v1072) rfl rfl ?_)
          refine wp_of e162 c162_67 (rw_ldc2 (pc' := 70) (z := 20000) rfl rfl rfl ?_)
          refine wp_of e162 c162_70 (rw_lcmp (pc' := 71) rfl ⟨b1076.1, b1076.2⟩ ⟨by decide, by decide⟩ ?_)
          have b1085 := wq_cmp_b v1072 20000
          refine wp_of e162 c162_71 (rw_if_gt (p1 := 78) (p2 := 74) (by decide) rfl ⟨by omega, by omega⟩ (fun c1086 => ?_) (fun c1086 => ?_))
          · refine wp_of e162 c162_78 (rw_iconst (pc' := 79) rfl ?_)
            exact wp_zreturn e162 c162_79 rfl (by omega) ⟨rfl, rfl, 0, rfl, ⟨by decide, by decide⟩, (Or.inr ⟨by omega, by omega⟩)⟩
          · refine wp_of e162 c162_74 (rw_iconst (pc' := 75) rfl ?_)
            refine wp_of e162 c162_75 (rw_goto (p1 := 79) (by decide) ?_)
            exact wp_zreturn e162 c162_79 rfl (by omega) ⟨rfl, rfl, 1, rfl, ⟨by decide, by decide⟩, (Or.inl ⟨by omega, by omega, by omega⟩)⟩
      · refine wp_of e162 c162_15 (rw_lload_n (pc' := 16) (z := v1072) rfl rfl ?_)
        refine wp_of e162 c162_16 (rw_ldc2 (pc' := 19) (z := 40) rfl rfl rfl ?_)
        refine wp_of e162 c162_19 (rw_lrem (pc' := 20) rfl ⟨by omega, by omega⟩ (by omega) ?_)
        obtain ⟨v1087, e1088⟩ : ∃ x : Int, x = wl_rem v1072 40 := ⟨_, rfl⟩
        rw [← e1088]
        have b1089 : -9223372036854775808 ≤ v1087 ∧ v1087 ≤ 9223372036854775807 := by
          rw [e1088]
          exact wL_rem _ _
        have b1090 : v1072 < 0 ∨ v1087 = v1072 % 40 := by
          rw [e1088]
          exact wl_rem_or ⟨by omega, by omega⟩ ⟨by omega, by omega⟩
        refine wp_of e162 c162_20 (rw_lstore (pc' := 22) (z := v1087) (L' := [(6, vL v1087), (5, vI v1071), (3, vL v1072), (0, .ref r0), (1, vL a1)]) rfl rfl rfl ?_)
        refine wp_of e162 c162_22 (rw_lload (pc' := 24) (z := v1087) rfl rfl ?_)
        refine wp_of e162 c162_24 (rw_lconst (pc' := 25) (z := 0) rfl rfl ?_)
        refine wp_of e162 c162_25 (rw_lcmp (pc' := 26) rfl ⟨b1089.1, b1089.2⟩ ⟨by decide, by decide⟩ ?_)
        have b1091 := wq_cmp_b v1087 0
        refine wp_of e162 c162_26 (rw_if_eq (p1 := 48) (p2 := 29) (by decide) rfl ⟨by omega, by omega⟩ (fun c1092 => ?_) (fun c1092 => ?_))
        · have _i : a1 < 0 ∨ v1072 = wdv (d 0 3 - 1 - v1071).toNat a1 := by
            rcases ‹a1 < 0 ∨ v1072 = wdv (d 0 3 - 1 - v1071).toNat a1› with h | h
            · exact Or.inl h
            · exact Or.inr h
          have _s := xpd_s (d := d) (a := a1) (v := v1087) (x := v1072) (i := v1071) (by omega) (by omega) _i (by omega) (by omega) (by assumption)
          refine wp_of e162 c162_48 (rw_lload_n (pc' := 49) (z := v1072) rfl rfl ?_)
          refine wp_of e162 c162_49 (rw_ldc2 (pc' := 52) (z := 40) rfl rfl rfl ?_)
          refine wp_of e162 c162_52 (rw_ldiv (pc' := 53) rfl ⟨by omega, by omega⟩ (by omega) ?_)
          obtain ⟨v1093, e1094⟩ : ∃ x : Int, x = wl_div v1072 40 := ⟨_, rfl⟩
          rw [← e1094]
          have b1095 : -9223372036854775808 ≤ v1093 ∧ v1093 ≤ 9223372036854775807 := by
            rw [e1094]
            exact wL_div _ _
          have b1096 : v1072 < 0 ∨ v1093 = v1072 / 40 := by
            rw [e1094]
            exact wl_div_or ⟨by omega, by omega⟩ ⟨by omega, by omega⟩
          refine wp_of e162 c162_53 (rw_lstore_n (pc' := 54) (z := v1093) (L' := [(3, vL v1093), (6, vL v1087), (5, vI v1071), (0, .ref r0), (1, vL a1)]) rfl rfl rfl ?_)
          refine wp_of e162 c162_54 (rw_iinc (pc' := 57) (z := v1071) (L' := [(5, vI (v1071 + (-1))), (3, vL v1093), (6, vL v1087), (0, .ref r0), (1, vL a1)]) rfl rfl rfl rfl ?_)
          refine wp_of e162 c162_57 (rw_goto (p1 := 10) (by decide) ?_)
          exact wp_lc (ks := [5, 3, 6, 0, 1]) (wl_c rfl (wl_c rfl (wl_c rfl (wl_c rfl wl_n)))) rfl (by decide) (ih1070 _ (by omega) (v1071 + (-1)) v1093 ⟨by omega, by omega⟩ ⟨b1095.1, b1095.2⟩ (by omega) (by omega) (by by_cases q : a1 < 0; exact Or.inl q; exact Or.inr (wdv_n (by omega) (_i.resolve_left q) (by omega))) (by rw [show (v1071 + (-1) + 1).toNat = (v1071).toNat by omega]; exact _s) rfl)
        · refine wp_of e162 c162_29 (rw_lload (pc' := 31) (z := v1087) rfl rfl ?_)
          refine wp_of e162 c162_31 (rw_aload_n (pc' := 32) (v := .ref r0) rfl rfl rfl ?_)
          refine wp_of e162 c162_32 (xg_R (pc' := 35) lf_7_11 hW g0 sh_27 (by decide) (by decide) ty_27_0 rfl rfl (fun r1097 q1098 g1099 => ?_))
          refine wp_of e162 c162_35 (rw_iload (pc' := 37) (z := v1071) rfl rfl ?_)
          refine wp_of e162 c162_37 (xa_R (pc' := 38) (by decide) hW g1099 sh_28 (by decide) (ty_28 _) (by omega) (Int.lt_of_le_of_lt b1075.2 (by decide)) rfl (fun r1100 q1101 g1102 => ?_))
          have _z := CS_at (hCU_r0).2.1 q1098 q1101 (k := (v1071).toNat) (by omega) (by omega)
          have _l := @xsp_len d (v1071).toNat (hCU_r0).2.1.1
          have _n := _z.1.1
          have _b := xpr_5 (hCU_r0).2.1.1 (by omega) (v1071).toNat
          have _w : H r1100 17 = xpr d ((v1071).toNat + 1) ((d 0 3).toNat - ((v1071).toNat + 1)) := _z.2.trans (wq_w_id ⟨by omega, by omega⟩)
          refine wp_of e162 c162_38 (xg_I (pc' := 41) lf_7_110 hW g1102 sh_35 (by decide) (by decide) ty_35_15 rfl rfl (fun b1103 b1104 => ?_))
          refine wp_of e162 c162_41 (rw_i2l (pc' := 42) rfl ⟨Int.le_trans (by decide) b1103, Int.le_trans b1104 (by decide)⟩ ?_)
          refine wp_of e162 c162_42 (rw_lcmp (pc' := 43) rfl ⟨b1089.1, b1089.2⟩ ⟨Int.le_trans (by decide) b1103, Int.le_trans b1104 (by decide)⟩ ?_)
          have b1105 := wq_cmp_b v1087 (H r1100 15)
          refine wp_of e162 c162_43 (rw_if_lt (p1 := 48) (p2 := 46) (by decide) rfl ⟨by omega, by omega⟩ (fun c1106 => ?_) (fun c1106 => ?_))
          · have _i : a1 < 0 ∨ v1072 = wdv (d 0 3 - 1 - v1071).toNat a1 := by
              rcases ‹a1 < 0 ∨ v1072 = wdv (d 0 3 - 1 - v1071).toNat a1› with h | h
              · exact Or.inl h
              · exact Or.inr h
            have _s := xpd_s (d := d) (a := a1) (v := v1087) (x := v1072) (i := v1071) (by omega) (by omega) _i (by omega) (by omega) (by assumption)
            refine wp_of e162 c162_48 (rw_lload_n (pc' := 49) (z := v1072) rfl rfl ?_)
            refine wp_of e162 c162_49 (rw_ldc2 (pc' := 52) (z := 40) rfl rfl rfl ?_)
            refine wp_of e162 c162_52 (rw_ldiv (pc' := 53) rfl ⟨by omega, by omega⟩ (by omega) ?_)
            obtain ⟨v1107, e1108⟩ : ∃ x : Int, x = wl_div v1072 40 := ⟨_, rfl⟩
            rw [← e1108]
            have b1109 : -9223372036854775808 ≤ v1107 ∧ v1107 ≤ 9223372036854775807 := by
              rw [e1108]
              exact wL_div _ _
            have b1110 : v1072 < 0 ∨ v1107 = v1072 / 40 := by
              rw [e1108]
              exact wl_div_or ⟨by omega, by omega⟩ ⟨by omega, by omega⟩
            refine wp_of e162 c162_53 (rw_lstore_n (pc' := 54) (z := v1107) (L' := [(3, vL v1107), (6, vL v1087), (5, vI v1071), (0, .ref r0), (1, vL a1)]) rfl rfl rfl ?_)
            refine wp_of e162 c162_54 (rw_iinc (pc' := 57) (z := v1071) (L' := [(5, vI (v1071 + (-1))), (3, vL v1107), (6, vL v1087), (0, .ref r0), (1, vL a1)]) rfl rfl rfl rfl ?_)
            refine wp_of e162 c162_57 (rw_goto (p1 := 10) (by decide) ?_)
            exact wp_lc (ks := [5, 3, 6, 0, 1]) (wl_c rfl (wl_c rfl (wl_c rfl (wl_c rfl wl_n)))) rfl (by decide) (ih1070 _ (by omega) (v1071 + (-1)) v1107 ⟨by omega, by omega⟩ ⟨b1109.1, b1109.2⟩ (by omega) (by omega) (by by_cases q : a1 < 0; exact Or.inl q; exact Or.inr (wdv_n (by omega) (_i.resolve_left q) (by omega))) (by rw [show (v1071 + (-1) + 1).toNat = (v1071).toNat by omega]; exact _s) rfl)
          · have _i : a1 < 0 ∨ v1072 = wdv (d 0 3 - 1 - v1071).toNat a1 := by
              rcases ‹a1 < 0 ∨ v1072 = wdv (d 0 3 - 1 - v1071).toNat a1› with h | h
              · exact Or.inl h
              · exact Or.inr h
            have _s := xpd_n (d := d) (a := a1) (v := v1087) (x := v1072) (i := v1071) (by omega) (by omega) _i (by omega) (by omega) (by omega)
            refine wp_of e162 c162_46 (rw_iconst (pc' := 47) rfl ?_)
            exact wp_zreturn e162 c162_47 rfl (by omega) ⟨rfl, rfl, 0, rfl, ⟨by decide, by decide⟩, (Or.inr ⟨by omega, by omega⟩)⟩
  exact wp_lc (ks := [5, 3, 0, 1]) (wl_c rfl (wl_c rfl (wl_c rfl (wl_c rfl wl_n)))) rfl (by decide) (lp1068 _ ((H r0 10) - 1) a1 ⟨by omega, by omega⟩ ⟨i1.1, i1.2⟩ (by omega) (by omega) (Or.inr (wdv_1 (by omega))) (Or.inr (xpd_e (by omega))) rfl)
