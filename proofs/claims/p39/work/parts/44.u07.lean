section
/-! what methods do (own work, written by wip/gen3/sx3.py) -/
/-! StrikeAwake.parish(I)I  -/
abbrev uq_11 (r0 : Nat) (a1 : Int) (tp : Nat) (rd : Nat) (cu : Nat) (dr : Nat) (B : Nat → Int) (y : Int) (eU : xD) (dU : xD) (nU : Int) (nY : Int) (gY : Nat → Int) (cY : Int) (C : Nat → Bool) (T : wq_T) (H : wq_H) : Option Value → wq_T → wq_H → Prop := fun r T' H' => T = T' ∧ WT T H' ∧ wfr [(12, 9), (27, 7), (27, 8), (27, 9), (27, 10), (27, 11), (27, 12), (27, 13), (27, 14), (27, 15), (27, 16), (27, 17), (27, 18), (35, 6), (35, 7), (35, 8), (35, 9), (35, 10), (35, 11), (35, 12), (35, 13), (35, 14), (35, 15), (35, 16), (35, 17), (3, 1), (3, 2), (3, 3), (3, 4), (1, 6), (1, 7), (1, 8), (1, 9), (1, 10), (1, 11), (1, 12), (4, 0), (4, 1), (4, 2), (4, 3), (4, 4), (4, 5), (4, 6), (38, 999), (39, 999), (36, 999), (31, 999), (40, 999), (41, 999), (34, 999), (37, 999), (29, 999), (30, 999), (33, 999), (32, 999)] T H H' ∧ ∃ z : Int, some (vI z) = r ∧ ((-2147483648) ≤ z ∧ z ≤ 2147483647) ∧ (((z = -1) ∧ (a1 < 0 ∨ H r0 9 < a1) ∧ (H' r0 9 = H r0 9) ∧ (H' r0 10 = 2) ∧ (H' r0 6 = (cu : Int)) ∧ (H' r0 7 = (dr : Int)) ∧ (H' r0 8 = H r0 8) ∧ (H' r0 11 = H r0 11) ∧ CU T H' cu eU dU nU ∧ CY T H' cu nY gY cY ∧ SP T H' r0 C) ∨ ((z = -1) ∧ (0 ≤ a1 ∧ a1 ≤ H r0 9) ∧ (H' r0 9 = 0) ∧ ((xparse B y).1.1 ≠ 0) ∧ (H' r0 10 = 4) ∧ (H' r0 11 = (xparse B y).1.1) ∧ (H' r0 12 = (xparse B y).1.2.1) ∧ (H' r0 6 = (cu : Int)) ∧ (H' r0 7 = (dr : Int)) ∧ (H' r0 8 = H r0 8) ∧ CU T H' cu eU dU nU ∧ CY T H' cu nY gY cY ∧ SP T H' r0 C) ∨ ((0 ≤ z ∧ z ≤ 6) ∧ (0 ≤ a1 ∧ a1 ≤ H r0 9) ∧ (H' r0 9 = 0) ∧ ((xparse B y).1.1 = 0) ∧ (z = (xparse B y).2 0 3) ∧ (H' r0 10 = 0) ∧ (H' r0 6 = (dr : Int)) ∧ (H' r0 7 = (cu : Int)) ∧ (H' r0 8 = 1) ∧ (H' r0 11 = 0) ∧ (XA (xset (xparse B y).2)) ∧ (1 ≤ (xset (xparse B y).2) 0 0 ∧ 1 ≤ (xset (xparse B y).2) 0 3) ∧ CU T H' dr (xset (xparse B y).2) (xset (xparse B y).2) (xlots (xset (xparse B y).2)) ∧ CY T H' dr ((xparse B y).2 0 3) (fun _ => 0) 0 ∧ SP T H' r0 (fun a => !(C a))))
set_option maxHeartbeats 4000000 in
theorem u_11 {kt : Nat → Option mc_E} {T : wq_T} {H : wq_H} {r0 : Nat} {a1 : Int} {tp : Nat} {rd : Nat} {cu : Nat} {dr : Nat} {B : Nat → Int} {y : Int} {eU : xD} {dU : xD} {nU : Int} {nY : Int} {gY : Nat → Int} {cY : Int} {C : Nat → Bool} (hW : WT T H) (g0 : T.2.2.2 r0 = some 1) (i1 : (-2147483648) ≤ a1 ∧ a1 ≤ 2147483647) (qtp : H r0 0 = (tp : Int)) (gtp : T.2.2.2 tp = some 2) (qrd : H r0 1 = (rd : Int)) (grd : T.2.2.2 rd = some 3) (qcu : H r0 6 = (cu : Int)) (gcu : T.2.2.2 cu = some 27) (qdr : H r0 7 = (dr : Int)) (gdr : T.2.2.2 dr = some 27) (p0 : a1 = y) (p1 : C cu = true) (p2 : C dr = false) (p3 : dU 0 3 ≤ 6) (p4 : nY ≤ 6) (hTP_tp : TP T H tp B) (hDD_dr : DD T H dr ) (hDE_dr : DE T H dr ) (hCU_cu : CU T H cu eU dU nU) (hCY_cu : CY T H cu nY gY cY) (hSP_r0 : SP T H r0 C) : wpc kt 8 11 [.ref r0, vI a1] T H (uq_11 r0 a1 tp rd cu dr B y eU dU nU nY gY cY C T H) := by
  refine wp_enter e11 (Nat.le_of_ble_eq_true rfl) rfl ?_
  have f0 : wfr [(12, 9), (27, 7), (27, 8), (27, 9), (27, 10), (27, 11), (27, 12), (27, 13), (27, 14), (27, 15), (27, 16), (27, 17), (27, 18), (35, 6), (35, 7), (35, 8), (35, 9), (35, 10), (35, 11), (35, 12), (35, 13), (35, 14), (35, 15), (35, 16), (35, 17), (3, 1), (3, 2), (3, 3), (3, 4), (1, 6), (1, 7), (1, 8), (1, 9), (1, 10), (1, 11), (1, 12), (4, 0), (4, 1), (4, 2), (4, 3), (4, 4), (4, 5), (4, 6), (38, 999), (39, 999), (36, 999), (31, 999), (40, 999), (41, 999), (34, 999), (37, 999), (29, 999), (30, 999), (33, 999), (32, 999)] T H H := wfr.rf
  show wp _ _ 11 0 [(0, .ref r0), (1, vI a1)] [] _ H _
  have u1194 := CU_k hCU_cu
  have b1195 : 0 ≤ H r0 9 ∧ H r0 9 ≤ 900 := hW.box g0 (n := 13) rfl (by decide) rfl
  have b1196 : 0 ≤ H r0 8 ∧ H r0 8 ≤ 1 := hW.box g0 (n := 13) rfl (by decide) rfl
  have b1197 : (-2147483648) ≤ H r0 11 ∧ H r0 11 ≤ 2147483647 := hW.box g0 (n := 13) rfl (by decide) rfl
  have _y1 : (xparse B a1).1.1 = (xparse B y).1.1 := by rw [p0]
  have _y2 : (xparse B a1).1.2.1 = (xparse B y).1.2.1 := by rw [p0]
  have _y3 : (xparse B a1).2 0 3 = (xparse B y).2 0 3 := by rw [p0]
  have pC1 := p1
  have pC2 := p2
  have pC3 := p3
  have pC4 := p4
  refine wp_of e11 c11_0 (rw_iload_n (pc' := 1) (z := a1) rfl rfl ?_)
  refine wp_of e11 c11_1 (rw_if_lt (p1 := 12) (p2 := 4) (by decide) rfl ⟨i1.1, i1.2⟩ (fun c1198 => ?_) (fun c1198 => ?_))
  · refine wp_of e11 c11_12 (rw_aload_n (pc' := 13) (v := .ref r0) rfl rfl rfl ?_)
    refine wp_of e11 c11_13 (rw_iconst (pc' := 14) rfl ?_)
    refine wp_of e11 c11_14 (xc_V (pc' := 17) (r := r0) (as := [vI 2]) (st := []) (lm_0_70) rfl rfl (Nat.le_of_ble_eq_true rfl) hW g0 sh_1 (by decide) rfl (by decide) (u_12  hW g0 ⟨by decide, by decide⟩) (fun R1199 T1200 H1201 p1202 => ?_))
    obtain ⟨e1203, w1205, f1206, z1207, e1204, b1208, p1209⟩ := p1202
    subst e1203
    subst e1204
    obtain ⟨a1210, a1211⟩ := p1209
    have f1212 := f0.tr f1206 rfl
    show wp _ _ 11 17 [(0, .ref r0), (1, vI a1)] [vI z1207] _ H1201 _
    have k1213 : H1201 r0 6 = H r0 6 := (f1206 r0 6 _ g0 rfl)
    have q1214 : H1201 r0 6 = (cu : Int) := k1213.trans qcu
    have k1215 : H1201 r0 7 = H r0 7 := (f1206 r0 7 _ g0 rfl)
    have q1216 : H1201 r0 7 = (dr : Int) := k1215.trans qdr
    have k1217 : H1201 r0 8 = H r0 8 := (f1206 r0 8 _ g0 rfl)
    have k1218 : H1201 r0 9 = H r0 9 := (f1206 r0 9 _ g0 rfl)
    have k1219 : H1201 r0 11 = H r0 11 := (f1206 r0 11 _ g0 rfl)
    have h1220 : CU T H1201 cu eU dU nU := (CU_fr hW gcu f1206 rfl hCU_cu)
    have h1221 : CY T H1201 cu nY gY cY := (CY_fr hW gcu f1206 rfl hCY_cu)
    have h1222 : SP T H1201 r0 C := (SP_fr hW g0 f1206 rfl hSP_r0)
    exact wp_ireturn e11 c11_17 rfl ⟨rfl, w1205, f1212, z1207, rfl, ⟨b1208.1, b1208.2⟩, (Or.inl ⟨by omega, by omega, by omega, by omega, by omega, by omega, by omega, by omega, h1220, h1221, h1222⟩)⟩
  · refine wp_of e11 c11_4 (rw_iload_n (pc' := 5) (z := a1) rfl rfl ?_)
    refine wp_of e11 c11_5 (rw_aload_n (pc' := 6) (v := .ref r0) rfl rfl rfl ?_)
    refine wp_of e11 c11_6 (xg_I (pc' := 9) lf_0_62 hW g0 sh_1 (by decide) (by decide) ty_1_9 rfl rfl (fun b1223 b1224 => ?_))
    refine wp_of e11 c11_9 (rw_icmp_le (p1 := 18) (p2 := 12) (by decide) rfl ⟨i1.1, i1.2⟩ ⟨Int.le_trans (by decide) b1223, Int.le_trans b1224 (by decide)⟩ (fun c1225 => ?_) (fun c1225 => ?_))
    · refine wp_of e11 c11_18 (rw_aload_n (pc' := 19) (v := .ref r0) rfl rfl rfl ?_)
      refine wp_of e11 c11_19 (rw_iconst (pc' := 20) rfl ?_)
      refine wp_of e11 c11_20 (xp_I (pc' := 23) lf_0_62 hW g0 sh_1 (by decide) (by decide) ty_1_9 rfl rfl (by decide) (by decide) ⟨by decide, by decide⟩ rfl (fun H1226 e1227 w1228 => ?_))
      have f1229 := f0.put' e1227 g0 rfl
      have k1230 : H1226 r0 9 = 0 := wq_u_s e1227
      refine wp_of e11 c11_23 (rw_aload_n (pc' := 24) (v := .ref r0) rfl rfl rfl ?_)
      have k1231 : H1226 r0 1 = H r0 1 := (wq_u_j e1227 rfl)
      have q1232 : H1226 r0 1 = (rd : Int) := k1231.trans qrd
      refine wp_of e11 c11_24 (xg_K (pc' := 27) lf_0_16 w1228 g0 sh_1 (by decide) (by decide) rfl q1232 rfl ?_)
      refine wp_of e11 c11_27 (rw_aload_n (pc' := 28) (v := .ref r0) rfl rfl rfl ?_)
      have k1233 : H1226 r0 0 = H r0 0 := (wq_u_j e1227 rfl)
      have q1234 : H1226 r0 0 = (tp : Int) := k1233.trans qtp
      refine wp_of e11 c11_28 (xg_K (pc' := 31) lf_0_9 w1228 g0 sh_1 (by decide) (by decide) rfl q1234 rfl ?_)
      refine wp_of e11 c11_31 (rw_iload_n (pc' := 32) (z := a1) rfl rfl ?_)
      refine wp_of e11 c11_32 (rw_aload_n (pc' := 33) (v := .ref r0) rfl rfl rfl ?_)
      have k1235 : H1226 r0 7 = H r0 7 := (wq_u_j e1227 rfl)
      have q1236 : H1226 r0 7 = (dr : Int) := k1235.trans qdr
      refine wp_of e11 c11_33 (xg_K (pc' := 36) lf_0_55 w1228 g0 sh_1 (by decide) (by decide) rfl q1236 rfl ?_)
      have h1238 : SP T H1226 r0 C := (SP_fr hW g0 ((wfr.rf (l := [(1, 9)])).put' e1227 g0 rfl) rfl hSP_r0)
      have h1237 : SQ T H1226 (C) := SP.sq h1238
      have w1239 := rt_WT w1228 h1237
      obtain ⟨r1240, q1241, g1242⟩ := w1228.ref grd (t' := 4) (n := 5) (j := 0) (p := 0) (q := 0) rfl (by decide) rfl
      have h1243 : TP T H1226 tp B := (TP_fr hW gtp ((wfr.rf (l := [(1, 9)])).put' e1227 g0 rfl) rfl hTP_tp)
      have h1244 : DD T H1226 dr  := (DD_fr hW gdr ((wfr.rf (l := [(1, 9)])).put' e1227 g0 rfl) rfl hDD_dr)
      refine wp_of e11 c11_36 (xc_V (pc' := 39) (r := rd) (as := [.ref tp, vI a1, .ref dr]) (st := []) (lm_0_74) rfl rfl (Nat.le_of_ble_eq_true rfl) w1228 grd sh_3 (by decide) rfl (by decide) (rt_wpc (C := C) (u_13 (T := rtT T (C)) (B := B) w1239 (rtT_k (C := C) grd (rtF_o grd (by decide) (by decide))) (rtT_k (C := C) gtp (rtF_o gtp (by decide) (by decide))) ⟨by omega, by omega⟩ (rtT_k (C := C) gdr (rtF_c gdr (by decide) pC2)) q1241 (rtT_k (C := C) g1242 (rtF_o g1242 (by decide) (by decide))) h1243 (DD_rt gdr h1238 pC2 h1244)) (fun _ _ _ p => p.1)) (fun R1245 T1246 H1247 p1248 => ?_))
      obtain ⟨e1249, -, w1251, f1252, z1257, e1250, b1258, p1253⟩ := p1248
      subst e1249
      subst e1250
      have o1256 := rt_old f1252 rfl
      have f1255 := rt_fr f1252 rfl
      have w1254 := rt_un w1228 w1251 o1256
      rcases p1253 with ⟨a1259, a1260, a1261, a1262, a1263⟩ | ⟨a1264, a1265, a1266, a1267⟩
      · have f1268 := f1229.tr f1255 rfl
        show wp _ _ 11 39 [(0, .ref r0), (1, vI a1)] [vI z1257] _ H1247 _
        have h1269 : DC T H1247 dr ((xparse B a1).2) := DC_un a1262
        have u1270 := DC_k h1269
        have h1271 : CZ T H1247 dr ((xparse B a1).2 0 3) := CZ_un a1263
        have h1272 : CU T H1226 cu eU dU nU := (CU_fr hW gcu ((wfr.rf (l := [(1, 9)])).put' e1227 g0 rfl) rfl hCU_cu)
        have h1273 : CU T H1247 cu eU dU nU := CU_fz w1228 gcu h1238 pC1 o1256 pC3 h1272
        have h1274 : CY T H1226 cu nY gY cY := (CY_fr hW gcu ((wfr.rf (l := [(1, 9)])).put' e1227 g0 rfl) rfl hCY_cu)
        have h1275 : CY T H1247 cu nY gY cY := CY_fz w1228 gcu h1238 pC1 o1256 pC4 h1274
        refine wp_of e11 c11_39 (rw_istore_n (pc' := 40) (z := z1257) (L' := [(2, vI z1257), (0, .ref r0), (1, vI a1)]) rfl rfl rfl ?_)
        refine wp_of e11 c11_40 (rw_aload_n (pc' := 41) (v := .ref r0) rfl rfl rfl ?_)
        refine wp_of e11 c11_41 (rw_aload_n (pc' := 42) (v := .ref r0) rfl rfl rfl ?_)
        have k1276 : H1247 r0 1 = H1226 r0 1 := (f1255 r0 1 _ g0 rfl)
        have q1277 : H1247 r0 1 = (rd : Int) := k1276.trans q1232
        refine wp_of e11 c11_42 (xg_K (pc' := 45) lf_0_16 w1254 g0 sh_1 (by decide) (by decide) rfl q1277 rfl ?_)
        refine wp_of e11 c11_45 (xg_I (pc' := 48) lf_0_78 w1254 grd sh_3 (by decide) (by decide) ty_3_3 rfl rfl (fun b1278 b1279 => ?_))
        refine wp_of e11 c11_48 (xp_I (pc' := 51) lf_0_81 w1254 g0 sh_1 (by decide) (by decide) ty_1_11 rfl rfl (b1278) (b1279) ⟨b1278, b1279⟩ rfl (fun H1280 e1281 w1282 => ?_))
        have f1283 := f1268.put' e1281 g0 rfl
        have k1284 : H1280 r0 11 = H1247 rd 3 := wq_u_s e1281
        refine wp_of e11 c11_51 (rw_aload_n (pc' := 52) (v := .ref r0) rfl rfl rfl ?_)
        refine wp_of e11 c11_52 (rw_aload_n (pc' := 53) (v := .ref r0) rfl rfl rfl ?_)
        have k1285 : H1280 r0 1 = H1247 r0 1 := (wq_u_j e1281 rfl)
        have q1286 : H1280 r0 1 = (rd : Int) := k1285.trans q1277
        refine wp_of e11 c11_53 (xg_K (pc' := 56) lf_0_16 w1282 g0 sh_1 (by decide) (by decide) rfl q1286 rfl ?_)
        refine wp_of e11 c11_56 (xg_I (pc' := 59) lf_0_84 w1282 grd sh_3 (by decide) (by decide) ty_3_4 rfl rfl (fun b1287 b1288 => ?_))
        refine wp_of e11 c11_59 (xp_I (pc' := 62) lf_0_87 w1282 g0 sh_1 (by decide) (by decide) ty_1_12 rfl rfl (b1287) (b1288) ⟨b1287, b1288⟩ rfl (fun H1289 e1290 w1291 => ?_))
        have f1292 := f1283.put' e1290 g0 rfl
        have k1293 : H1289 r0 12 = H1280 rd 4 := wq_u_s e1290
        refine wp_of e11 c11_62 (rw_iload_n (pc' := 63) (z := z1257) rfl rfl ?_)
        refine wp_of e11 c11_63 (rw_if_ne (p1 := 72) (p2 := 66) (by decide) rfl ⟨by omega, by omega⟩ (fun c1294 => ?_) (fun c1294 => ?_))
        · refine wp_of e11 c11_72 (rw_aload_n (pc' := 73) (v := .ref r0) rfl rfl rfl ?_)
          have k1295 : H1289 r0 7 = H1226 r0 7 := ((wq_u_j e1290 rfl).trans ((wq_u_j e1281 rfl).trans (f1255 r0 7 _ g0 rfl)))
          have q1296 : H1289 r0 7 = (dr : Int) := k1295.trans q1236
          refine wp_of e11 c11_73 (xg_K (pc' := 76) lf_0_55 w1291 g0 sh_1 (by decide) (by decide) rfl q1296 rfl ?_)
          have k1297 : H1289 dr 13 = H1247 dr 13 := ((wq_u_t e1290 g0 gdr rfl 13).trans (wq_u_t e1281 g0 gdr rfl 13))
          have k1298 : H1289 dr 14 = H1247 dr 14 := ((wq_u_t e1290 g0 gdr rfl 14).trans (wq_u_t e1281 g0 gdr rfl 14))
          have k1299 : H1289 dr 10 = H1247 dr 10 := ((wq_u_t e1290 g0 gdr rfl 10).trans (wq_u_t e1281 g0 gdr rfl 10))
          have h1300 : DC T H1289 dr ((xparse B a1).2) := (DC_fr w1282 gdr ((wfr.rf (l := [(1, 12)])).put' e1290 g0 rfl) rfl (DC_fr w1254 gdr ((wfr.rf (l := [(1, 11)])).put' e1281 g0 rfl) rfl h1269))
          have h1301 : DD T H1289 dr  := (DD_fr w1282 gdr ((wfr.rf (l := [(1, 12)])).put' e1290 g0 rfl) rfl (DD_fr w1254 gdr ((wfr.rf (l := [(1, 11)])).put' e1281 g0 rfl) rfl (DD_fr w1228 gdr f1255 rfl h1244)))
          have h1302 : DE T H1289 dr  := (DE_fr w1282 gdr ((wfr.rf (l := [(1, 12)])).put' e1290 g0 rfl) rfl (DE_fr w1254 gdr ((wfr.rf (l := [(1, 11)])).put' e1281 g0 rfl) rfl (DE_fr w1228 gdr f1255 rfl (DE_fr hW gdr ((wfr.rf (l := [(1, 9)])).put' e1227 g0 rfl) rfl hDE_dr))))
          have h1303 : CZ T H1289 dr ((xparse B a1).2 0 3) := (CZ_fr w1282 gdr ((wfr.rf (l := [(1, 12)])).put' e1290 g0 rfl) rfl (CZ_fr w1254 gdr ((wfr.rf (l := [(1, 11)])).put' e1281 g0 rfl) rfl h1271))
          refine wp_of e11 c11_76 (xc_V (pc' := 79) (r := dr) (as := []) (st := []) (lm_0_90) rfl rfl (Nat.le_of_ble_eq_true rfl) w1291 gdr sh_27 (by decide) rfl (by decide) (u_44 (d := ((xparse B a1).2)) w1291 gdr (xdP_parse (by omega)) h1300 h1301 h1302 h1303) (fun R1304 T1305 H1306 p1307 => ?_))
          obtain ⟨e1308, w1310, f1311, e1309, p1312⟩ := p1307
          subst e1308
          subst e1309
          obtain ⟨a1313, a1314⟩ := p1312
          have f1315 := f1292.tr f1311 rfl
          show wp _ _ 11 79 [(2, vI z1257), (0, .ref r0), (1, vI a1)] [] _ H1306 _
          have u1316 := CU_k a1313
          have _xv := @xset_v (xparse B a1).2
          refine wp_of e11 c11_79 (rw_aload_n (pc' := 80) (v := .ref r0) rfl rfl rfl ?_)
          have k1317 : H1306 r0 6 = H r0 6 := ((f1311 r0 6 _ g0 rfl).trans ((wq_u_j e1290 rfl).trans ((wq_u_j e1281 rfl).trans ((f1255 r0 6 _ g0 rfl).trans (wq_u_j e1227 rfl)))))
          have q1318 : H1306 r0 6 = (cu : Int) := k1317.trans qcu
          refine wp_of e11 c11_80 (xg_K (pc' := 83) lf_0_51 w1310 g0 sh_1 (by decide) (by decide) rfl q1318 rfl ?_)
          refine wp_of e11 c11_83 (rw_astore_n (pc' := 84) (v := .ref cu) (L' := [(3, .ref cu), (2, vI z1257), (0, .ref r0), (1, vI a1)]) rfl rfl rfl rfl ?_)
          refine wp_of e11 c11_84 (rw_aload_n (pc' := 85) (v := .ref r0) rfl rfl rfl ?_)
          refine wp_of e11 c11_85 (rw_aload_n (pc' := 86) (v := .ref r0) rfl rfl rfl ?_)
          have k1319 : H1306 r0 7 = H1289 r0 7 := (f1311 r0 7 _ g0 rfl)
          have q1320 : H1306 r0 7 = (dr : Int) := k1319.trans q1296
          refine wp_of e11 c11_86 (xg_K (pc' := 89) lf_0_55 w1310 g0 sh_1 (by decide) (by decide) rfl q1320 rfl ?_)
          refine wp_of e11 c11_89 (xp_R (pc' := 92) lf_0_51 w1310 g0 sh_1 (by decide) (by decide) rfl rfl (wok_2 ty_1_6 gdr) rfl (fun H1321 e1322 w1323 => ?_))
          have f1324 := f1315.put' e1322 g0 rfl
          have q1325 : H1321 r0 6 = (dr : Int) := wq_u_s e1322
          refine wp_of e11 c11_92 (rw_aload_n (pc' := 93) (v := .ref r0) rfl rfl rfl ?_)
          refine wp_of e11 c11_93 (rw_aload_n (pc' := 94) (v := .ref cu) rfl rfl rfl ?_)
          refine wp_of e11 c11_94 (xp_R (pc' := 97) lf_0_55 w1323 g0 sh_1 (by decide) (by decide) rfl rfl (wok_2 ty_1_7 gcu) rfl (fun H1326 e1327 w1328 => ?_))
          have f1329 := f1324.put' e1327 g0 rfl
          have q1330 : H1326 r0 7 = (cu : Int) := wq_u_s e1327
          refine wp_of e11 c11_97 (rw_aload_n (pc' := 98) (v := .ref r0) rfl rfl rfl ?_)
          refine wp_of e11 c11_98 (rw_iconst (pc' := 99) rfl ?_)
          refine wp_of e11 c11_99 (xp_Z (pc' := 102) lf_0_58 w1328 g0 sh_1 (by decide) (by decide) ty_1_8 rfl rfl (by decide) (by decide) rfl (fun H1331 e1332 w1333 => ?_))
          have f1334 := f1329.put' e1332 g0 rfl
          have k1335 : H1331 r0 8 = 1 := wq_u_s e1332
          refine wp_of e11 c11_102 (rw_aload_n (pc' := 103) (v := .ref r0) rfl rfl rfl ?_)
          refine wp_of e11 c11_103 (xg_R (pc' := 106) lf_0_30 w1333 g0 sh_1 (by decide) (by decide) ty_1_3 rfl rfl (fun r1336 q1337 g1338 => ?_))
          refine wp_of e11 c11_106 (xc_V (pc' := 109) (r := r1336) (as := []) (st := []) (lm_0_93) rfl rfl (Nat.le_of_ble_eq_true rfl) w1333 g1338 sh_12 (by decide) rfl (by decide) (s_50 w1333 g1338) (fun R1339 T1340 H1341 p1342 => ?_))
          obtain ⟨e1343, w1345, f1346, e1344⟩ := p1342
          subst e1343
          subst e1344
          have f1347 := f1334.tr f1346 rfl
          show wp _ _ 11 109 [(3, .ref cu), (2, vI z1257), (0, .ref r0), (1, vI a1)] [] _ H1341 _
          refine wp_of e11 c11_109 (rw_aload_n (pc' := 110) (v := .ref r0) rfl rfl rfl ?_)
          refine wp_of e11 c11_110 (rw_aload_n (pc' := 111) (v := .ref r0) rfl rfl rfl ?_)
          have k1348 : H1341 r0 6 = H1321 r0 6 := ((f1346 r0 6 _ g0 rfl).trans ((wq_u_j e1332 rfl).trans (wq_u_j e1327 rfl)))
          have q1349 : H1341 r0 6 = (dr : Int) := k1348.trans q1325
          refine wp_of e11 c11_111 (xg_K (pc' := 114) lf_0_51 w1345 g0 sh_1 (by decide) (by decide) rfl q1349 rfl ?_)
          have k1350 : H1341 dr 10 = H1306 dr 10 := ((f1346 dr 10 _ gdr rfl).trans ((wq_u_t e1332 g0 gdr rfl 10).trans ((wq_u_t e1327 g0 gdr rfl 10).trans (wq_u_t e1322 g0 gdr rfl 10))))
          refine wp_of e11 c11_114 (xg_I (pc' := 117) lf_0_96 w1345 gdr sh_27 (by decide) (by decide) ty_27_10 rfl rfl (fun b1351 b1352 => ?_))
          refine wp_of e11 c11_117 (xc_V (pc' := 120) (r := r0) (as := [vI (H1341 dr 10)]) (st := []) (lm_0_99) rfl rfl (Nat.le_of_ble_eq_true rfl) w1345 g0 sh_1 (by decide) rfl (by decide) (u_51  w1345 g0 ⟨Int.le_trans (by decide) b1351, Int.le_trans b1352 (by decide)⟩) (fun R1353 T1354 H1355 p1356 => ?_))
          obtain ⟨e1357, w1359, f1360, z1361, e1358, b1362, p1363⟩ := p1356
          subst e1357
          subst e1358
          obtain ⟨a1364, a1365⟩ := p1363
          have f1366 := f1347.tr f1360 rfl
          show wp _ _ 11 120 [(3, .ref cu), (2, vI z1257), (0, .ref r0), (1, vI a1)] [vI z1361] _ H1355 _
          have k1367 : H1355 r0 6 = H1341 r0 6 := (f1360 r0 6 _ g0 rfl)
          have q1368 : H1355 r0 6 = (dr : Int) := k1367.trans q1349
          have k1369 : H1355 r0 7 = H1326 r0 7 := ((f1360 r0 7 _ g0 rfl).trans ((f1346 r0 7 _ g0 rfl).trans (wq_u_j e1332 rfl)))
          have q1370 : H1355 r0 7 = (cu : Int) := k1369.trans q1330
          have k1371 : H1355 r0 8 = H1331 r0 8 := ((f1360 r0 8 _ g0 rfl).trans (f1346 r0 8 _ g0 rfl))
          have k1372 : H1355 r0 9 = H1226 r0 9 := ((f1360 r0 9 _ g0 rfl).trans ((f1346 r0 9 _ g0 rfl).trans ((wq_u_j e1332 rfl).trans ((wq_u_j e1327 rfl).trans ((wq_u_j e1322 rfl).trans ((f1311 r0 9 _ g0 rfl).trans ((wq_u_j e1290 rfl).trans ((wq_u_j e1281 rfl).trans (f1255 r0 9 _ g0 rfl)))))))))
          have k1373 : H1355 r0 11 = H1280 r0 11 := ((f1360 r0 11 _ g0 rfl).trans ((f1346 r0 11 _ g0 rfl).trans ((wq_u_j e1332 rfl).trans ((wq_u_j e1327 rfl).trans ((wq_u_j e1322 rfl).trans ((f1311 r0 11 _ g0 rfl).trans (wq_u_j e1290 rfl)))))))
          have k1374 : H1355 r0 12 = H1289 r0 12 := ((f1360 r0 12 _ g0 rfl).trans ((f1346 r0 12 _ g0 rfl).trans ((wq_u_j e1332 rfl).trans ((wq_u_j e1327 rfl).trans ((wq_u_j e1322 rfl).trans (f1311 r0 12 _ g0 rfl))))))
          have h1375 : CU T H1355 dr (xset ((xparse B a1).2)) (xset ((xparse B a1).2)) (xlots (xset ((xparse B a1).2))) := (CU_fr w1345 gdr f1360 rfl (CU_fr w1333 gdr f1346 rfl (CU_fr w1328 gdr ((wfr.rf (l := [(1, 8)])).put' e1332 g0 rfl) rfl (CU_fr w1323 gdr ((wfr.rf (l := [(1, 7)])).put' e1327 g0 rfl) rfl (CU_fr w1310 gdr ((wfr.rf (l := [(1, 6)])).put' e1322 g0 rfl) rfl a1313)))))
          have h1376 : CY T H1355 dr (((xparse B a1).2) 0 3) (fun _ => 0) 0 := (CY_fr w1345 gdr f1360 rfl (CY_fr w1333 gdr f1346 rfl (CY_fr w1328 gdr ((wfr.rf (l := [(1, 8)])).put' e1332 g0 rfl) rfl (CY_fr w1323 gdr ((wfr.rf (l := [(1, 7)])).put' e1327 g0 rfl) rfl (CY_fr w1310 gdr ((wfr.rf (l := [(1, 6)])).put' e1322 g0 rfl) rfl a1314)))))
          have h1377 : SP T H1355 r0 C := (SP_fr w1345 g0 f1360 rfl (SP_fr w1333 g0 f1346 rfl (SP_fr w1328 g0 ((wfr.rf (l := [(1, 8)])).put' e1332 g0 rfl) rfl (SP_fr w1323 g0 ((wfr.rf (l := [(1, 7)])).put' e1327 g0 rfl) rfl (SP_fr w1310 g0 ((wfr.rf (l := [(1, 6)])).put' e1322 g0 rfl) rfl (SP_fr w1291 g0 f1311 rfl (SP_fr w1282 g0 ((wfr.rf (l := [(1, 12)])).put' e1290 g0 rfl) rfl (SP_fr w1254 g0 ((wfr.rf (l := [(1, 11)])).put' e1281 g0 rfl) rfl (SP_fr w1228 g0 f1255 rfl h1238)))))))))
          exact wp_ireturn e11 c11_120 rfl ⟨rfl, w1359, f1366, z1361, rfl, ⟨b1362.1, b1362.2⟩, (Or.inr (Or.inr ⟨by omega, by omega, by omega, by omega, by omega, by omega, by omega, by omega, by omega, by omega, by rw [← p0]; exact (XA_set (by omega)).1, by rw [← p0]; exact (XA_set (by omega)).2, by rw [← p0]; exact h1375, by rw [← p0]; exact h1376, SP_not h1377⟩))⟩
        · exfalso
          omega
      · have f1378 := f1229.tr f1255 rfl
        show wp _ _ 11 39 [(0, .ref r0), (1, vI a1)] [vI z1257] _ H1247 _
        have h1379 : CU T H1226 cu eU dU nU := (CU_fr hW gcu ((wfr.rf (l := [(1, 9)])).put' e1227 g0 rfl) rfl hCU_cu)
        have h1380 : CU T H1247 cu eU dU nU := CU_fz w1228 gcu h1238 pC1 o1256 pC3 h1379
        have h1381 : CY T H1226 cu nY gY cY := (CY_fr hW gcu ((wfr.rf (l := [(1, 9)])).put' e1227 g0 rfl) rfl hCY_cu)
        have h1382 : CY T H1247 cu nY gY cY := CY_fz w1228 gcu h1238 pC1 o1256 pC4 h1381
        refine wp_of e11 c11_39 (rw_istore_n (pc' := 40) (z := z1257) (L' := [(2, vI z1257), (0, .ref r0), (1, vI a1)]) rfl rfl rfl ?_)
        refine wp_of e11 c11_40 (rw_aload_n (pc' := 41) (v := .ref r0) rfl rfl rfl ?_)
        refine wp_of e11 c11_41 (rw_aload_n (pc' := 42) (v := .ref r0) rfl rfl rfl ?_)
        have k1383 : H1247 r0 1 = H1226 r0 1 := (f1255 r0 1 _ g0 rfl)
        have q1384 : H1247 r0 1 = (rd : Int) := k1383.trans q1232
        refine wp_of e11 c11_42 (xg_K (pc' := 45) lf_0_16 w1254 g0 sh_1 (by decide) (by decide) rfl q1384 rfl ?_)
        refine wp_of e11 c11_45 (xg_I (pc' := 48) lf_0_78 w1254 grd sh_3 (by decide) (by decide) ty_3_3 rfl rfl (fun b1385 b1386 => ?_))
        refine wp_of e11 c11_48 (xp_I (pc' := 51) lf_0_81 w1254 g0 sh_1 (by decide) (by decide) ty_1_11 rfl rfl (b1385) (b1386) ⟨b1385, b1386⟩ rfl (fun H1387 e1388 w1389 => ?_))
        have f1390 := f1378.put' e1388 g0 rfl
        have k1391 : H1387 r0 11 = H1247 rd 3 := wq_u_s e1388
        refine wp_of e11 c11_51 (rw_aload_n (pc' := 52) (v := .ref r0) rfl rfl rfl ?_)
        refine wp_of e11 c11_52 (rw_aload_n (pc' := 53) (v := .ref r0) rfl rfl rfl ?_)
        have k1392 : H1387 r0 1 = H1247 r0 1 := (wq_u_j e1388 rfl)
        have q1393 : H1387 r0 1 = (rd : Int) := k1392.trans q1384
        refine wp_of e11 c11_53 (xg_K (pc' := 56) lf_0_16 w1389 g0 sh_1 (by decide) (by decide) rfl q1393 rfl ?_)
        have k1394 : H1387 rd 4 = H1247 rd 4 := (wq_u_t e1388 g0 grd rfl 4)
        refine wp_of e11 c11_56 (xg_I (pc' := 59) lf_0_84 w1389 grd sh_3 (by decide) (by decide) ty_3_4 rfl rfl (fun b1395 b1396 => ?_))
        refine wp_of e11 c11_59 (xp_I (pc' := 62) lf_0_87 w1389 g0 sh_1 (by decide) (by decide) ty_1_12 rfl rfl (b1395) (b1396) ⟨b1395, b1396⟩ rfl (fun H1397 e1398 w1399 => ?_))
        have f1400 := f1390.put' e1398 g0 rfl
        have k1401 : H1397 r0 12 = H1387 rd 4 := wq_u_s e1398
        refine wp_of e11 c11_62 (rw_iload_n (pc' := 63) (z := z1257) rfl rfl ?_)
        refine wp_of e11 c11_63 (rw_if_ne (p1 := 72) (p2 := 66) (by decide) rfl ⟨by omega, by omega⟩ (fun c1402 => ?_) (fun c1402 => ?_))
        · exfalso
          omega
        · refine wp_of e11 c11_66 (rw_aload_n (pc' := 67) (v := .ref r0) rfl rfl rfl ?_)
          refine wp_of e11 c11_67 (rw_iconst (pc' := 68) rfl ?_)
          refine wp_of e11 c11_68 (xc_V (pc' := 71) (r := r0) (as := [vI 4]) (st := []) (lm_0_70) rfl rfl (Nat.le_of_ble_eq_true rfl) w1399 g0 sh_1 (by decide) rfl (by decide) (u_12  w1399 g0 ⟨by decide, by decide⟩) (fun R1403 T1404 H1405 p1406 => ?_))
          obtain ⟨e1407, w1409, f1410, z1411, e1408, b1412, p1413⟩ := p1406
          subst e1407
          subst e1408
          obtain ⟨a1414, a1415⟩ := p1413
          have f1416 := f1400.tr f1410 rfl
          show wp _ _ 11 71 [(2, vI z1257), (0, .ref r0), (1, vI a1)] [vI z1411] _ H1405 _
          have k1417 : H1405 r0 6 = H r0 6 := ((f1410 r0 6 _ g0 rfl).trans ((wq_u_j e1398 rfl).trans ((wq_u_j e1388 rfl).trans ((f1255 r0 6 _ g0 rfl).trans (wq_u_j e1227 rfl)))))
          have q1418 : H1405 r0 6 = (cu : Int) := k1417.trans qcu
          have k1419 : H1405 r0 7 = H1226 r0 7 := ((f1410 r0 7 _ g0 rfl).trans ((wq_u_j e1398 rfl).trans ((wq_u_j e1388 rfl).trans (f1255 r0 7 _ g0 rfl))))
          have q1420 : H1405 r0 7 = (dr : Int) := k1419.trans q1236
          have k1421 : H1405 r0 8 = H r0 8 := ((f1410 r0 8 _ g0 rfl).trans ((wq_u_j e1398 rfl).trans ((wq_u_j e1388 rfl).trans ((f1255 r0 8 _ g0 rfl).trans (wq_u_j e1227 rfl)))))
          have k1422 : H1405 r0 9 = H1226 r0 9 := ((f1410 r0 9 _ g0 rfl).trans ((wq_u_j e1398 rfl).trans ((wq_u_j e1388 rfl).trans (f1255 r0 9 _ g0 rfl))))
          have k1423 : H1405 r0 11 = H1387 r0 11 := ((f1410 r0 11 _ g0 rfl).trans (wq_u_j e1398 rfl))
          have k1424 : H1405 r0 12 = H1397 r0 12 := (f1410 r0 12 _ g0 rfl)
          have h1425 : CU T H1405 cu eU dU nU := (CU_fr w1399 gcu f1410 rfl (CU_fr w1389 gcu ((wfr.rf (l := [(1, 12)])).put' e1398 g0 rfl) rfl (CU_fr w1254 gcu ((wfr.rf (l := [(1, 11)])).put' e1388 g0 rfl) rfl h1380)))
          have h1426 : CY T H1405 cu nY gY cY := (CY_fr w1399 gcu f1410 rfl (CY_fr w1389 gcu ((wfr.rf (l := [(1, 12)])).put' e1398 g0 rfl) rfl (CY_fr w1254 gcu ((wfr.rf (l := [(1, 11)])).put' e1388 g0 rfl) rfl h1382)))
          have h1427 : SP T H1405 r0 C := (SP_fr w1399 g0 f1410 rfl (SP_fr w1389 g0 ((wfr.rf (l := [(1, 12)])).put' e1398 g0 rfl) rfl (SP_fr w1254 g0 ((wfr.rf (l := [(1, 11)])).put' e1388 g0 rfl) rfl (SP_fr w1228 g0 f1255 rfl h1238))))
          exact wp_ireturn e11 c11_71 rfl ⟨rfl, w1409, f1416, z1411, rfl, ⟨b1412.1, b1412.2⟩, (Or.inr (Or.inl ⟨by omega, by omega, by omega, by omega, by omega, by omega, by omega, by omega, by omega, by omega, h1425, h1426, h1427⟩))⟩
    · refine wp_of e11 c11_12 (rw_aload_n (pc' := 13) (v := .ref r0) rfl rfl rfl ?_)
      refine wp_of e11 c11_13 (rw_iconst (pc' := 14) rfl ?_)
      refine wp_of e11 c11_14 (xc_V (pc' := 17) (r := r0) (as := [vI 2]) (st := []) (lm_0_70) rfl rfl (Nat.le_of_ble_eq_true rfl) hW g0 sh_1 (by decide) rfl (by decide) (u_12  hW g0 ⟨by decide, by decide⟩) (fun R1428 T1429 H1430 p1431 => ?_))
      obtain ⟨e1432, w1434, f1435, z1436, e1433, b1437, p1438⟩ := p1431
      subst e1432
      subst e1433
      obtain ⟨a1439, a1440⟩ := p1438
      have f1441 := f0.tr f1435 rfl
      show wp _ _ 11 17 [(0, .ref r0), (1, vI a1)] [vI z1436] _ H1430 _
      have k1442 : H1430 r0 6 = H r0 6 := (f1435 r0 6 _ g0 rfl)
      have q1443 : H1430 r0 6 = (cu : Int) := k1442.trans qcu
      have k1444 : H1430 r0 7 = H r0 7 := (f1435 r0 7 _ g0 rfl)
      have q1445 : H1430 r0 7 = (dr : Int) := k1444.trans qdr
      have k1446 : H1430 r0 8 = H r0 8 := (f1435 r0 8 _ g0 rfl)
      have k1447 : H1430 r0 9 = H r0 9 := (f1435 r0 9 _ g0 rfl)
      have k1448 : H1430 r0 11 = H r0 11 := (f1435 r0 11 _ g0 rfl)
      have h1449 : CU T H1430 cu eU dU nU := (CU_fr hW gcu f1435 rfl hCU_cu)
      have h1450 : CY T H1430 cu nY gY cY := (CY_fr hW gcu f1435 rfl hCY_cu)
      have h1451 : SP T H1430 r0 C := (SP_fr hW g0 f1435 rfl hSP_r0)
      exact wp_ireturn e11 c11_17 rfl ⟨rfl, w1434, f1441, z1436, rfl, ⟨b1437.1, b1437.2⟩, (Or.inl ⟨by omega, by omega, by omega, by omega, by omega, by omega, by omega, by omega, h1449, h1450, h1451⟩)⟩
/-! StrikeAwake.deny(I)Z  -/
abbrev uq_63 (r0 : Nat) (a1 : Int) (T : wq_T) (H : wq_H) : Option Value → wq_T → wq_H → Prop := fun r T' H' => T = T' ∧ WT T H' ∧ wfr [(1, 10)] T H H' ∧ ∃ z : Int, some (vI z) = r ∧ (0 ≤ z ∧ z ≤ 1) ∧ (((z = 0) ∧ (H' r0 10 = a1)))
set_option maxHeartbeats 4000000 in
theorem u_63 {kt : Nat → Option mc_E} {T : wq_T} {H : wq_H} {r0 : Nat} {a1 : Int} (hW : WT T H) (g0 : T.2.2.2 r0 = some 1) (i1 : (-2147483648) ≤ a1 ∧ a1 ≤ 2147483647) : wpc kt 1 63 [.ref r0, vI a1] T H (uq_63 r0 a1 T H) := by
  refine wp_enter e63 (Nat.le_of_ble_eq_true rfl) rfl ?_
  have f0 : wfr [(1, 10)] T H H := wfr.rf
  show wp _ _ 63 0 [(0, .ref r0), (1, vI a1)] [] _ H _
  refine wp_of e63 c63_0 (rw_aload_n (pc' := 1) (v := .ref r0) rfl rfl rfl ?_)
  refine wp_of e63 c63_1 (rw_iload_n (pc' := 2) (z := a1) rfl rfl ?_)
  refine wp_of e63 c63_2 (xp_I (pc' := 5) lf_0_102 hW g0 sh_1 (by decide) (by decide) ty_1_10 rfl rfl (i1.1) (i1.2) ⟨i1.1, i1.2⟩ rfl (fun H1006 e1007 w1008 => ?_))
  have f1009 := f0.put' e1007 g0 rfl
  have k1010 : H1006 r0 10 = a1 := wq_u_s e1007
  refine wp_of e63 c63_5 (rw_iconst (pc' := 6) rfl ?_)
  exact wp_zreturn e63 c63_6 rfl (by omega) ⟨rfl, w1008, f1009, 0, rfl, ⟨by decide, by decide⟩, ⟨by omega, by omega⟩⟩
/-! StrikeAwake.grant()Z  -/
abbrev uq_64 (r0 : Nat) (T : wq_T) (H : wq_H) : Option Value → wq_T → wq_H → Prop := fun r T' H' => T = T' ∧ WT T H' ∧ wfr [(1, 10)] T H H' ∧ ∃ z : Int, some (vI z) = r ∧ (0 ≤ z ∧ z ≤ 1) ∧ (((z = 1) ∧ (H' r0 10 = 0)))
set_option maxHeartbeats 4000000 in
theorem u_64 {kt : Nat → Option mc_E} {T : wq_T} {H : wq_H} {r0 : Nat} (hW : WT T H) (g0 : T.2.2.2 r0 = some 1) : wpc kt 1 64 [.ref r0] T H (uq_64 r0 T H) := by
  refine wp_enter e64 (Nat.le_of_ble_eq_true rfl) rfl ?_
  have f0 : wfr [(1, 10)] T H H := wfr.rf
  show wp _ _ 64 0 [(0, .ref r0)] [] _ H _
  refine wp_of e64 c64_0 (rw_aload_n (pc' := 1) (v := .ref r0) rfl rfl rfl ?_)
  refine wp_of e64 c64_1 (rw_iconst (pc' := 2) rfl ?_)
  refine wp_of e64 c64_2 (xp_I (pc' := 5) lf_0_102 hW g0 sh_1 (by decide) (by decide) ty_1_10 rfl rfl (by decide) (by decide) ⟨by decide, by decide⟩ rfl (fun H1006 e1007 w1008 => ?_))
  have f1009 := f0.put' e1007 g0 rfl
  have k1010 : H1006 r0 10 = 0 := wq_u_s e1007
  refine wp_of e64 c64_5 (rw_iconst (pc' := 6) rfl ?_)
  exact wp_zreturn e64 c64_6 rfl (by omega) ⟨rfl, w1008, f1009, 1, rfl, ⟨by decide, by decide⟩, ⟨by omega, by omega⟩⟩
/-! StrikeAwake.isPerson(I)Z  -/
abbrev uq_55 (r0 : Nat) (a1 : Int) (cu : Nat) (T : wq_T) (H : wq_H) : Option Value → wq_T → wq_H → Prop := fun r T' H' => T = T' ∧ H = H' ∧ ∃ z : Int, some (vI z) = r ∧ (0 ≤ z ∧ z ≤ 1) ∧ (((z = 1) ∧ (0 ≤ a1 ∧ a1 < H cu 10)) ∨ ((z = 0) ∧ (a1 < 0 ∨ H cu 10 ≤ a1)))
set_option maxHeartbeats 4000000 in
theorem u_55 {kt : Nat → Option mc_E} {T : wq_T} {H : wq_H} {r0 : Nat} {a1 : Int} {cu : Nat} (hW : WT T H) (g0 : T.2.2.2 r0 = some 1) (i1 : (-2147483648) ≤ a1 ∧ a1 ≤ 2147483647) (qcu : H r0 6 = (cu : Int)) (gcu : T.2.2.2 cu = some 27) : wpc kt 1 55 [.ref r0, vI a1] T H (uq_55 r0 a1 cu T H) := by
  refine wp_enter e55 (Nat.le_of_ble_eq_true rfl) rfl ?_
  show wp _ _ 55 0 [(0, .ref r0), (1, vI a1)] [] _ H _
  refine wp_of e55 c55_0 (rw_iload_n (pc' := 1) (z := a1) rfl rfl ?_)
  refine wp_of e55 c55_1 (rw_if_lt (p1 := 19) (p2 := 4) (by decide) rfl ⟨i1.1, i1.2⟩ (fun c1005 => ?_) (fun c1005 => ?_))
  · refine wp_of e55 c55_19 (rw_iconst (pc' := 20) rfl ?_)
    exact wp_zreturn e55 c55_20 rfl (by omega) ⟨rfl, rfl, 0, rfl, ⟨by decide, by decide⟩, (Or.inr ⟨by omega, by omega⟩)⟩
  · refine wp_of e55 c55_4 (rw_iload_n (pc' := 5) (z := a1) rfl rfl ?_)
    refine wp_of e55 c55_5 (rw_aload_n (pc' := 6) (v := .ref r0) rfl rfl rfl ?_)
    refine wp_of e55 c55_6 (xg_K (pc' := 9) lf_0_51 hW g0 sh_1 (by decide) (by decide) rfl qcu rfl ?_)
    refine wp_of e55 c55_9 (xg_I (pc' := 12) lf_0_96 hW gcu sh_27 (by decide) (by decide) ty_27_10 rfl rfl (fun b1006 b1007 => ?_))
    refine wp_of e55 c55_12 (rw_icmp_ge (p1 := 19) (p2 := 15) (by decide) rfl ⟨i1.1, i1.2⟩ ⟨Int.le_trans (by decide) b1006, Int.le_trans b1007 (by decide)⟩ (fun c1008 => ?_) (fun c1008 => ?_))
    · refine wp_of e55 c55_19 (rw_iconst (pc' := 20) rfl ?_)
      exact wp_zreturn e55 c55_20 rfl (by omega) ⟨rfl, rfl, 0, rfl, ⟨by decide, by decide⟩, (Or.inr ⟨by omega, by omega⟩)⟩
    · refine wp_of e55 c55_15 (rw_iconst (pc' := 16) rfl ?_)
      refine wp_of e55 c55_16 (rw_goto (p1 := 20) (by decide) ?_)
      exact wp_zreturn e55 c55_20 rfl (by omega) ⟨rfl, rfl, 1, rfl, ⟨by decide, by decide⟩, (Or.inl ⟨by omega, by omega⟩)⟩
/-! StrikeAwake.isHour(I)Z  -/
abbrev uq_60 (r0 : Nat) (a1 : Int) (cu : Nat) (T : wq_T) (H : wq_H) : Option Value → wq_T → wq_H → Prop := fun r T' H' => T = T' ∧ H = H' ∧ ∃ z : Int, some (vI z) = r ∧ (0 ≤ z ∧ z ≤ 1) ∧ (((z = 1) ∧ (0 ≤ a1 ∧ a1 < H cu 7)) ∨ ((z = 0) ∧ (a1 < 0 ∨ H cu 7 ≤ a1)))
set_option maxHeartbeats 4000000 in
theorem u_60 {kt : Nat → Option mc_E} {T : wq_T} {H : wq_H} {r0 : Nat} {a1 : Int} {cu : Nat} (hW : WT T H) (g0 : T.2.2.2 r0 = some 1) (i1 : (-2147483648) ≤ a1 ∧ a1 ≤ 2147483647) (qcu : H r0 6 = (cu : Int)) (gcu : T.2.2.2 cu = some 27) : wpc kt 1 60 [.ref r0, vI a1] T H (uq_60 r0 a1 cu T H) := by
  refine wp_enter e60 (Nat.le_of_ble_eq_true rfl) rfl ?_
  show wp _ _ 60 0 [(0, .ref r0), (1, vI a1)] [] _ H _
  refine wp_of e60 c60_0 (rw_iload_n (pc' := 1) (z := a1) rfl rfl ?_)
  refine wp_of e60 c60_1 (rw_if_lt (p1 := 19) (p2 := 4) (by decide) rfl ⟨i1.1, i1.2⟩ (fun c1005 => ?_) (fun c1005 => ?_))
  · refine wp_of e60 c60_19 (rw_iconst (pc' := 20) rfl ?_)
    exact wp_zreturn e60 c60_20 rfl (by omega) ⟨rfl, rfl, 0, rfl, ⟨by decide, by decide⟩, (Or.inr ⟨by omega, by omega⟩)⟩
  · refine wp_of e60 c60_4 (rw_iload_n (pc' := 5) (z := a1) rfl rfl ?_)
    refine wp_of e60 c60_5 (rw_aload_n (pc' := 6) (v := .ref r0) rfl rfl rfl ?_)
    refine wp_of e60 c60_6 (xg_K (pc' := 9) lf_0_51 hW g0 sh_1 (by decide) (by decide) rfl qcu rfl ?_)
    refine wp_of e60 c60_9 (xg_I (pc' := 12) lf_0_339 hW gcu sh_27 (by decide) (by decide) ty_27_7 rfl rfl (fun b1006 b1007 => ?_))
    refine wp_of e60 c60_12 (rw_icmp_ge (p1 := 19) (p2 := 15) (by decide) rfl ⟨i1.1, i1.2⟩ ⟨Int.le_trans (by decide) b1006, Int.le_trans b1007 (by decide)⟩ (fun c1008 => ?_) (fun c1008 => ?_))
    · refine wp_of e60 c60_19 (rw_iconst (pc' := 20) rfl ?_)
      exact wp_zreturn e60 c60_20 rfl (by omega) ⟨rfl, rfl, 0, rfl, ⟨by decide, by decide⟩, (Or.inr ⟨by omega, by omega⟩)⟩
    · refine wp_of e60 c60_15 (rw_iconst (pc' := 16) rfl ?_)
      refine wp_of e60 c60_16 (rw_goto (p1 := 20) (by decide) ?_)
      exact wp_zreturn e60 c60_20 rfl (by omega) ⟨rfl, rfl, 1, rfl, ⟨by decide, by decide⟩, (Or.inl ⟨by omega, by omega⟩)⟩
/-! StrikeAwake.isSpan(II)Z  -/
abbrev uq_57 (r0 : Nat) (a1 : Int) (a2 : Int) (cu : Nat) (e : xD) (d : xD) (n : Int) (T : wq_T) (H : wq_H) : Option Value → wq_T → wq_H → Prop := fun r T' H' => T = T' ∧ H = H' ∧ ∃ z : Int, some (vI z) = r ∧ (0 ≤ z ∧ z ≤ 1) ∧ (((z = 1) ∧ ((0 ≤ a1 ∧ a1 < d 0 3) ∧ 0 ≤ a2 ∧ a2 < ((xsp d (a1).toNat).length : Int))) ∨ ((z = 0) ∧ ((a1 < 0 ∨ d 0 3 ≤ a1) ∨ a2 < 0 ∨ ((xsp d (a1).toNat).length : Int) ≤ a2)))
set_option maxHeartbeats 4000000 in
theorem u_57 {kt : Nat → Option mc_E} {T : wq_T} {H : wq_H} {r0 : Nat} {a1 : Int} {a2 : Int} {cu : Nat} {e : xD} {d : xD} {n : Int} (hW : WT T H) (g0 : T.2.2.2 r0 = some 1) (i1 : (-2147483648) ≤ a1 ∧ a1 ≤ 2147483647) (i2 : (-2147483648) ≤ a2 ∧ a2 ≤ 2147483647) (qcu : H r0 6 = (cu : Int)) (gcu : T.2.2.2 cu = some 27) (p0 : e 0 3 = d 0 3) (p1 : e 0 0 = d 0 0) (hCU_cu : CU T H cu e d n) : wpc kt 2 57 [.ref r0, vI a1, vI a2] T H (uq_57 r0 a1 a2 cu e d n T H) := by
  refine wp_enter e57 (Nat.le_of_ble_eq_true rfl) rfl ?_
  show wp _ _ 57 0 [(0, .ref r0), (1, vI a1), (2, vI a2)] [] _ H _
  have u1027 := CU_k hCU_cu
  refine wp_of e57 c57_0 (rw_aload_n (pc' := 1) (v := .ref r0) rfl rfl rfl ?_)
  refine wp_of e57 c57_1 (rw_iload_n (pc' := 2) (z := a1) rfl rfl ?_)
  refine wp_of e57 c57_2 (xc_V (pc' := 5) (r := r0) (as := [vI a1]) (st := []) (lm_0_105) rfl rfl (Nat.le_of_ble_eq_true rfl) hW g0 sh_1 (by decide) rfl (by decide) (u_55  hW g0 ⟨i1.1, i1.2⟩ qcu gcu) (fun R1028 T1029 H1030 p1031 => ?_))
  obtain ⟨e1032, e1034, z1035, e1033, b1036, p1037⟩ := p1031
  subst e1032
  subst e1033
  subst e1034
  rcases p1037 with ⟨a1038, a1039⟩ | ⟨a1040, a1041⟩
  · show wp _ _ 57 5 [(0, .ref r0), (1, vI a1), (2, vI a2)] [vI z1035] _ H _
    refine wp_of e57 c57_5 (rw_if_eq (p1 := 32) (p2 := 8) (by decide) rfl ⟨Int.le_trans (by decide) b1036.1, Int.le_trans b1036.2 (by decide)⟩ (fun c1042 => ?_) (fun c1042 => ?_))
    · exfalso
      omega
    · refine wp_of e57 c57_8 (rw_iload_n (pc' := 9) (z := a2) rfl rfl ?_)
      refine wp_of e57 c57_9 (rw_if_lt (p1 := 32) (p2 := 12) (by decide) rfl ⟨i2.1, i2.2⟩ (fun c1043 => ?_) (fun c1043 => ?_))
      · refine wp_of e57 c57_32 (rw_iconst (pc' := 33) rfl ?_)
        exact wp_zreturn e57 c57_33 rfl (by omega) ⟨rfl, rfl, 0, rfl, ⟨by decide, by decide⟩, (Or.inr ⟨by omega, by omega⟩)⟩
      · refine wp_of e57 c57_12 (rw_iload_n (pc' := 13) (z := a2) rfl rfl ?_)
        refine wp_of e57 c57_13 (rw_aload_n (pc' := 14) (v := .ref r0) rfl rfl rfl ?_)
        refine wp_of e57 c57_14 (xg_K (pc' := 17) lf_0_51 hW g0 sh_1 (by decide) (by decide) rfl qcu rfl ?_)
        refine wp_of e57 c57_17 (xg_R (pc' := 20) lf_0_109 hW gcu sh_27 (by decide) (by decide) ty_27_0 rfl rfl (fun r1044 q1045 g1046 => ?_))
        refine wp_of e57 c57_20 (rw_iload_n (pc' := 21) (z := a1) rfl rfl ?_)
        refine wp_of e57 c57_21 (xa_R (pc' := 22) (by decide) hW g1046 sh_28 (by decide) (ty_28 _) (by omega) (by omega) rfl (fun r1047 q1048 g1049 => ?_))
        have _z := CS_at (hCU_cu).2.1 q1045 q1048 (k := (a1).toNat) (by omega) (by omega)
        have _l := @xsp_len d (a1).toNat (hCU_cu).2.1.1
        have h1050 : PS T H r1047 d (a1).toNat (xsp d (a1).toNat) := _z.1
        have _n := h1050.1
        refine wp_of e57 c57_22 (xg_I (pc' := 25) lf_0_113 hW g1049 sh_35 (by decide) (by decide) ty_35_15 rfl rfl (fun b1051 b1052 => ?_))
        refine wp_of e57 c57_25 (rw_icmp_ge (p1 := 32) (p2 := 28) (by decide) rfl ⟨i2.1, i2.2⟩ ⟨Int.le_trans (by decide) b1051, Int.le_trans b1052 (by decide)⟩ (fun c1053 => ?_) (fun c1053 => ?_))
        · refine wp_of e57 c57_32 (rw_iconst (pc' := 33) rfl ?_)
          exact wp_zreturn e57 c57_33 rfl (by omega) ⟨rfl, rfl, 0, rfl, ⟨by decide, by decide⟩, (Or.inr ⟨by omega, by omega⟩)⟩
        · refine wp_of e57 c57_28 (rw_iconst (pc' := 29) rfl ?_)
          refine wp_of e57 c57_29 (rw_goto (p1 := 33) (by decide) ?_)
          exact wp_zreturn e57 c57_33 rfl (by omega) ⟨rfl, rfl, 1, rfl, ⟨by decide, by decide⟩, (Or.inl ⟨by omega, by omega⟩)⟩
  · show wp _ _ 57 5 [(0, .ref r0), (1, vI a1), (2, vI a2)] [vI z1035] _ H _
    refine wp_of e57 c57_5 (rw_if_eq (p1 := 32) (p2 := 8) (by decide) rfl ⟨Int.le_trans (by decide) b1036.1, Int.le_trans b1036.2 (by decide)⟩ (fun c1054 => ?_) (fun c1054 => ?_))
    · refine wp_of e57 c57_32 (rw_iconst (pc' := 33) rfl ?_)
      exact wp_zreturn e57 c57_33 rfl (by omega) ⟨rfl, rfl, 0, rfl, ⟨by decide, by decide⟩, (Or.inr ⟨by omega, by omega⟩)⟩
    · exfalso
      omega
/-! StrikeAwake.say(II)Z  -/
abbrev uq_62 (r0 : Nat) (a1 : Int) (a2 : Int) (cu : Nat) (e : xD) (d : xD) (n : Int) (nY : Int) (gY : Nat → Int) (cY : Int) (T : wq_T) (H : wq_H) : Option Value → wq_T → wq_H → Prop := fun r T' H' => T = T' ∧ WT T H' ∧ wfr [(35, 16), (1, 10)] T H H' ∧ ∃ z : Int, some (vI z) = r ∧ (0 ≤ z ∧ z ≤ 1) ∧ (((z = 1) ∧ ((0 ≤ a1 ∧ a1 < d 0 3) ∧ 0 ≤ a2 ∧ a2 < ((xsp d (a1).toNat).length : Int)) ∧ (SG d (xup gY (a1).toNat a2)) ∧ CY T H' cu nY (xup gY (a1).toNat a2) cY) ∨ ((z = 0) ∧ ((a1 < 0 ∨ d 0 3 ≤ a1) ∨ a2 < 0 ∨ ((xsp d (a1).toNat).length : Int) ≤ a2) ∧ CY T H' cu nY gY cY))
set_option maxHeartbeats 4000000 in
theorem u_62 {kt : Nat → Option mc_E} {T : wq_T} {H : wq_H} {r0 : Nat} {a1 : Int} {a2 : Int} {cu : Nat} {e : xD} {d : xD} {n : Int} {nY : Int} {gY : Nat → Int} {cY : Int} (hW : WT T H) (g0 : T.2.2.2 r0 = some 1) (i1 : (-2147483648) ≤ a1 ∧ a1 ≤ 2147483647) (i2 : (-2147483648) ≤ a2 ∧ a2 ≤ 2147483647) (qcu : H r0 6 = (cu : Int)) (gcu : T.2.2.2 cu = some 27) (p0 : e 0 3 = d 0 3) (p1 : e 0 0 = d 0 0) (p2 : nY = d 0 3) (p3 : SG d gY) (hCU_cu : CU T H cu e d n) (hCY_cu : CY T H cu nY gY cY) (hDD_cu : DD T H cu ) : wpc kt 3 62 [.ref r0, vI a1, vI a2] T H (uq_62 r0 a1 a2 cu e d n nY gY cY T H) := by
  refine wp_enter e62 (Nat.le_of_ble_eq_true rfl) rfl ?_
  have f0 : wfr [(35, 16), (1, 10)] T H H := wfr.rf
  show wp _ _ 62 0 [(0, .ref r0), (1, vI a1), (2, vI a2)] [] _ H _
  have u1056 := CU_k hCU_cu
  have _xl := @xsp_len d (a1).toNat hCU_cu.2.1.1
  refine wp_of e62 c62_0 (rw_aload_n (pc' := 1) (v := .ref r0) rfl rfl rfl ?_)
  refine wp_of e62 c62_1 (rw_iload_n (pc' := 2) (z := a1) rfl rfl ?_)
  refine wp_of e62 c62_2 (rw_iload_n (pc' := 3) (z := a2) rfl rfl ?_)
  refine wp_of e62 c62_3 (xc_V (pc' := 6) (r := r0) (as := [vI a1, vI a2]) (st := []) (lm_0_118) rfl rfl (Nat.le_of_ble_eq_true rfl) hW g0 sh_1 (by decide) rfl (by decide) (u_57 (e := e) (d := d) (n := n) hW g0 ⟨i1.1, i1.2⟩ ⟨i2.1, i2.2⟩ qcu gcu (by omega) (by omega) hCU_cu) (fun R1057 T1058 H1059 p1060 => ?_))
  obtain ⟨e1061, e1063, z1064, e1062, b1065, p1066⟩ := p1060
  subst e1061
  subst e1062
  subst e1063
  rcases p1066 with ⟨a1067, a1068⟩ | ⟨a1069, a1070⟩
  · show wp _ _ 62 6 [(0, .ref r0), (1, vI a1), (2, vI a2)] [vI z1064] _ H _
    refine wp_of e62 c62_6 (rw_if_ne (p1 := 15) (p2 := 9) (by decide) rfl ⟨Int.le_trans (by decide) b1065.1, Int.le_trans b1065.2 (by decide)⟩ (fun c1071 => ?_) (fun c1071 => ?_))
    · refine wp_of e62 c62_15 (rw_aload_n (pc' := 16) (v := .ref r0) rfl rfl rfl ?_)
      refine wp_of e62 c62_16 (xg_K (pc' := 19) lf_0_51 hW g0 sh_1 (by decide) (by decide) rfl qcu rfl ?_)
      refine wp_of e62 c62_19 (xg_R (pc' := 22) lf_0_109 hW gcu sh_27 (by decide) (by decide) ty_27_0 rfl rfl (fun r1072 q1073 g1074 => ?_))
      refine wp_of e62 c62_22 (rw_iload_n (pc' := 23) (z := a1) rfl rfl ?_)
      refine wp_of e62 c62_23 (xa_R (pc' := 24) (by decide) hW g1074 sh_28 (by decide) (ty_28 _) (by omega) (by omega) rfl (fun r1075 q1076 g1077 => ?_))
      refine wp_of e62 c62_24 (rw_iload_n (pc' := 25) (z := a2) rfl rfl ?_)
      refine wp_of e62 c62_25 (xp_I (pc' := 28) lf_0_148 hW g1077 sh_35 (by decide) (by decide) ty_35_16 rfl rfl (by omega) (by omega) ⟨i2.1, i2.2⟩ rfl (fun H1078 e1079 w1080 => ?_))
      have f1081 := f0.put' e1079 g1077 rfl
      have k1082 : H1078 r1075 16 = a2 := wq_u_s e1079
      have h1083 : CY T H1078 cu nY (xup gY (a1).toNat a2) cY := CY_put hDD_cu q1073 g1074 gcu q1076 g1077 (k := (a1).toNat) (by omega) (by omega) e1079 hCY_cu
      refine wp_of e62 c62_28 (rw_aload_n (pc' := 29) (v := .ref r0) rfl rfl rfl ?_)
      refine wp_of e62 c62_29 (xc_V (pc' := 32) (r := r0) (as := []) (st := []) (lm_0_151) rfl rfl (Nat.le_of_ble_eq_true rfl) w1080 g0 sh_1 (by decide) rfl (by decide) (u_64  w1080 g0) (fun R1084 T1085 H1086 p1087 => ?_))
      obtain ⟨e1088, w1090, f1091, z1092, e1089, b1093, p1094⟩ := p1087
      subst e1088
      subst e1089
      obtain ⟨a1095, a1096⟩ := p1094
      have f1097 := f1081.tr f1091 rfl
      show wp _ _ 62 32 [(0, .ref r0), (1, vI a1), (2, vI a2)] [vI z1092] _ H1086 _
      have h1098 : CY T H1086 cu nY (xup gY (a1).toNat a2) cY := (CY_fr w1080 gcu f1091 rfl h1083)
      exact wp_zreturn e62 c62_32 rfl (by omega) ⟨rfl, w1090, f1097, z1092, rfl, ⟨b1093.1, b1093.2⟩, (Or.inl ⟨by omega, by omega, SG_up (by assumption) (by omega) (by omega), h1098⟩)⟩
    · exfalso
      omega
  · show wp _ _ 62 6 [(0, .ref r0), (1, vI a1), (2, vI a2)] [vI z1064] _ H _
    refine wp_of e62 c62_6 (rw_if_ne (p1 := 15) (p2 := 9) (by decide) rfl ⟨Int.le_trans (by decide) b1065.1, Int.le_trans b1065.2 (by decide)⟩ (fun c1099 => ?_) (fun c1099 => ?_))
    · exfalso
      omega
    · refine wp_of e62 c62_9 (rw_aload_n (pc' := 10) (v := .ref r0) rfl rfl rfl ?_)
      refine wp_of e62 c62_10 (rw_iconst (pc' := 11) rfl ?_)
      refine wp_of e62 c62_11 (xc_V (pc' := 14) (r := r0) (as := [vI 1]) (st := []) (lm_0_145) rfl rfl (Nat.le_of_ble_eq_true rfl) hW g0 sh_1 (by decide) rfl (by decide) (u_63  hW g0 ⟨by decide, by decide⟩) (fun R1100 T1101 H1102 p1103 => ?_))
      obtain ⟨e1104, w1106, f1107, z1108, e1105, b1109, p1110⟩ := p1103
      subst e1104
      subst e1105
      obtain ⟨a1111, a1112⟩ := p1110
      have f1113 := f0.tr f1107 rfl
      show wp _ _ 62 14 [(0, .ref r0), (1, vI a1), (2, vI a2)] [vI z1108] _ H1102 _
      have h1114 : CY T H1102 cu nY gY cY := (CY_fr hW gcu f1107 rfl hCY_cu)
      exact wp_zreturn e62 c62_14 rfl (by omega) ⟨rfl, w1106, f1113, z1108, rfl, ⟨b1109.1, b1109.2⟩, (Or.inr ⟨by omega, by omega, h1114⟩)⟩
/-! StrikeAwake.strike(II)I  -/
abbrev uq_153 (r0 : Nat) (a1 : Int) (a2 : Int) (cu : Nat) (e : xD) (d : xD) (n : Int) (y : Int) (w : Int) (T : wq_T) (H : wq_H) : Option Value → wq_T → wq_H → Prop := fun r T' H' => T = T' ∧ WT T H' ∧ wfr [(12, 9), (27, 16), (1, 10), (29, 999), (30, 999)] T H H' ∧ ∃ z : Int, some (vI z) = r ∧ ((-2147483648) ≤ z ∧ z ≤ 2147483647) ∧ (((z = -1) ∧ ((y < 0 ∨ d 0 0 ≤ y) ∨ a2 < 0 ∨ 99 < a2) ∧ CU T H' cu e d n) ∨ ((0 ≤ z ∧ z ≤ 24) ∧ ((0 ≤ y ∧ y < d 0 0) ∧ 0 ≤ a2 ∧ a2 ≤ 99) ∧ (z = xcn ((wq_u e 13 (y).toNat w) 13) 24) ∧ CU T H' cu (wq_u e 13 (y).toNat w) d n))
set_option maxHeartbeats 4000000 in
theorem u_153 {kt : Nat → Option mc_E} {T : wq_T} {H : wq_H} {r0 : Nat} {a1 : Int} {a2 : Int} {cu : Nat} {e : xD} {d : xD} {n : Int} {y : Int} {w : Int} (hW : WT T H) (g0 : T.2.2.2 r0 = some 1) (i1 : (-2147483648) ≤ a1 ∧ a1 ≤ 2147483647) (i2 : (-2147483648) ≤ a2 ∧ a2 ≤ 2147483647) (qcu : H r0 6 = (cu : Int)) (gcu : T.2.2.2 cu = some 27) (p0 : e 0 3 = d 0 3) (p1 : e 0 0 = d 0 0) (p2 : a1 = y) (p3 : w = a2 + 1) (hCU_cu : CU T H cu e d n) : wpc kt 3 153 [.ref r0, vI a1, vI a2] T H (uq_153 r0 a1 a2 cu e d n y w T H) := by
  refine wp_enter e153 (Nat.le_of_ble_eq_true rfl) rfl ?_
  have f0 : wfr [(12, 9), (27, 16), (1, 10), (29, 999), (30, 999)] T H H := wfr.rf
  show wp _ _ 153 0 [(0, .ref r0), (1, vI a1), (2, vI a2)] [] _ H _
  have u1105 := CU_k hCU_cu
  have b1106 : 0 ≤ H cu 7 ∧ H cu 7 ≤ 24 := hW.box gcu (n := 19) rfl (by decide) rfl
  have h1107 : DC T H cu e := hCU_cu.1
  have h1108 : CS T H cu d 0 := hCU_cu.2.1
  refine wp_of e153 c153_0 (rw_aload_n (pc' := 1) (v := .ref r0) rfl rfl rfl ?_)
  refine wp_of e153 c153_1 (rw_iload_n (pc' := 2) (z := a1) rfl rfl ?_)
  refine wp_of e153 c153_2 (xc_V (pc' := 5) (r := r0) (as := [vI a1]) (st := []) (lm_0_132) rfl rfl (Nat.le_of_ble_eq_true rfl) hW g0 sh_1 (by decide) rfl (by decide) (u_60  hW g0 ⟨i1.1, i1.2⟩ qcu gcu) (fun R1109 T1110 H1111 p1112 => ?_))
  obtain ⟨e1113, e1115, z1116, e1114, b1117, p1118⟩ := p1112
  subst e1113
  subst e1114
  subst e1115
  rcases p1118 with ⟨a1119, a1120⟩ | ⟨a1121, a1122⟩
  · show wp _ _ 153 5 [(0, .ref r0), (1, vI a1), (2, vI a2)] [vI z1116] _ H _
    refine wp_of e153 c153_5 (rw_if_ne (p1 := 14) (p2 := 8) (by decide) rfl ⟨Int.le_trans (by decide) b1117.1, Int.le_trans b1117.2 (by decide)⟩ (fun c1123 => ?_) (fun c1123 => ?_))
    · refine wp_of e153 c153_14 (rw_iload_n (pc' := 15) (z := a2) rfl rfl ?_)
      refine wp_of e153 c153_15 (rw_if_lt (p1 := 24) (p2 := 18) (by decide) rfl ⟨i2.1, i2.2⟩ (fun c1124 => ?_) (fun c1124 => ?_))
      · refine wp_of e153 c153_24 (rw_aload_n (pc' := 25) (v := .ref r0) rfl rfl rfl ?_)
        refine wp_of e153 c153_25 (rw_iconst (pc' := 26) rfl ?_)
        refine wp_of e153 c153_26 (xc_V (pc' := 29) (r := r0) (as := [vI 2]) (st := []) (lm_0_70) rfl rfl (Nat.le_of_ble_eq_true rfl) hW g0 sh_1 (by decide) rfl (by decide) (u_12  hW g0 ⟨by decide, by decide⟩) (fun R1125 T1126 H1127 p1128 => ?_))
        obtain ⟨e1129, w1131, f1132, z1133, e1130, b1134, p1135⟩ := p1128
        subst e1129
        subst e1130
        obtain ⟨a1136, a1137⟩ := p1135
        have f1138 := f0.tr f1132 rfl
        show wp _ _ 153 29 [(0, .ref r0), (1, vI a1), (2, vI a2)] [vI z1133] _ H1127 _
        have h1139 : CU T H1127 cu e d n := (CU_fr hW gcu f1132 rfl hCU_cu)
        exact wp_ireturn e153 c153_29 rfl ⟨rfl, w1131, f1138, z1133, rfl, ⟨b1134.1, b1134.2⟩, (Or.inl ⟨by omega, by omega, h1139⟩)⟩
      · refine wp_of e153 c153_18 (rw_iload_n (pc' := 19) (z := a2) rfl rfl ?_)
        refine wp_of e153 c153_19 (rw_bipush (pc' := 21) (z := 99) rfl (by decide) ?_)
        refine wp_of e153 c153_21 (rw_icmp_le (p1 := 30) (p2 := 24) (by decide) rfl ⟨i2.1, i2.2⟩ ⟨by decide, by decide⟩ (fun c1140 => ?_) (fun c1140 => ?_))
        · refine wp_of e153 c153_30 (rw_aload_n (pc' := 31) (v := .ref r0) rfl rfl rfl ?_)
          refine wp_of e153 c153_31 (xg_K (pc' := 34) lf_0_51 hW g0 sh_1 (by decide) (by decide) rfl qcu rfl ?_)
          refine wp_of e153 c153_34 (rw_iload_n (pc' := 35) (z := a1) rfl rfl ?_)
          refine wp_of e153 c153_35 (rw_iload_n (pc' := 36) (z := a2) rfl rfl ?_)
          refine wp_of e153 c153_36 (xc_V (pc' := 39) (r := cu) (as := [vI a1, vI a2]) (st := []) (lm_0_291) rfl rfl (Nat.le_of_ble_eq_true rfl) hW gcu sh_27 (by decide) rfl (by decide) (u_40 (d := e) (w := w) (y := y) hW gcu ⟨by omega, by omega⟩ ⟨by omega, by omega⟩ (by omega) (by omega) h1107) (fun R1141 T1142 H1143 p1144 => ?_))
          obtain ⟨e1145, w1147, f1148, e1146, p1149⟩ := p1144
          subst e1145
          subst e1146
          have f1151 := f0.tr f1148 rfl
          show wp _ _ 153 39 [(0, .ref r0), (1, vI a1), (2, vI a2)] [] _ H1143 _
          have u1152 := DC_k p1149
          refine wp_of e153 c153_39 (rw_aload_n (pc' := 40) (v := .ref r0) rfl rfl rfl ?_)
          refine wp_of e153 c153_40 (xg_R (pc' := 43) lf_0_30 w1147 g0 sh_1 (by decide) (by decide) ty_1_3 rfl rfl (fun r1153 q1154 g1155 => ?_))
          refine wp_of e153 c153_43 (xc_V (pc' := 46) (r := r1153) (as := []) (st := []) (lm_0_93) rfl rfl (Nat.le_of_ble_eq_true rfl) w1147 g1155 sh_12 (by decide) rfl (by decide) (s_50 w1147 g1155) (fun R1156 T1157 H1158 p1159 => ?_))
          obtain ⟨e1160, w1162, f1163, e1161⟩ := p1159
          subst e1160
          subst e1161
          have f1164 := f1151.tr f1163 rfl
          show wp _ _ 153 46 [(0, .ref r0), (1, vI a1), (2, vI a2)] [] _ H1158 _
          refine wp_of e153 c153_46 (rw_aload_n (pc' := 47) (v := .ref r0) rfl rfl rfl ?_)
          refine wp_of e153 c153_47 (rw_aload_n (pc' := 48) (v := .ref r0) rfl rfl rfl ?_)
          have k1165 : H1158 r0 6 = H r0 6 := ((f1163 r0 6 _ g0 rfl).trans (f1148 r0 6 _ g0 rfl))
          have q1166 : H1158 r0 6 = (cu : Int) := k1165.trans qcu
          refine wp_of e153 c153_48 (xg_K (pc' := 51) lf_0_51 w1162 g0 sh_1 (by decide) (by decide) rfl q1166 rfl ?_)
          have k1167 : H1158 cu 16 = H1143 cu 16 := (f1163 cu 16 _ gcu rfl)
          refine wp_of e153 c153_51 (xg_I (pc' := 54) lf_0_295 w1162 gcu sh_27 (by decide) (by decide) ty_27_16 rfl rfl (fun b1168 b1169 => ?_))
          refine wp_of e153 c153_54 (xc_V (pc' := 57) (r := r0) (as := [vI (H1158 cu 16)]) (st := []) (lm_0_99) rfl rfl (Nat.le_of_ble_eq_true rfl) w1162 g0 sh_1 (by decide) rfl (by decide) (u_51  w1162 g0 ⟨Int.le_trans (by decide) b1168, Int.le_trans b1169 (by decide)⟩) (fun R1170 T1171 H1172 p1173 => ?_))
          obtain ⟨e1174, w1176, f1177, z1178, e1175, b1179, p1180⟩ := p1173
          subst e1174
          subst e1175
          obtain ⟨a1181, a1182⟩ := p1180
          have f1183 := f1164.tr f1177 rfl
          show wp _ _ 153 57 [(0, .ref r0), (1, vI a1), (2, vI a2)] [vI z1178] _ H1172 _
          have k1184 : H1172 cu 18 = H cu 18 := ((f1177 cu 18 _ gcu rfl).trans ((f1163 cu 18 _ gcu rfl).trans (f1148 cu 18 _ gcu rfl)))
          have h1185 : DC T H1172 cu (wq_u e 13 y.toNat w) := (DC_fr w1162 gcu f1177 rfl (DC_fr w1147 gcu f1163 rfl p1149))
          have h1186 : CS T H1172 cu d 0 := (CS_fr w1162 gcu f1177 rfl (CS_fr w1147 gcu f1163 rfl (CS_fr hW gcu f1148 rfl h1108)))
          exact wp_ireturn e153 c153_57 rfl ⟨rfl, w1176, f1183, z1178, rfl, ⟨b1179.1, b1179.2⟩, (Or.inr ⟨by omega, by omega, by omega, ⟨h1185, h1186, by omega⟩⟩)⟩
        · refine wp_of e153 c153_24 (rw_aload_n (pc' := 25) (v := .ref r0) rfl rfl rfl ?_)
          refine wp_of e153 c153_25 (rw_iconst (pc' := 26) rfl ?_)
          refine wp_of e153 c153_26 (xc_V (pc' := 29) (r := r0) (as := [vI 2]) (st := []) (lm_0_70) rfl rfl (Nat.le_of_ble_eq_true rfl) hW g0 sh_1 (by decide) rfl (by decide) (u_12  hW g0 ⟨by decide, by decide⟩) (fun R1187 T1188 H1189 p1190 => ?_))
          obtain ⟨e1191, w1193, f1194, z1195, e1192, b1196, p1197⟩ := p1190
          subst e1191
          subst e1192
          obtain ⟨a1198, a1199⟩ := p1197
          have f1200 := f0.tr f1194 rfl
          show wp _ _ 153 29 [(0, .ref r0), (1, vI a1), (2, vI a2)] [vI z1195] _ H1189 _
          have h1201 : CU T H1189 cu e d n := (CU_fr hW gcu f1194 rfl hCU_cu)
          exact wp_ireturn e153 c153_29 rfl ⟨rfl, w1193, f1200, z1195, rfl, ⟨b1196.1, b1196.2⟩, (Or.inl ⟨by omega, by omega, h1201⟩)⟩
    · exfalso
      omega
  · show wp _ _ 153 5 [(0, .ref r0), (1, vI a1), (2, vI a2)] [vI z1116] _ H _
    refine wp_of e153 c153_5 (rw_if_ne (p1 := 14) (p2 := 8) (by decide) rfl ⟨Int.le_trans (by decide) b1117.1, Int.le_trans b1117.2 (by decide)⟩ (fun c1202 => ?_) (fun c1202 => ?_))
    · exfalso
      omega
    · refine wp_of e153 c153_8 (rw_aload_n (pc' := 9) (v := .ref r0) rfl rfl rfl ?_)
      refine wp_of e153 c153_9 (rw_iconst (pc' := 10) rfl ?_)
      refine wp_of e153 c153_10 (xc_V (pc' := 13) (r := r0) (as := [vI 1]) (st := []) (lm_0_70) rfl rfl (Nat.le_of_ble_eq_true rfl) hW g0 sh_1 (by decide) rfl (by decide) (u_12  hW g0 ⟨by decide, by decide⟩) (fun R1203 T1204 H1205 p1206 => ?_))
      obtain ⟨e1207, w1209, f1210, z1211, e1208, b1212, p1213⟩ := p1206
      subst e1207
      subst e1208
      obtain ⟨a1214, a1215⟩ := p1213
      have f1216 := f0.tr f1210 rfl
      show wp _ _ 153 13 [(0, .ref r0), (1, vI a1), (2, vI a2)] [vI z1211] _ H1205 _
      have h1217 : CU T H1205 cu e d n := (CU_fr hW gcu f1210 rfl hCU_cu)
      exact wp_ireturn e153 c153_13 rfl ⟨rfl, w1209, f1216, z1211, rfl, ⟨b1212.1, b1212.2⟩, (Or.inl ⟨by omega, by omega, h1217⟩)⟩
/-! StrikeAwake.still(I)Z  -/
abbrev uq_154 (r0 : Nat) (a1 : Int) (cu : Nat) (e : xD) (d : xD) (n : Int) (y : Int) (T : wq_T) (H : wq_H) : Option Value → wq_T → wq_H → Prop := fun r T' H' => T = T' ∧ WT T H' ∧ wfr [(12, 9), (27, 16), (1, 10), (29, 999), (30, 999)] T H H' ∧ ∃ z : Int, some (vI z) = r ∧ (0 ≤ z ∧ z ≤ 1) ∧ (((z = 1) ∧ (0 ≤ y ∧ y < d 0 0) ∧ (e 13 (y).toNat > 0) ∧ CU T H' cu (wq_u e 13 (y).toNat 0) d n) ∨ ((z = 0) ∧ ((y < 0 ∨ d 0 0 ≤ y) ∨ e 13 (y).toNat ≤ 0) ∧ CU T H' cu e d n))
set_option maxHeartbeats 4000000 in
theorem u_154 {kt : Nat → Option mc_E} {T : wq_T} {H : wq_H} {r0 : Nat} {a1 : Int} {cu : Nat} {e : xD} {d : xD} {n : Int} {y : Int} (hW : WT T H) (g0 : T.2.2.2 r0 = some 1) (i1 : (-2147483648) ≤ a1 ∧ a1 ≤ 2147483647) (qcu : H r0 6 = (cu : Int)) (gcu : T.2.2.2 cu = some 27) (p0 : e 0 3 = d 0 3) (p1 : e 0 0 = d 0 0) (p2 : a1 = y) (hCU_cu : CU T H cu e d n) : wpc kt 3 154 [.ref r0, vI a1] T H (uq_154 r0 a1 cu e d n y T H) := by
  refine wp_enter e154 (Nat.le_of_ble_eq_true rfl) rfl ?_
  have f0 : wfr [(12, 9), (27, 16), (1, 10), (29, 999), (30, 999)] T H H := wfr.rf
  show wp _ _ 154 0 [(0, .ref r0), (1, vI a1)] [] _ H _
  have u1091 := CU_k hCU_cu
  have b1092 : 0 ≤ H cu 7 ∧ H cu 7 ≤ 24 := hW.box gcu (n := 19) rfl (by decide) rfl
  have h1093 : DC T H cu e := hCU_cu.1
  have h1094 : CS T H cu d 0 := hCU_cu.2.1
  have h1095 : ST T H cu (e 13) := hCU_cu.1.2.2.1
  refine wp_of e154 c154_0 (rw_aload_n (pc' := 1) (v := .ref r0) rfl rfl rfl ?_)
  refine wp_of e154 c154_1 (rw_iload_n (pc' := 2) (z := a1) rfl rfl ?_)
  refine wp_of e154 c154_2 (xc_V (pc' := 5) (r := r0) (as := [vI a1]) (st := []) (lm_0_132) rfl rfl (Nat.le_of_ble_eq_true rfl) hW g0 sh_1 (by decide) rfl (by decide) (u_60  hW g0 ⟨i1.1, i1.2⟩ qcu gcu) (fun R1096 T1097 H1098 p1099 => ?_))
  obtain ⟨e1100, e1102, z1103, e1101, b1104, p1105⟩ := p1099
  subst e1100
  subst e1101
  subst e1102
  rcases p1105 with ⟨a1106, a1107⟩ | ⟨a1108, a1109⟩
  · show wp _ _ 154 5 [(0, .ref r0), (1, vI a1)] [vI z1103] _ H _
    refine wp_of e154 c154_5 (rw_if_eq (p1 := 20) (p2 := 8) (by decide) rfl ⟨Int.le_trans (by decide) b1104.1, Int.le_trans b1104.2 (by decide)⟩ (fun c1110 => ?_) (fun c1110 => ?_))
    · exfalso
      omega
    · have _ty : (a1).toNat = (y).toNat := by rw [p2]
      refine wp_of e154 c154_8 (rw_aload_n (pc' := 9) (v := .ref r0) rfl rfl rfl ?_)
      refine wp_of e154 c154_9 (xg_K (pc' := 12) lf_0_51 hW g0 sh_1 (by decide) (by decide) rfl qcu rfl ?_)
      refine wp_of e154 c154_12 (xg_R (pc' := 15) lf_0_262 hW gcu sh_27 (by decide) (by decide) ty_27_1 rfl rfl (fun r1111 q1112 g1113 => ?_))
      refine wp_of e154 c154_15 (rw_iload_n (pc' := 16) (z := a1) rfl rfl ?_)
      refine wp_of e154 c154_16 (xa_I (so := 0) (pc' := 17) hW g1113 sh_29 (by decide) (ty_29 _) (by omega) (by omega) rfl (fun b1114 b1115 => ?_))
      have := ST_at h1095 q1112 (k := (a1.toNat)) (by omega)
      have _tz : e 13 (a1.toNat) = e 13 (y).toNat := by rw [← p2]
      refine wp_of e154 c154_17 (rw_if_ge (p1 := 26) (p2 := 20) (by decide) rfl ⟨b1114, b1115⟩ (fun c1116 => ?_) (fun c1116 => ?_))
      · refine wp_of e154 c154_26 (rw_aload_n (pc' := 27) (v := .ref r0) rfl rfl rfl ?_)
        refine wp_of e154 c154_27 (xg_K (pc' := 30) lf_0_51 hW g0 sh_1 (by decide) (by decide) rfl qcu rfl ?_)
        refine wp_of e154 c154_30 (rw_iload_n (pc' := 31) (z := a1) rfl rfl ?_)
        refine wp_of e154 c154_31 (rw_bipush (pc' := 33) (z := -2) rfl (by decide) ?_)
        refine wp_of e154 c154_33 (xc_V (pc' := 36) (r := cu) (as := [vI a1, vI (-2)]) (st := []) (lm_0_291) rfl rfl (Nat.le_of_ble_eq_true rfl) hW gcu sh_27 (by decide) rfl (by decide) (u_40 (d := e) (w := 0) (y := y) hW gcu ⟨by omega, by omega⟩ ⟨by decide, by decide⟩ (by omega) (by omega) h1093) (fun R1117 T1118 H1119 p1120 => ?_))
        obtain ⟨e1121, w1123, f1124, e1122, p1125⟩ := p1120
        subst e1121
        subst e1122
        have f1127 := f0.tr f1124 rfl
        show wp _ _ 154 36 [(0, .ref r0), (1, vI a1)] [] _ H1119 _
        have u1128 := DC_k p1125
        refine wp_of e154 c154_36 (rw_aload_n (pc' := 37) (v := .ref r0) rfl rfl rfl ?_)
        refine wp_of e154 c154_37 (xg_R (pc' := 40) lf_0_30 w1123 g0 sh_1 (by decide) (by decide) ty_1_3 rfl rfl (fun r1129 q1130 g1131 => ?_))
        refine wp_of e154 c154_40 (xc_V (pc' := 43) (r := r1129) (as := []) (st := []) (lm_0_93) rfl rfl (Nat.le_of_ble_eq_true rfl) w1123 g1131 sh_12 (by decide) rfl (by decide) (s_50 w1123 g1131) (fun R1132 T1133 H1134 p1135 => ?_))
        obtain ⟨e1136, w1138, f1139, e1137⟩ := p1135
        subst e1136
        subst e1137
        have f1140 := f1127.tr f1139 rfl
        show wp _ _ 154 43 [(0, .ref r0), (1, vI a1)] [] _ H1134 _
        refine wp_of e154 c154_43 (rw_aload_n (pc' := 44) (v := .ref r0) rfl rfl rfl ?_)
        refine wp_of e154 c154_44 (xc_V (pc' := 47) (r := r0) (as := []) (st := []) (lm_0_151) rfl rfl (Nat.le_of_ble_eq_true rfl) w1138 g0 sh_1 (by decide) rfl (by decide) (u_64  w1138 g0) (fun R1141 T1142 H1143 p1144 => ?_))
        obtain ⟨e1145, w1147, f1148, z1149, e1146, b1150, p1151⟩ := p1144
        subst e1145
        subst e1146
        obtain ⟨a1152, a1153⟩ := p1151
        have f1154 := f1140.tr f1148 rfl
        show wp _ _ 154 47 [(0, .ref r0), (1, vI a1)] [vI z1149] _ H1143 _
        have k1155 : H1143 cu 18 = H cu 18 := ((f1148 cu 18 _ gcu rfl).trans ((f1139 cu 18 _ gcu rfl).trans (f1124 cu 18 _ gcu rfl)))
        have h1156 : DC T H1143 cu (wq_u e 13 y.toNat 0) := (DC_fr w1138 gcu f1148 rfl (DC_fr w1123 gcu f1139 rfl p1125))
        have h1157 : CS T H1143 cu d 0 := (CS_fr w1138 gcu f1148 rfl (CS_fr w1123 gcu f1139 rfl (CS_fr hW gcu f1124 rfl h1094)))
        exact wp_zreturn e154 c154_47 rfl (by omega) ⟨rfl, w1147, f1154, z1149, rfl, ⟨b1150.1, b1150.2⟩, (Or.inl ⟨by omega, by omega, by omega, ⟨h1156, h1157, by omega⟩⟩)⟩
      · refine wp_of e154 c154_20 (rw_aload_n (pc' := 21) (v := .ref r0) rfl rfl rfl ?_)
        refine wp_of e154 c154_21 (rw_iconst (pc' := 22) rfl ?_)
        refine wp_of e154 c154_22 (xc_V (pc' := 25) (r := r0) (as := [vI 1]) (st := []) (lm_0_145) rfl rfl (Nat.le_of_ble_eq_true rfl) hW g0 sh_1 (by decide) rfl (by decide) (u_63  hW g0 ⟨by decide, by decide⟩) (fun R1158 T1159 H1160 p1161 => ?_))
        obtain ⟨e1162, w1164, f1165, z1166, e1163, b1167, p1168⟩ := p1161
        subst e1162
        subst e1163
        obtain ⟨a1169, a1170⟩ := p1168
        have f1171 := f0.tr f1165 rfl
        show wp _ _ 154 25 [(0, .ref r0), (1, vI a1)] [vI z1166] _ H1160 _
        have h1172 : CU T H1160 cu e d n := (CU_fr hW gcu f1165 rfl hCU_cu)
        exact wp_zreturn e154 c154_25 rfl (by omega) ⟨rfl, w1164, f1171, z1166, rfl, ⟨b1167.1, b1167.2⟩, (Or.inr ⟨by omega, by omega, h1172⟩)⟩
  · show wp _ _ 154 5 [(0, .ref r0), (1, vI a1)] [vI z1103] _ H _
    refine wp_of e154 c154_5 (rw_if_eq (p1 := 20) (p2 := 8) (by decide) rfl ⟨Int.le_trans (by decide) b1104.1, Int.le_trans b1104.2 (by decide)⟩ (fun c1173 => ?_) (fun c1173 => ?_))
    · refine wp_of e154 c154_20 (rw_aload_n (pc' := 21) (v := .ref r0) rfl rfl rfl ?_)
      refine wp_of e154 c154_21 (rw_iconst (pc' := 22) rfl ?_)
      refine wp_of e154 c154_22 (xc_V (pc' := 25) (r := r0) (as := [vI 1]) (st := []) (lm_0_145) rfl rfl (Nat.le_of_ble_eq_true rfl) hW g0 sh_1 (by decide) rfl (by decide) (u_63  hW g0 ⟨by decide, by decide⟩) (fun R1174 T1175 H1176 p1177 => ?_))
      obtain ⟨e1178, w1180, f1181, z1182, e1179, b1183, p1184⟩ := p1177
      subst e1178
      subst e1179
      obtain ⟨a1185, a1186⟩ := p1184
      have f1187 := f0.tr f1181 rfl
      show wp _ _ 154 25 [(0, .ref r0), (1, vI a1)] [vI z1182] _ H1176 _
      have h1188 : CU T H1176 cu e d n := (CU_fr hW gcu f1181 rfl hCU_cu)
      exact wp_zreturn e154 c154_25 rfl (by omega) ⟨rfl, w1180, f1187, z1182, rfl, ⟨b1183.1, b1183.2⟩, (Or.inr ⟨by omega, by omega, h1188⟩)⟩
    · exfalso
      omega
/-! java/lang/Integer.bitCount(I)I  -/
abbrev uq_126 (a0 : Int) (T : wq_T) (H : wq_H) : Option Value → wq_T → wq_H → Prop := fun r T' H' => T = T' ∧ H = H' ∧ ∃ z : Int, some (vI z) = r ∧ (0 ≤ z ∧ z ≤ 32) ∧ (((z = ((nbS a0 : Nat) : Int))))
set_option maxHeartbeats 4000000 in
theorem u_126 {kt : Nat → Option mc_E} {T : wq_T} {H : wq_H} {a0 : Int} (hW : WT T H) (i0 : 0 ≤ a0 ∧ a0 ≤ 63) : wpc kt 1 126 [vI a0] T H (uq_126 a0 T H) := by
  refine wp_enter e126 (Nat.le_of_ble_eq_true rfl) rfl ?_
  show wp _ _ 126 0 [(0, vI a0)] [] _ H _
  refine wp_of e126 c126_0 (rw_iload_n (pc' := 1) (z := a0) rfl rfl ?_)
  refine wp_of e126 c126_1 (rw_iload_n (pc' := 2) (z := a0) rfl rfl ?_)
  refine wp_of e126 c126_2 (rw_iconst (pc' := 3) rfl ?_)
  refine wp_of e126 c126_3 (rw_iushr (pc' := 4) rfl ?_)
  obtain ⟨v1027, e1028⟩ : ∃ x : Int, x = wq_ushr a0 1 := ⟨_, rfl⟩
  rw [← e1028]
  have b1029 : -2147483648 ≤ v1027 ∧ v1027 ≤ 2147483647 := by
    rw [e1028]
    exact wI_ushr _ _
  refine wp_of e126 c126_4 (rw_ldc_wI (pc' := 7) (z := 1431655765) rfl rfl rfl ?_)
  refine wp_of e126 c126_7 (rw_iand (pc' := 8) rfl ?_)
  obtain ⟨v1030, e1031⟩ : ∃ x : Int, x = wq_and v1027 1431655765 := ⟨_, rfl⟩
  rw [← e1031]
  have b1032 : 0 ≤ v1030 ∧ v1030 ≤ 1431655765 := by
    rw [e1031]
    exact wq_and_b _ (by omega) (by omega)
  refine wp_of e126 c126_8 (rw_isub (pc' := 9) rfl ?_)
  refine wp_of e126 c126_9 (rw_istore_n (pc' := 10) (z := a0 - v1030) (L' := [(0, vI (a0 - v1030))]) rfl rfl rfl ?_)
  refine wp_of e126 c126_10 (rw_iload_n (pc' := 11) (z := a0 - v1030) rfl rfl ?_)
  refine wp_of e126 c126_11 (rw_ldc_wI (pc' := 14) (z := 858993459) rfl rfl rfl ?_)
  refine wp_of e126 c126_14 (rw_iand (pc' := 15) rfl ?_)
  obtain ⟨v1033, e1034⟩ : ∃ x : Int, x = wq_and (a0 - v1030) 858993459 := ⟨_, rfl⟩
  rw [← e1034]
  have b1035 : 0 ≤ v1033 ∧ v1033 ≤ 858993459 := by
    rw [e1034]
    exact wq_and_b _ (by omega) (by omega)
  refine wp_of e126 c126_15 (rw_iload_n (pc' := 16) (z := a0 - v1030) rfl rfl ?_)
  refine wp_of e126 c126_16 (rw_iconst (pc' := 17) rfl ?_)
  refine wp_of e126 c126_17 (rw_iushr (pc' := 18) rfl ?_)
  obtain ⟨v1036, e1037⟩ : ∃ x : Int, x = wq_ushr (a0 - v1030) 2 := ⟨_, rfl⟩
  rw [← e1037]
  have b1038 : -2147483648 ≤ v1036 ∧ v1036 ≤ 2147483647 := by
    rw [e1037]
    exact wI_ushr _ _
  refine wp_of e126 c126_18 (rw_ldc_wI (pc' := 21) (z := 858993459) rfl rfl rfl ?_)
  refine wp_of e126 c126_21 (rw_iand (pc' := 22) rfl ?_)
  obtain ⟨v1039, e1040⟩ : ∃ x : Int, x = wq_and v1036 858993459 := ⟨_, rfl⟩
  rw [← e1040]
  have b1041 : 0 ≤ v1039 ∧ v1039 ≤ 858993459 := by
    rw [e1040]
    exact wq_and_b _ (by omega) (by omega)
  refine wp_of e126 c126_22 (rw_iadd (pc' := 23) rfl ?_)
  refine wp_of e126 c126_23 (rw_istore_n (pc' := 24) (z := v1033 + v1039) (L' := [(0, vI (v1033 + v1039))]) rfl rfl rfl ?_)
  refine wp_of e126 c126_24 (rw_iload_n (pc' := 25) (z := v1033 + v1039) rfl rfl ?_)
  refine wp_of e126 c126_25 (rw_iload_n (pc' := 26) (z := v1033 + v1039) rfl rfl ?_)
  refine wp_of e126 c126_26 (rw_iconst (pc' := 27) rfl ?_)
  refine wp_of e126 c126_27 (rw_iushr (pc' := 28) rfl ?_)
  obtain ⟨v1042, e1043⟩ : ∃ x : Int, x = wq_ushr (v1033 + v1039) 4 := ⟨_, rfl⟩
  rw [← e1043]
  have b1044 : -2147483648 ≤ v1042 ∧ v1042 ≤ 2147483647 := by
    rw [e1043]
    exact wI_ushr _ _
  refine wp_of e126 c126_28 (rw_iaddw (pc' := 29) rfl ?_)
  obtain ⟨v1045, e1046⟩ : ∃ x : Int, x = wq_w ((v1033 + v1039) + v1042) := ⟨_, rfl⟩
  rw [← e1046]
  have b1047 : -2147483648 ≤ v1045 ∧ v1045 ≤ 2147483647 := by
    rw [e1046]
    exact wI_w _
  have b1048 : (-2147483648 ≤ (v1033 + v1039) + v1042 ∧ (v1033 + v1039) + v1042 ≤ 2147483647) → v1045 = (v1033 + v1039) + v1042 := fun h => by rw [e1046]; exact wq_w_id h
  refine wp_of e126 c126_29 (rw_ldc_wI (pc' := 32) (z := 252645135) rfl rfl rfl ?_)
  refine wp_of e126 c126_32 (rw_iand (pc' := 33) rfl ?_)
  obtain ⟨v1049, e1050⟩ : ∃ x : Int, x = wq_and v1045 252645135 := ⟨_, rfl⟩
  rw [← e1050]
  have b1051 : 0 ≤ v1049 ∧ v1049 ≤ 252645135 := by
    rw [e1050]
    exact wq_and_b _ (by omega) (by omega)
  refine wp_of e126 c126_33 (rw_istore_n (pc' := 34) (z := v1049) (L' := [(0, vI v1049)]) rfl rfl rfl ?_)
  refine wp_of e126 c126_34 (rw_iload_n (pc' := 35) (z := v1049) rfl rfl ?_)
  refine wp_of e126 c126_35 (rw_iload_n (pc' := 36) (z := v1049) rfl rfl ?_)
  refine wp_of e126 c126_36 (rw_bipush (pc' := 38) (z := 8) rfl (by decide) ?_)
  refine wp_of e126 c126_38 (rw_iushr (pc' := 39) rfl ?_)
  obtain ⟨v1052, e1053⟩ : ∃ x : Int, x = wq_ushr v1049 8 := ⟨_, rfl⟩
  rw [← e1053]
  have b1054 : -2147483648 ≤ v1052 ∧ v1052 ≤ 2147483647 := by
    rw [e1053]
    exact wI_ushr _ _
  refine wp_of e126 c126_39 (rw_iaddw (pc' := 40) rfl ?_)
  obtain ⟨v1055, e1056⟩ : ∃ x : Int, x = wq_w (v1049 + v1052) := ⟨_, rfl⟩
  rw [← e1056]
  have b1057 : -2147483648 ≤ v1055 ∧ v1055 ≤ 2147483647 := by
    rw [e1056]
    exact wI_w _
  have b1058 : (-2147483648 ≤ v1049 + v1052 ∧ v1049 + v1052 ≤ 2147483647) → v1055 = v1049 + v1052 := fun h => by rw [e1056]; exact wq_w_id h
  refine wp_of e126 c126_40 (rw_istore_n (pc' := 41) (z := v1055) (L' := [(0, vI v1055)]) rfl rfl rfl ?_)
  refine wp_of e126 c126_41 (rw_iload_n (pc' := 42) (z := v1055) rfl rfl ?_)
  refine wp_of e126 c126_42 (rw_iload_n (pc' := 43) (z := v1055) rfl rfl ?_)
  refine wp_of e126 c126_43 (rw_bipush (pc' := 45) (z := 16) rfl (by decide) ?_)
  refine wp_of e126 c126_45 (rw_iushr (pc' := 46) rfl ?_)
  obtain ⟨v1059, e1060⟩ : ∃ x : Int, x = wq_ushr v1055 16 := ⟨_, rfl⟩
  rw [← e1060]
  have b1061 : -2147483648 ≤ v1059 ∧ v1059 ≤ 2147483647 := by
    rw [e1060]
    exact wI_ushr _ _
  refine wp_of e126 c126_46 (rw_iaddw (pc' := 47) rfl ?_)
  obtain ⟨v1062, e1063⟩ : ∃ x : Int, x = wq_w (v1055 + v1059) := ⟨_, rfl⟩
  rw [← e1063]
  have b1064 : -2147483648 ≤ v1062 ∧ v1062 ≤ 2147483647 := by
    rw [e1063]
    exact wI_w _
  have b1065 : (-2147483648 ≤ v1055 + v1059 ∧ v1055 + v1059 ≤ 2147483647) → v1062 = v1055 + v1059 := fun h => by rw [e1063]; exact wq_w_id h
  refine wp_of e126 c126_47 (rw_istore_n (pc' := 48) (z := v1062) (L' := [(0, vI v1062)]) rfl rfl rfl ?_)
  refine wp_of e126 c126_48 (rw_iload_n (pc' := 49) (z := v1062) rfl rfl ?_)
  refine wp_of e126 c126_49 (rw_bipush (pc' := 51) (z := 63) rfl (by decide) ?_)
  refine wp_of e126 c126_51 (rw_iand (pc' := 52) rfl ?_)
  obtain ⟨v1066, e1067⟩ : ∃ x : Int, x = wq_and v1062 63 := ⟨_, rfl⟩
  rw [← e1067]
  have b1068 : 0 ≤ v1066 ∧ v1066 ≤ 63 := by
    rw [e1067]
    exact wq_and_b _ (by omega) (by omega)
  have _z : v1066 = ((nbS a0 : Nat) : Int) := by
    rw [e1067, e1063, e1060, e1056, e1053, e1050, e1046, e1043, e1040, e1037, e1034, e1031, e1028]
    have all : (List.range 64).all (fun n => decide ((wq_and (wq_w ((wq_w ((wq_and (wq_w (((wq_and ((n : Int) - (wq_and (wq_ushr (n : Int) 1) 1431655765)) 858993459) + (wq_and (wq_ushr ((n : Int) - (wq_and (wq_ushr (n : Int) 1) 1431655765)) 2) 858993459)) + (wq_ushr ((wq_and ((n : Int) - (wq_and (wq_ushr (n : Int) 1) 1431655765)) 858993459) + (wq_and (wq_ushr ((n : Int) - (wq_and (wq_ushr (n : Int) 1) 1431655765)) 2) 858993459)) 4))) 252645135) + (wq_ushr (wq_and (wq_w (((wq_and ((n : Int) - (wq_and (wq_ushr (n : Int) 1) 1431655765)) 858993459) + (wq_and (wq_ushr ((n : Int) - (wq_and (wq_ushr (n : Int) 1) 1431655765)) 2) 858993459)) + (wq_ushr ((wq_and ((n : Int) - (wq_and (wq_ushr (n : Int) 1) 1431655765)) 858993459) + (wq_and (wq_ushr ((n : Int) - (wq_and (wq_ushr (n : Int) 1) 1431655765)) 2) 858993459)) 4))) 252645135) 8))) + (wq_ushr (wq_w ((wq_and (wq_w (((wq_and ((n : Int) - (wq_and (wq_ushr (n : Int) 1) 1431655765)) 858993459) + (wq_and (wq_ushr ((n : Int) - (wq_and (wq_ushr (n : Int) 1) 1431655765)) 2) 858993459)) + (wq_ushr ((wq_and ((n : Int) - (wq_and (wq_ushr (n : Int) 1) 1431655765)) 858993459) + (wq_and (wq_ushr ((n : Int) - (wq_and (wq_ushr (n : Int) 1) 1431655765)) 2) 858993459)) 4))) 252645135) + (wq_ushr (wq_and (wq_w (((wq_and ((n : Int) - (wq_and (wq_ushr (n : Int) 1) 1431655765)) 858993459) + (wq_and (wq_ushr ((n : Int) - (wq_and (wq_ushr (n : Int) 1) 1431655765)) 2) 858993459)) + (wq_ushr ((wq_and ((n : Int) - (wq_and (wq_ushr (n : Int) 1) 1431655765)) 858993459) + (wq_and (wq_ushr ((n : Int) - (wq_and (wq_ushr (n : Int) 1) 1431655765)) 2) 858993459)) 4))) 252645135) 8))) 16))) 63) = ((nbS (n : Int) : Nat) : Int))) = true := by decide +kernel
    have h := of_decide_eq_true (List.all_eq_true.mp all a0.toNat (List.mem_range.mpr (by omega)))
    rw [Int.toNat_of_nonneg (by omega)] at h
    exact h
  have _zb : nbS a0 ≤ 32 := by
    have all : (List.range 64).all (fun n => decide (nbS (n : Int) ≤ 32)) = true := by decide +kernel
    have h := of_decide_eq_true (List.all_eq_true.mp all a0.toNat (List.mem_range.mpr (by omega)))
    rw [Int.toNat_of_nonneg (by omega)] at h
    exact h
  exact wp_ireturn e126 c126_52 rfl ⟨rfl, rfl, v1066, rfl, ⟨b1068.1, by omega⟩, (by assumption)⟩
/-! StrikeAwake$Parish.hoursOffered(I)I  -/
abbrev uq_151 (r0 : Nat) (a1 : Int) (e : xD) (d : xD) (n : Int) (T : wq_T) (H : wq_H) : Option Value → wq_T → wq_H → Prop := fun r T' H' => T = T' ∧ H = H' ∧ ∃ z : Int, some (vI z) = r ∧ ((-2147483648) ≤ z ∧ z ≤ 2147483647) ∧ (((z = xho (d 16) a1 (d 0 7).toNat)))
set_option maxHeartbeats 4000000 in
theorem u_151 {kt : Nat → Option mc_E} {T : wq_T} {H : wq_H} {r0 : Nat} {a1 : Int} {e : xD} {d : xD} {n : Int} (hW : WT T H) (g0 : T.2.2.2 r0 = some 27) (i1 : 0 ≤ a1 ∧ a1 ≤ 63) (p0 : e 0 3 = d 0 3) (p1 : e 0 0 = d 0 0) (p2 : ∀ i, i ≠ 13 → e i = d i) (hCU_r0 : CU T H r0 e d n) : wpc kt 2 151 [.ref r0, vI a1] T H (uq_151 r0 a1 e d n T H) := by
  refine wp_enter e151 (Nat.le_of_ble_eq_true rfl) rfl ?_
  show wp _ _ 151 0 [(0, .ref r0), (1, vI a1)] [] _ H _
  have u1218 := CU_k hCU_r0
  have b1219 : 0 ≤ H r0 14 ∧ H r0 14 ≤ 6 := hW.box g0 (n := 19) rfl (by decide) rfl
  have h1220 : DA6 T H r0 (d 0 7) (d 16) := (by have h := hCU_r0.1.2.2.2.2.2.2.2; rw [p2 16 (by decide), p2 0 (by decide)] at h; exact h)
  have _k := CU_k hCU_r0
  have _d0 := p2 0 (by decide)
  have _e7 : e 0 7 = d 0 7 := by rw [_d0]
  refine wp_of e151 c151_0 (rw_iconst (pc' := 1) rfl ?_)
  refine wp_of e151 c151_1 (rw_istore_n (pc' := 2) (z := 0) (L' := [(2, vI 0), (0, .ref r0), (1, vI a1)]) rfl rfl rfl ?_)
  refine wp_of e151 c151_2 (rw_iconst (pc' := 3) rfl ?_)
  refine wp_of e151 c151_3 (rw_istore_n (pc' := 4) (z := 0) (L' := [(3, vI 0), (2, vI 0), (0, .ref r0), (1, vI a1)]) rfl rfl rfl ?_)
  have lp1410 : ∀ (n1411 : Nat) (v1413 : Int) (v1414 : Int), (0 ≤ v1413 ∧ v1413 ≤ 6) → ((-2147483648) ≤ v1414 ∧ v1414 ≤ 2147483647) → (v1413 ≤ d 0 7) → (v1414 = xho (d 16) a1 (v1413).toNat) → (6 - v1413).toNat = n1411 → wp kt 1 151 4 [(3, vI v1413), (2, vI v1414), (0, .ref r0), (1, vI a1)] [] T H (uq_151 r0 a1 e d n T H) := by
    intro n1411
    induction n1411 using Nat.strongRecOn with
    | _ n1411 ih1412 =>
      intro v1413 v1414 b1417 b1418 x1419 x1420 m1421
      refine wp_of e151 c151_4 (rw_iload_n (pc' := 5) (z := v1413) rfl rfl ?_)
      refine wp_of e151 c151_5 (rw_aload_n (pc' := 6) (v := .ref r0) rfl rfl rfl ?_)
      refine wp_of e151 c151_6 (xg_I (pc' := 9) lf_7_62 hW g0 sh_27 (by decide) (by decide) ty_27_14 rfl rfl (fun b1422 b1423 => ?_))
      refine wp_of e151 c151_9 (rw_icmp_ge (p1 := 35) (p2 := 12) (by decide) rfl ⟨Int.le_trans (by decide) b1417.1, Int.le_trans b1417.2 (by decide)⟩ ⟨Int.le_trans (by decide) b1422, Int.le_trans b1423 (by decide)⟩ (fun c1424 => ?_) (fun c1424 => ?_))
      · refine wp_of e151 c151_35 (rw_iload_n (pc' := 36) (z := v1414) rfl rfl ?_)
        exact wp_ireturn e151 c151_36 rfl ⟨rfl, rfl, v1414, rfl, ⟨b1418.1, b1418.2⟩, (by rw [show (d 0 7).toNat = (v1413).toNat by omega]; assumption)⟩
      · refine wp_of e151 c151_12 (rw_iload_n (pc' := 13) (z := a1) rfl rfl ?_)
        refine wp_of e151 c151_13 (rw_iload_n (pc' := 14) (z := v1413) rfl rfl ?_)
        refine wp_of e151 c151_14 (xc_S (pc' := 17) (as := [vI a1, vI v1413]) (st := []) (lm_7_121) rfl rfl (Nat.le_of_ble_eq_true rfl) rfl (by decide) (u_36  hW ⟨Int.le_trans (by decide) i1.1, Int.le_trans i1.2 (by decide)⟩ ⟨Int.le_trans (by decide) b1417.1, Int.le_trans b1417.2 (by decide)⟩) (fun R1425 T1426 H1427 p1428 => ?_))
        obtain ⟨e1429, e1431, z1432, e1430, b1433, p1434⟩ := p1428
        subst e1429
        subst e1430
        subst e1431
        rcases p1434 with ⟨a1435, a1436⟩ | ⟨a1437, a1438⟩
        · show wp _ _ 151 17 [(3, vI v1413), (2, vI v1414), (0, .ref r0), (1, vI a1)] [vI z1432] _ H _
          refine wp_of e151 c151_17 (rw_if_eq (p1 := 29) (p2 := 20) (by decide) rfl ⟨Int.le_trans (by decide) b1433.1, Int.le_trans b1433.2 (by decide)⟩ (fun c1439 => ?_) (fun c1439 => ?_))
          · exfalso
            omega
          · refine wp_of e151 c151_20 (rw_iload_n (pc' := 21) (z := v1414) rfl rfl ?_)
            refine wp_of e151 c151_21 (rw_aload_n (pc' := 22) (v := .ref r0) rfl rfl rfl ?_)
            refine wp_of e151 c151_22 (xg_R (pc' := 25) lf_7_33 hW g0 sh_27 (by decide) (by decide) ty_27_6 rfl rfl (fun r1440 q1441 g1442 => ?_))
            refine wp_of e151 c151_25 (rw_iload_n (pc' := 26) (z := v1413) rfl rfl ?_)
            refine wp_of e151 c151_26 (xa_I (so := 0) (pc' := 27) hW g1442 sh_34 (by decide) (ty_34 _) (b1417.1) (by omega) rfl (fun b1443 b1444 => ?_))
            have := DA_at h1220 q1441 (k := (v1413.toNat)) (by omega)
            refine wp_of e151 c151_27 (rw_ior (pc' := 28) rfl ?_)
            obtain ⟨v1445, e1446⟩ : ∃ x : Int, x = wq_or v1414 (H r1440 (v1413.toNat)) := ⟨_, rfl⟩
            rw [← e1446]
            have b1447 : -2147483648 ≤ v1445 ∧ v1445 ≤ 2147483647 := by
              rw [e1446]
              exact wI_or _ _
            have _q : v1445 = xho (d 16) a1 (v1413 + 1).toNat := by
              rw [xho_y (by omega) (by assumption), ← ‹v1414 = xho (d 16) a1 (v1413).toNat›, e1446, show (H r1440 (v1413.toNat)) = d 16 (v1413).toNat by omega]
            refine wp_of e151 c151_28 (rw_istore_n (pc' := 29) (z := v1445) (L' := [(2, vI v1445), (3, vI v1413), (0, .ref r0), (1, vI a1)]) rfl rfl rfl ?_)
            refine wp_of e151 c151_29 (rw_iinc (pc' := 32) (z := v1413) (L' := [(3, vI (v1413 + 1)), (2, vI v1445), (0, .ref r0), (1, vI a1)]) rfl rfl rfl rfl ?_)
            refine wp_of e151 c151_32 (rw_goto (p1 := 4) (by decide) ?_)
            exact wp_lc (ks := [3, 2, 0, 1]) (wl_c rfl (wl_c rfl (wl_c rfl (wl_c rfl wl_n)))) rfl (by decide) (ih1412 _ (by omega) (v1413 + 1) v1445 ⟨by omega, by omega⟩ ⟨b1447.1, b1447.2⟩ (by omega) (by omega) rfl)
        · show wp _ _ 151 17 [(3, vI v1413), (2, vI v1414), (0, .ref r0), (1, vI a1)] [vI z1432] _ H _
          refine wp_of e151 c151_17 (rw_if_eq (p1 := 29) (p2 := 20) (by decide) rfl ⟨Int.le_trans (by decide) b1433.1, Int.le_trans b1433.2 (by decide)⟩ (fun c1448 => ?_) (fun c1448 => ?_))
          · have _q : v1414 = xho (d 16) a1 (v1413 + 1).toNat := by
              rw [xho_n (by omega) (by assumption)]
              assumption
            refine wp_of e151 c151_29 (rw_iinc (pc' := 32) (z := v1413) (L' := [(3, vI (v1413 + 1)), (2, vI v1414), (0, .ref r0), (1, vI a1)]) rfl rfl rfl rfl ?_)
            refine wp_of e151 c151_32 (rw_goto (p1 := 4) (by decide) ?_)
            exact wp_lc (ks := [3, 2, 0, 1]) (wl_c rfl (wl_c rfl (wl_c rfl (wl_c rfl wl_n)))) rfl (by decide) (ih1412 _ (by omega) (v1413 + 1) v1414 ⟨by omega, by omega⟩ ⟨b1418.1, b1418.2⟩ (by omega) (by omega) rfl)
          · exfalso
            omega
  have : (0 : Int) = xho (d 16) a1 ((0 : Int)).toNat := rfl
  exact wp_lc (ks := [3, 2, 0, 1]) (wl_c rfl (wl_c rfl (wl_c rfl (wl_c rfl wl_n)))) rfl (by decide) (lp1410 _ 0 0 ⟨by decide, by decide⟩ ⟨by decide, by decide⟩ (by omega) (by omega) rfl)
/-! StrikeAwake$Parish.fewestOffers()I  -/
abbrev uq_150 (r0 : Nat) (e : xD) (d : xD) (n : Int) (T : wq_T) (H : wq_H) : Option Value → wq_T → wq_H → Prop := fun r T' H' => T = T' ∧ H = H' ∧ ∃ z : Int, some (vI z) = r ∧ ((-2) ≤ z ∧ z ≤ 63) ∧ (((xhA d z)))
set_option maxHeartbeats 4000000 in
theorem u_150 {kt : Nat → Option mc_E} {T : wq_T} {H : wq_H} {r0 : Nat} {e : xD} {d : xD} {n : Int} (hW : WT T H) (g0 : T.2.2.2 r0 = some 27) (p0 : e 0 3 = d 0 3) (p1 : e 0 0 = d 0 0) (p2 : ∀ i, i ≠ 13 → e i = d i) (p3 : 1 ≤ d 0 0) (hCU_r0 : CU T H r0 e d n) : wpc kt 3 150 [.ref r0] T H (uq_150 r0 e d n T H) := by
  refine wp_enter e150 (Nat.le_of_ble_eq_true rfl) rfl ?_
  show wp _ _ 150 0 [(0, .ref r0)] [] _ H _
  have u3204 := CU_k hCU_r0
  have b3205 : 0 ≤ H r0 14 ∧ H r0 14 ≤ 6 := hW.box g0 (n := 19) rfl (by decide) rfl
  have b3206 : 0 ≤ H r0 7 ∧ H r0 7 ≤ 24 := hW.box g0 (n := 19) rfl (by decide) rfl
  have _k := CU_k hCU_r0
  have _d0 := p2 0 (by decide)
  have _e7 : e 0 7 = d 0 7 := by rw [_d0]
  have _z0 : ¬ xhK d 0 := xhK_0 (by omega) (by omega)
  refine wp_of e150 c150_0 (rw_aload_n (pc' := 1) (v := .ref r0) rfl rfl rfl ?_)
  refine wp_of e150 c150_1 (xc_V (pc' := 4) (r := r0) (as := []) (st := []) (lm_7_96) rfl rfl (Nat.le_of_ble_eq_true rfl) hW g0 sh_27 (by decide) rfl (by decide) (u_45  hW g0) (fun R3207 T3208 H3209 p3210 => ?_))
  obtain ⟨e3211, e3213, z3214, e3212, b3215, p3216⟩ := p3210
  subst e3211
  subst e3212
  subst e3213
  show wp _ _ 150 4 [(0, .ref r0)] [vI z3214] _ H _
  refine wp_of e150 c150_4 (rw_istore_n (pc' := 5) (z := z3214) (L' := [(1, vI z3214), (0, .ref r0)]) rfl rfl rfl ?_)
  have _al : z3214 = xal d := by
    show z3214 = xhs 0 (d 0 0)
    rw [show d 0 0 = H r0 7 by omega]
    assumption
  refine wp_of e150 c150_5 (rw_iconst (pc' := 6) rfl ?_)
  refine wp_of e150 c150_6 (rw_istore_n (pc' := 7) (z := 1) (L' := [(2, vI 1), (1, vI z3214), (0, .ref r0)]) rfl rfl rfl ?_)
  have lp5136 : ∀ (n5137 : Nat) (v5139 : Int), (1 ≤ v5139 ∧ v5139 ≤ 7) → (v5139 ≤ d 0 7 + 1) → (xhC d v5139 1) → (7 - v5139).toNat = n5137 → wp kt 2 150 7 [(2, vI v5139), (1, vI z3214), (0, .ref r0)] [] T H (uq_150 r0 e d n T H) := by
    intro n5137
    induction n5137 using Nat.strongRecOn with
    | _ n5137 ih5138 =>
      intro v5139 b5142 x5144 x5145 m5143
      refine wp_of e150 c150_7 (rw_iload_n (pc' := 8) (z := v5139) rfl rfl ?_)
      refine wp_of e150 c150_8 (rw_aload_n (pc' := 9) (v := .ref r0) rfl rfl rfl ?_)
      refine wp_of e150 c150_9 (xg_I (pc' := 12) lf_7_62 hW g0 sh_27 (by decide) (by decide) ty_27_14 rfl rfl (fun b5146 b5147 => ?_))
      refine wp_of e150 c150_12 (rw_icmp_gt (p1 := 58) (p2 := 15) (by decide) rfl ⟨Int.le_trans (by decide) b5142.1, Int.le_trans b5142.2 (by decide)⟩ ⟨Int.le_trans (by decide) b5146, Int.le_trans b5147 (by decide)⟩ (fun c5148 => ?_) (fun c5148 => ?_))
      · have _r := xhC_e (by assumption : xhC d v5139 1) (by omega) (by omega) _z0
        refine wp_of e150 c150_58 (rw_bipush (pc' := 60) (z := -2) rfl (by decide) ?_)
        exact wp_ireturn e150 c150_60 rfl ⟨rfl, rfl, -2, rfl, ⟨by decide, by decide⟩, (_r)⟩
      · refine wp_of e150 c150_15 (rw_iconst (pc' := 16) rfl ?_)
        refine wp_of e150 c150_16 (rw_istore_n (pc' := 17) (z := 1) (L' := [(3, vI 1), (2, vI v5139), (1, vI z3214), (0, .ref r0)]) rfl rfl rfl ?_)
        have lp5389 : ∀ (n5390 : Nat) (v5392 : Int), (1 ≤ v5392 ∧ v5392 ≤ 64) → (v5392 ≤ 2 ^ (d 0 7).toNat) → (xhC d v5139 v5392) → (64 - v5392).toNat = n5390 → wp kt 2 150 17 [(3, vI v5392), (2, vI v5139), (1, vI z3214), (0, .ref r0)] [] T H (uq_150 r0 e d n T H) := by
          intro n5390
          induction n5390 using Nat.strongRecOn with
          | _ n5390 ih5391 =>
            intro v5392 b5395 x5397 x5398 m5396
            refine wp_of e150 c150_17 (rw_iload_n (pc' := 18) (z := v5392) rfl rfl ?_)
            refine wp_of e150 c150_18 (rw_iconst (pc' := 19) rfl ?_)
            refine wp_of e150 c150_19 (rw_aload_n (pc' := 20) (v := .ref r0) rfl rfl rfl ?_)
            refine wp_of e150 c150_20 (xg_I (pc' := 23) lf_7_62 hW g0 sh_27 (by decide) (by decide) ty_27_14 rfl rfl (fun b5399 b5400 => ?_))
            refine wp_of e150 c150_23 (rw_ishl (pc' := 24) rfl ?_)
            obtain ⟨v5401, e5402⟩ : ∃ x : Int, x = wq_shl 1 (H r0 14) := ⟨_, rfl⟩
            rw [← e5402]
            have b5403 : 1 ≤ v5401 ∧ v5401 ≤ 64 := by
              rw [e5402]
              exact wq_shl1_6 ⟨by omega, by omega⟩
            have _s : v5401 = 2 ^ (d 0 7).toNat := by
              rw [e5402, show (H r0 14) = d 0 7 by omega]
              exact shl1_6 (by omega)
            refine wp_of e150 c150_24 (rw_icmp_ge (p1 := 52) (p2 := 27) (by decide) rfl ⟨Int.le_trans (by decide) b5395.1, Int.le_trans b5395.2 (by decide)⟩ ⟨Int.le_trans (by decide) b5403.1, Int.le_trans b5403.2 (by decide)⟩ (fun c5404 => ?_) (fun c5404 => ?_))
            · have _o := xhC_o (by assumption : xhC d v5139 v5392) (by omega)
              refine wp_of e150 c150_52 (rw_iinc (pc' := 55) (z := v5139) (L' := [(2, vI (v5139 + 1)), (3, vI v5392), (1, vI z3214), (0, .ref r0)]) rfl rfl rfl rfl ?_)
              refine wp_of e150 c150_55 (rw_goto (p1 := 7) (by decide) ?_)
              exact wp_lc (ks := [2, 3, 1, 0]) (wl_c rfl (wl_c rfl (wl_c rfl wl_n))) rfl (by decide) (ih5138 _ (by omega) (v5139 + 1) ⟨by omega, by omega⟩ (by omega) (_o) rfl)
            · refine wp_of e150 c150_27 (rw_iload_n (pc' := 28) (z := v5392) rfl rfl ?_)
              refine wp_of e150 c150_28 (xc_S (pc' := 31) (as := [vI v5392]) (st := []) (lm_7_113) rfl rfl (Nat.le_of_ble_eq_true rfl) rfl (by decide) (u_126  hW ⟨Int.le_trans (by decide) b5395.1, by omega⟩) (fun R5405 T5406 H5407 p5408 => ?_))
              obtain ⟨e5409, e5411, z5412, e5410, b5413, p5414⟩ := p5408
              subst e5409
              subst e5410
              subst e5411
              show wp _ _ 150 31 [(3, vI v5392), (2, vI v5139), (1, vI z3214), (0, .ref r0)] [vI z5412] _ H _
              refine wp_of e150 c150_31 (rw_iload_n (pc' := 32) (z := v5139) rfl rfl ?_)
              refine wp_of e150 c150_32 (rw_icmp_ne (p1 := 46) (p2 := 35) (by decide) rfl ⟨Int.le_trans (by decide) b5413.1, Int.le_trans b5413.2 (by decide)⟩ ⟨Int.le_trans (by decide) b5142.1, Int.le_trans b5142.2 (by decide)⟩ (fun c5416 => ?_) (fun c5416 => ?_))
              · have _c := xhC_n (b := v5392) (by assumption : xhC d v5139 v5392) (by first | exact Or.inl (by omega) | exact Or.inr (fun h => by unfold xhK at h; omega))
                refine wp_of e150 c150_46 (rw_iinc (pc' := 49) (z := v5392) (L' := [(3, vI (v5392 + 1)), (2, vI v5139), (1, vI z3214), (0, .ref r0)]) rfl rfl rfl rfl ?_)
                refine wp_of e150 c150_49 (rw_goto (p1 := 17) (by decide) ?_)
                exact wp_lc (ks := [3, 2, 1, 0]) (wl_c rfl (wl_c rfl (wl_c rfl (wl_c rfl wl_n)))) rfl (by decide) (ih5391 _ (by omega) (v5392 + 1) ⟨by omega, by omega⟩ (by omega) (_c) rfl)
              · refine wp_of e150 c150_35 (rw_aload_n (pc' := 36) (v := .ref r0) rfl rfl rfl ?_)
                refine wp_of e150 c150_36 (rw_iload_n (pc' := 37) (z := v5392) rfl rfl ?_)
                refine wp_of e150 c150_37 (xc_V (pc' := 40) (r := r0) (as := [vI v5392]) (st := []) (lm_7_118) rfl rfl (Nat.le_of_ble_eq_true rfl) hW g0 sh_27 (by decide) rfl (by decide) (u_151 (e := e) (d := d) (n := n) hW g0 ⟨Int.le_trans (by decide) b5395.1, by omega⟩ (by omega) (by omega) (by assumption) hCU_r0) (fun R5417 T5418 H5419 p5420 => ?_))
                obtain ⟨e5421, e5423, z5424, e5422, b5425, p5426⟩ := p5420
                subst e5421
                subst e5422
                subst e5423
                show wp _ _ 150 40 [(3, vI v5392), (2, vI v5139), (1, vI z3214), (0, .ref r0)] [vI z5424] _ H _
                refine wp_of e150 c150_40 (rw_iload_n (pc' := 41) (z := z3214) rfl rfl ?_)
                refine wp_of e150 c150_41 (rw_icmp_ne (p1 := 46) (p2 := 44) (by decide) rfl ⟨b5425.1, b5425.2⟩ ⟨Int.le_trans (by decide) b3215.1, Int.le_trans b3215.2 (by decide)⟩ (fun c5428 => ?_) (fun c5428 => ?_))
                · have _c := xhC_n (b := v5392) (by assumption : xhC d v5139 v5392) (by first | exact Or.inl (by omega) | exact Or.inr (fun h => by unfold xhK at h; omega))
                  refine wp_of e150 c150_46 (rw_iinc (pc' := 49) (z := v5392) (L' := [(3, vI (v5392 + 1)), (2, vI v5139), (1, vI z3214), (0, .ref r0)]) rfl rfl rfl rfl ?_)
                  refine wp_of e150 c150_49 (rw_goto (p1 := 17) (by decide) ?_)
                  exact wp_lc (ks := [3, 2, 1, 0]) (wl_c rfl (wl_c rfl (wl_c rfl (wl_c rfl wl_n)))) rfl (by decide) (ih5391 _ (by omega) (v5392 + 1) ⟨by omega, by omega⟩ (by omega) (_c) rfl)
                · refine wp_of e150 c150_44 (rw_iload_n (pc' := 45) (z := v5392) rfl rfl ?_)
                  have _r : xhA d v5392 := xhC_r (by assumption : xhC d v5139 v5392) ⟨by omega, by omega⟩ (by omega) (by unfold xhK; omega) _z0
                  exact wp_ireturn e150 c150_45 rfl ⟨rfl, rfl, v5392, rfl, ⟨Int.le_trans (by decide) b5395.1, by omega⟩, (_r)⟩
        exact wp_lc (ks := [3, 2, 1, 0]) (wl_c rfl (wl_c rfl (wl_c rfl (wl_c rfl wl_n)))) rfl (by decide) (lp5389 _ 1 ⟨by decide, by decide⟩ (by have := @p2_6 (d 0 7).toNat; omega) (by assumption) rfl)
  exact wp_lc (ks := [2, 1, 0]) (wl_c rfl (wl_c rfl (wl_c rfl wl_n))) rfl (by decide) (lp5136 _ 1 ⟨by decide, by decide⟩ (by omega) (xhC_0 (by omega)) rfl)
/-! StrikeAwake.keep()I  -/
abbrev uq_149 (r0 : Nat) (cu : Nat) (e : xD) (d : xD) (n : Int) (T : wq_T) (H : wq_H) : Option Value → wq_T → wq_H → Prop := fun r T' H' => T = T' ∧ WT T H' ∧ wfr [(1, 10)] T H H' ∧ ∃ z : Int, some (vI z) = r ∧ ((-2147483648) ≤ z ∧ z ≤ 2147483647) ∧ (((z = -1) ∧ (H r0 8 = 0)) ∨ ((-2 ≤ z ∧ z ≤ 63) ∧ (H r0 8 = 1) ∧ (xhA d z)))
set_option maxHeartbeats 4000000 in
theorem u_149 {kt : Nat → Option mc_E} {T : wq_T} {H : wq_H} {r0 : Nat} {cu : Nat} {e : xD} {d : xD} {n : Int} (hW : WT T H) (g0 : T.2.2.2 r0 = some 1) (qcu : H r0 6 = (cu : Int)) (gcu : T.2.2.2 cu = some 27) (p0 : e 0 3 = d 0 3) (p1 : e 0 0 = d 0 0) (p2 : ∀ i, i ≠ 13 → e i = d i) (p3 : H r0 8 = 0 ∨ 1 ≤ d 0 0) (hCU_cu : CU T H cu e d n) : wpc kt 4 149 [.ref r0] T H (uq_149 r0 cu e d n T H) := by
  refine wp_enter e149 (Nat.le_of_ble_eq_true rfl) rfl ?_
  have f0 : wfr [(1, 10)] T H H := wfr.rf
  show wp _ _ 149 0 [(0, .ref r0)] [] _ H _
  have u1043 := CU_k hCU_cu
  have b1044 : 0 ≤ H r0 8 ∧ H r0 8 ≤ 1 := hW.box g0 (n := 13) rfl (by decide) rfl
  refine wp_of e149 c149_0 (rw_aload_n (pc' := 1) (v := .ref r0) rfl rfl rfl ?_)
  refine wp_of e149 c149_1 (xg_I (pc' := 4) lf_0_58 hW g0 sh_1 (by decide) (by decide) ty_1_8 rfl rfl (fun b1045 b1046 => ?_))
  refine wp_of e149 c149_4 (rw_if_ne (p1 := 13) (p2 := 7) (by decide) rfl ⟨Int.le_trans (by decide) b1045, Int.le_trans b1046 (by decide)⟩ (fun c1047 => ?_) (fun c1047 => ?_))
  · refine wp_of e149 c149_13 (rw_aload_n (pc' := 14) (v := .ref r0) rfl rfl rfl ?_)
    refine wp_of e149 c149_14 (rw_aload_n (pc' := 15) (v := .ref r0) rfl rfl rfl ?_)
    refine wp_of e149 c149_15 (xg_K (pc' := 18) lf_0_51 hW g0 sh_1 (by decide) (by decide) rfl qcu rfl ?_)
    refine wp_of e149 c149_18 (xc_V (pc' := 21) (r := cu) (as := []) (st := [.ref r0]) (lm_0_284) rfl rfl (Nat.le_of_ble_eq_true rfl) hW gcu sh_27 (by decide) rfl (by decide) (u_150 (e := e) (d := d) (n := n) hW gcu (by omega) (by omega) (by assumption) (by omega) hCU_cu) (fun R1048 T1049 H1050 p1051 => ?_))
    obtain ⟨e1052, e1054, z1055, e1053, b1056, p1057⟩ := p1051
    subst e1052
    subst e1053
    subst e1054
    show wp _ _ 149 21 [(0, .ref r0)] [vI z1055, .ref r0] _ H _
    refine wp_of e149 c149_21 (xc_V (pc' := 24) (r := r0) (as := [vI z1055]) (st := []) (lm_0_99) rfl rfl (Nat.le_of_ble_eq_true rfl) hW g0 sh_1 (by decide) rfl (by decide) (u_51  hW g0 ⟨Int.le_trans (by decide) b1056.1, Int.le_trans b1056.2 (by decide)⟩) (fun R1059 T1060 H1061 p1062 => ?_))
    obtain ⟨e1063, w1065, f1066, z1067, e1064, b1068, p1069⟩ := p1062
    subst e1063
    subst e1064
    obtain ⟨a1070, a1071⟩ := p1069
    have f1072 := f0.tr f1066 rfl
    show wp _ _ 149 24 [(0, .ref r0)] [vI z1067] _ H1061 _
    exact wp_ireturn e149 c149_24 rfl ⟨rfl, w1065, f1072, z1067, rfl, ⟨b1068.1, b1068.2⟩, (Or.inr ⟨by omega, by omega, xhA_z (by assumption) (by assumption)⟩)⟩
  · refine wp_of e149 c149_7 (rw_aload_n (pc' := 8) (v := .ref r0) rfl rfl rfl ?_)
    refine wp_of e149 c149_8 (rw_iconst (pc' := 9) rfl ?_)
    refine wp_of e149 c149_9 (xc_V (pc' := 12) (r := r0) (as := [vI 1]) (st := []) (lm_0_70) rfl rfl (Nat.le_of_ble_eq_true rfl) hW g0 sh_1 (by decide) rfl (by decide) (u_12  hW g0 ⟨by decide, by decide⟩) (fun R1073 T1074 H1075 p1076 => ?_))
    obtain ⟨e1077, w1079, f1080, z1081, e1078, b1082, p1083⟩ := p1076
    subst e1077
    subst e1078
    obtain ⟨a1084, a1085⟩ := p1083
    have f1086 := f0.tr f1080 rfl
    show wp _ _ 149 12 [(0, .ref r0)] [vI z1081] _ H1075 _
    exact wp_ireturn e149 c149_12 rfl ⟨rfl, w1079, f1086, z1081, rfl, ⟨b1082.1, b1082.2⟩, (Or.inl ⟨by omega, by omega⟩)⟩
end
section
/-! StrikeAwake$Parish.isPicture(J)Z  -/
abbrev uq_162 (r0 : Nat) (a1 : Int) (e : xD) (d : xD) (n : Int) (T : wq_T) (H : wq_H) : Option Value → wq_T → wq_H → Prop := fun r T' H' => T = T' ∧ H = H' ∧ ∃ z : Int, some (vI z) = r ∧ (0 ≤ z ∧ z ≤ 1) ∧ (((z = 1) ∧ (0 ≤ a1 ∧ wdv (d 0 3).toNat a1 ≤ 20000) ∧ (xpd d a1 0 (d 0 3).toNat = 0)) ∨ ((z = 0) ∧ (a1 < 0 ∨ 0 < xpd d a1 0 (d 0 3).toNat ∨ 20000 < wdv (d 0 3).toNat a1)))
set_option maxHeartbeats 4000000 in
theorem u_162 {kt : Nat → Option mc_E} {T : wq_T} {H : wq_H} {r0 : Nat} {a1 : Int} {e : xD} {d : xD} {n : Int} (hW : WT T H) (g0 : T.2.2.2 r0 = some 27) (i1 : (-9223372036854775808) ≤ a1 ∧ a1 ≤ 9223372036854775807) (p0 : e 0 3 = d 0 3) (hCU_r0 : CU T H r0 e d n) : wpc kt 1 162 [.ref r0, vL a1] T H (uq_162 r0 a1 e d n T H) := by
  refine wp_enter e162 (Nat.le_of_ble_eq_true rfl) rfl ?_
  show wp _ _ 162 0 [(0, .ref r0), (1, vL a1)] [] _ H _
  have u1046 := CU_k hCU_r0
  refine wp_of e162 c162_0 (rw_lload_n (pc' := 1) (z := a1) rfl rfl ?_)
  refine wp_of e162 c162_1 (rw_lstore_n (pc' := 2) (z := a1) (L' := [(3, vL a1), (0, .ref r0), (1, vL a1)]) rfl rfl rfl ?_)
  refine wp_of e162 c162_2 (rw_aload_n (pc' := 3) (v := .ref r0) rfl rfl rfl ?_)
  refine wp_of e162 c162_3 (xg_I (pc' := 6) lf_7_50 hW g0 sh_27 (by decide) (by decide) ty_27_10 rfl rfl (fun b1047 b1048 => ?_))
  refine wp_of e162 c162_6 (rw_iconst (pc' := 7) rfl ?_)
  refine wp_of e162 c162_7 (rw_isub (pc' := 8) rfl ?_)
  refine wp_of e162 c162_8 (rw_istore (pc' := 10) (z := (H r0 10) - 1) (L' := [(5, vI ((H r0 10) - 1)), (3, vL a1), (0, .ref r0), (1, vL a1)]) rfl rfl rfl ?_)
  have lp1068 : ∀ (n1069 : Nat) (v1071 : Int) (v1072 : Int), ((-1) ≤ v1071 ∧ v1071 ≤ 5) → ((-9223372036854775808) ≤ v1072 ∧ v1072 ≤ 9223372036854775807) → (v1071 ≤ d 0 3 - 1) → (a1 < 0 ∨ 0 ≤ v1072) → (a1 < 0 ∨ v1072 = wdv (d 0 3 - 1 - v1071).toNat a1) → (a1 < 0 ∨ xpd d a1 (v1071 + 1).toNat ((d 0 3).toNat - (v1071 + 1).toNat) = 0) → (v1071 - (-1)).toNat = n1069 → wp kt 0 162 10 [(5, vI v1071), (3, vL v1072), (0, .ref r0), (1, vL a1)] [] T H (uq_162 r0 a1 e d n T H) := by
    intro n1069
    induction n1069 using Nat.strongRecOn with
    | _ n1069 ih1070 =>
      intro v1071 v1072 b1075 b1076 x1078 x1079 x1080 x1081 m1077
      have _x : v1071 = -1 → a1 < 0 ∨ (v1072 = wdv (d 0 3).toNat a1 ∧ xpd d a1 0 (d 0 3).toNat = 0) := fun q => by
        rcases ‹a1 < 0 ∨ v1072 = wdv (d 0 3 - 1 - v1071).toNat a1› with h | h
        · exact Or.inl h
        · rcases ‹a1 < 0 ∨ xpd d a1 (v1071 + 1).toNat ((d 0 3).toNat - (v1071 + 1).toNat) = 0› with k | k
          · exact Or.inl k
          · rw [q] at k
            exact Or.inr ⟨wdv_z h q, k⟩
      refine wp_of e162 c162_10 (rw_iload (pc' := 12) (z := v1071) rfl rfl ?_)
      refine wp_of e162 c162_12 (rw_if_lt (p1 := 60) (p2 := 15) (by decide) rfl ⟨Int.le_trans (by decide) b1075.1, Int.le_trans b1075.2 (by decide)⟩ (fun c1082 => ?_) (fun c1082 => ?_))
      · refine wp_of e162 c162_60 (rw_lload_n (pc' := 61) (z := a1) rfl rfl ?_)
        refine wp_of e162 c162_61 (rw_lconst (pc' := 62) (z := 0) rfl rfl ?_)
        refine wp_of e162 c162_62 (rw_lcmp (pc' := 63) rfl ⟨i1.1, i1.2⟩ ⟨by decide, by decide⟩ ?_)
        have b1083 := wq_cmp_b a1 0
        refine wp_of e162 c162_63 (rw_if_lt (p1 := 78) (p2 := 66) (by decide) rfl ⟨by omega, by omega⟩ (fun c1084 => ?_) (fun c1084 => ?_))
        · refine wp_of e162 c162_78 (rw_iconst (pc' := 79) rfl ?_)
          exact wp_zreturn e162 c162_79 rfl (by omega) ⟨rfl, rfl, 0, rfl, ⟨by decide, by decide⟩, (Or.inr ⟨by omega, by omega⟩)⟩
        · refine wp_of e162 c162_66 (rw_lload_n (pc' := 67) (z := v1072) rfl rfl ?_)
          refine wp_of e162 c162_67 (rw_ldc2 (pc' := 70) (z := 20000) rfl rfl rfl ?_)
          refine wp_of e162 c162_70 (rw_lcmp (pc' := 71) rfl ⟨b1076.1, b1076.2⟩ ⟨by decide, by decide⟩ ?_)
          have b1085 := wq_cmp_b v1072 20000
          refine wp_of e162 c162_71 (rw_if_gt (p1 := 78) (p2 := 74) (by decide) rfl ⟨by omega, by omega⟩ (fun c1086 => ?_) (fun c1086 => ?_))
          · refine wp_of e162 c162_78 (rw_iconst (pc' := 79) rfl ?_)
            exact wp_zreturn e162 c162_79 rfl (by omega) ⟨rfl, rfl, 0, rfl, ⟨by decide, by decide⟩, (Or.inr ⟨by omega, by omega⟩)⟩
          · refine wp_of e162 c162_74 (rw_iconst (pc' := 75) rfl ?_)
            refine wp_of e162 c162_75 (rw_goto (p1 := 79) (by decide) ?_)
            exact wp_zreturn e162 c162_79 rfl (by omega) ⟨rfl, rfl, 1, rfl, ⟨by decide, by decide⟩, (Or.inl ⟨by omega, by omega, by omega⟩)⟩
      · refine wp_of e162 c162_15 (rw_lload_n (pc' := 16) (z := v1072) rfl rfl ?_)
        refine wp_of e162 c162_16 (rw_ldc2 (pc' := 19) (z := 40) rfl rfl rfl ?_)
        refine wp_of e162 c162_19 (rw_lrem (pc' := 20) rfl ⟨by omega, by omega⟩ (by omega) ?_)
        obtain ⟨v1087, e1088⟩ : ∃ x : Int, x = wl_rem v1072 40 := ⟨_, rfl⟩
        rw [← e1088]
        have b1089 : -9223372036854775808 ≤ v1087 ∧ v1087 ≤ 9223372036854775807 := by
          rw [e1088]
          exact wL_rem _ _
        have b1090 : v1072 < 0 ∨ v1087 = v1072 % 40 := by
          rw [e1088]
          exact wl_rem_or ⟨by omega, by omega⟩ ⟨by omega, by omega⟩
        refine wp_of e162 c162_20 (rw_lstore (pc' := 22) (z := v1087) (L' := [(6, vL v1087), (5, vI v1071), (3, vL v1072), (0, .ref r0), (1, vL a1)]) rfl rfl rfl ?_)
        refine wp_of e162 c162_22 (rw_lload (pc' := 24) (z := v1087) rfl rfl ?_)
        refine wp_of e162 c162_24 (rw_lconst (pc' := 25) (z := 0) rfl rfl ?_)
        refine wp_of e162 c162_25 (rw_lcmp (pc' := 26) rfl ⟨b1089.1, b1089.2⟩ ⟨by decide, by decide⟩ ?_)
        have b1091 := wq_cmp_b v1087 0
        refine wp_of e162 c162_26 (rw_if_eq (p1 := 48) (p2 := 29) (by decide) rfl ⟨by omega, by omega⟩ (fun c1092 => ?_) (fun c1092 => ?_))
        · have _i : a1 < 0 ∨ v1072 = wdv (d 0 3 - 1 - v1071).toNat a1 := by
            rcases ‹a1 < 0 ∨ v1072 = wdv (d 0 3 - 1 - v1071).toNat a1› with h | h
            · exact Or.inl h
            · exact Or.inr h
          have _s := xpd_s (d := d) (a := a1) (v := v1087) (x := v1072) (i := v1071) (by omega) (by omega) _i (by omega) (by omega) (by assumption)
          refine wp_of e162 c162_48 (rw_lload_n (pc' := 49) (z := v1072) rfl rfl ?_)
          refine wp_of e162 c162_49 (rw_ldc2 (pc' := 52) (z := 40) rfl rfl rfl ?_)
          refine wp_of e162 c162_52 (rw_ldiv (pc' := 53) rfl ⟨by omega, by omega⟩ (by omega) ?_)
          obtain ⟨v1093, e1094⟩ : ∃ x : Int, x = wl_div v1072 40 := ⟨_, rfl⟩
          rw [← e1094]
          have b1095 : -9223372036854775808 ≤ v1093 ∧ v1093 ≤ 9223372036854775807 := by
            rw [e1094]
            exact wL_div _ _
          have b1096 : v1072 < 0 ∨ v1093 = v1072 / 40 := by
            rw [e1094]
            exact wl_div_or ⟨by omega, by omega⟩ ⟨by omega, by omega⟩
          refine wp_of e162 c162_53 (rw_lstore_n (pc' := 54) (z := v1093) (L' := [(3, vL v1093), (6, vL v1087), (5, vI v1071), (0, .ref r0), (1, vL a1)]) rfl rfl rfl ?_)
          refine wp_of e162 c162_54 (rw_iinc (pc' := 57) (z := v1071) (L' := [(5, vI (v1071 + (-1))), (3, vL v1093), (6, vL v1087), (0, .ref r0), (1, vL a1)]) rfl rfl rfl rfl ?_)
          refine wp_of e162 c162_57 (rw_goto (p1 := 10) (by decide) ?_)
          exact wp_lc (ks := [5, 3, 6, 0, 1]) (wl_c rfl (wl_c rfl (wl_c rfl (wl_c rfl wl_n)))) rfl (by decide) (ih1070 _ (by omega) (v1071 + (-1)) v1093 ⟨by omega, by omega⟩ ⟨b1095.1, b1095.2⟩ (by omega) (by omega) (by by_cases q : a1 < 0; exact Or.inl q; exact Or.inr (wdv_n (by omega) (_i.resolve_left q) (by omega))) (by rw [show (v1071 + (-1) + 1).toNat = (v1071).toNat by omega]; exact _s) rfl)
        · refine wp_of e162 c162_29 (rw_lload (pc' := 31) (z := v1087) rfl rfl ?_)
          refine wp_of e162 c162_31 (rw_aload_n (pc' := 32) (v := .ref r0) rfl rfl rfl ?_)
          refine wp_of e162 c162_32 (xg_R (pc' := 35) lf_7_11 hW g0 sh_27 (by decide) (by decide) ty_27_0 rfl rfl (fun r1097 q1098 g1099 => ?_))
          refine wp_of e162 c162_35 (rw_iload (pc' := 37) (z := v1071) rfl rfl ?_)
          refine wp_of e162 c162_37 (xa_R (pc' := 38) (by decide) hW g1099 sh_28 (by decide) (ty_28 _) (by omega) (Int.lt_of_le_of_lt b1075.2 (by decide)) rfl (fun r1100 q1101 g1102 => ?_))
          have _z := CS_at (hCU_r0).2.1 q1098 q1101 (k := (v1071).toNat) (by omega) (by omega)
          have _l := @xsp_len d (v1071).toNat (hCU_r0).2.1.1
          have _n := _z.1.1
          have _b := xpr_5 (hCU_r0).2.1.1 (by omega) (v1071).toNat
          have _w : H r1100 17 = xpr d ((v1071).toNat + 1) ((d 0 3).toNat - ((v1071).toNat + 1)) := _z.2.trans (wq_w_id ⟨by omega, by omega⟩)
          refine wp_of e162 c162_38 (xg_I (pc' := 41) lf_7_110 hW g1102 sh_35 (by decide) (by decide) ty_35_15 rfl rfl (fun b1103 b1104 => ?_))
          refine wp_of e162 c162_41 (rw_i2l (pc' := 42) rfl ⟨Int.le_trans (by decide) b1103, Int.le_trans b1104 (by decide)⟩ ?_)
          refine wp_of e162 c162_42 (rw_lcmp (pc' := 43) rfl ⟨b1089.1, b1089.2⟩ ⟨Int.le_trans (by decide) b1103, Int.le_trans b1104 (by decide)⟩ ?_)
          have b1105 := wq_cmp_b v1087 (H r1100 15)
          refine wp_of e162 c162_43 (rw_if_lt (p1 := 48) (p2 := 46) (by decide) rfl ⟨by omega, by omega⟩ (fun c1106 => ?_) (fun c1106 => ?_))
          · have _i : a1 < 0 ∨ v1072 = wdv (d 0 3 - 1 - v1071).toNat a1 := by
              rcases ‹a1 < 0 ∨ v1072 = wdv (d 0 3 - 1 - v1071).toNat a1› with h | h
              · exact Or.inl h
              · exact Or.inr h
            have _s := xpd_s (d := d) (a := a1) (v := v1087) (x := v1072) (i := v1071) (by omega) (by omega) _i (by omega) (by omega) (by assumption)
            refine wp_of e162 c162_48 (rw_lload_n (pc' := 49) (z := v1072) rfl rfl ?_)
            refine wp_of e162 c162_49 (rw_ldc2 (pc' := 52) (z := 40) rfl rfl rfl ?_)
            refine wp_of e162 c162_52 (rw_ldiv (pc' := 53) rfl ⟨by omega, by omega⟩ (by omega) ?_)
            obtain ⟨v1107, e1108⟩ : ∃ x : Int, x = wl_div v1072 40 := ⟨_, rfl⟩
            rw [← e1108]
            have b1109 : -9223372036854775808 ≤ v1107 ∧ v1107 ≤ 9223372036854775807 := by
              rw [e1108]
              exact wL_div _ _
            have b1110 : v1072 < 0 ∨ v1107 = v1072 / 40 := by
              rw [e1108]
              exact wl_div_or ⟨by omega, by omega⟩ ⟨by omega, by omega⟩
            refine wp_of e162 c162_53 (rw_lstore_n (pc' := 54) (z := v1107) (L' := [(3, vL v1107), (6, vL v1087), (5, vI v1071), (0, .ref r0), (1, vL a1)]) rfl rfl rfl ?_)
            refine wp_of e162 c162_54 (rw_iinc (pc' := 57) (z := v1071) (L' := [(5, vI (v1071 + (-1))), (3, vL v1107), (6, vL v1087), (0, .ref r0), (1, vL a1)]) rfl rfl rfl rfl ?_)
            refine wp_of e162 c162_57 (rw_goto (p1 := 10) (by decide) ?_)
            exact wp_lc (ks := [5, 3, 6, 0, 1]) (wl_c rfl (wl_c rfl (wl_c rfl (wl_c rfl wl_n)))) rfl (by decide) (ih1070 _ (by omega) (v1071 + (-1)) v1107 ⟨by omega, by omega⟩ ⟨b1109.1, b1109.2⟩ (by omega) (by omega) (by by_cases q : a1 < 0; exact Or.inl q; exact Or.inr (wdv_n (by omega) (_i.resolve_left q) (by omega))) (by rw [show (v1071 + (-1) + 1).toNat = (v1071).toNat by omega]; exact _s) rfl)
          · have _i : a1 < 0 ∨ v1072 = wdv (d 0 3 - 1 - v1071).toNat a1 := by
              rcases ‹a1 < 0 ∨ v1072 = wdv (d 0 3 - 1 - v1071).toNat a1› with h | h
              · exact Or.inl h
              · exact Or.inr h
            have _s := xpd_n (d := d) (a := a1) (v := v1087) (x := v1072) (i := v1071) (by omega) (by omega) _i (by omega) (by omega) (by omega)
            refine wp_of e162 c162_46 (rw_iconst (pc' := 47) rfl ?_)
            exact wp_zreturn e162 c162_47 rfl (by omega) ⟨rfl, rfl, 0, rfl, ⟨by decide, by decide⟩, (Or.inr ⟨by omega, by omega⟩)⟩
  exact wp_lc (ks := [5, 3, 0, 1]) (wl_c rfl (wl_c rfl (wl_c rfl (wl_c rfl wl_n)))) rfl (by decide) (lp1068 _ ((H r0 10) - 1) a1 ⟨by omega, by omega⟩ ⟨i1.1, i1.2⟩ (by omega) (by omega) (Or.inr (wdv_1 (by omega))) (Or.inr (xpd_e (by omega))) rfl)
/-! StrikeAwake$Parish.takePicture(J)V  -/
abbrev uq_163 (r0 : Nat) (a1 : Int) (d : xD) (nY : Int) (gY : Nat → Int) (cY : Int) (T : wq_T) (H : wq_H) : Option Value → wq_T → wq_H → Prop := fun r T' H' => T = T' ∧ WT T H' ∧ wfr [(27, 17), (35, 16)] T H H' ∧ none = r ∧ ((CY T H' r0 nY (xdg d a1) (wdv (d 0 3).toNat a1)))
set_option maxHeartbeats 4000000 in
theorem u_163 {kt : Nat → Option mc_E} {T : wq_T} {H : wq_H} {r0 : Nat} {a1 : Int} {d : xD} {nY : Int} {gY : Nat → Int} {cY : Int} (hW : WT T H) (g0 : T.2.2.2 r0 = some 27) (i1 : 0 ≤ a1 ∧ a1 ≤ 9223372036854775807) (p0 : H r0 10 = d 0 3) (p1 : wdv (d 0 3).toNat a1 ≤ 20000) (p2 : nY = d 0 3) (hCY_r0 : CY T H r0 nY gY cY) (hDD_r0 : DD T H r0 ) : wpc kt 1 163 [.ref r0, vL a1] T H (uq_163 r0 a1 d nY gY cY T H) := by
  refine wp_enter e163 (Nat.le_of_ble_eq_true rfl) rfl ?_
  have f0 : wfr [(27, 17), (35, 16)] T H H := wfr.rf
  show wp _ _ 163 0 [(0, .ref r0), (1, vL a1)] [] _ H _
  have b1065 : 0 ≤ H r0 10 ∧ H r0 10 ≤ 6 := hW.box g0 (n := 19) rfl (by decide) rfl
  refine wp_of e163 c163_0 (rw_lload_n (pc' := 1) (z := a1) rfl rfl ?_)
  refine wp_of e163 c163_1 (rw_lstore_n (pc' := 2) (z := a1) (L' := [(3, vL a1), (0, .ref r0), (1, vL a1)]) rfl rfl rfl ?_)
  refine wp_of e163 c163_2 (rw_aload_n (pc' := 3) (v := .ref r0) rfl rfl rfl ?_)
  refine wp_of e163 c163_3 (xg_I (pc' := 6) lf_7_50 hW g0 sh_27 (by decide) (by decide) ty_27_10 rfl rfl (fun b1066 b1067 => ?_))
  refine wp_of e163 c163_6 (rw_iconst (pc' := 7) rfl ?_)
  refine wp_of e163 c163_7 (rw_isub (pc' := 8) rfl ?_)
  refine wp_of e163 c163_8 (rw_istore (pc' := 10) (z := (H r0 10) - 1) (L' := [(5, vI ((H r0 10) - 1)), (3, vL a1), (0, .ref r0), (1, vL a1)]) rfl rfl rfl ?_)
  have lp1104 : ∀ (n1105 : Nat) (v1107 : Int) (v1108 : Int) (H1109 : wq_H), WT T H1109 → wfr [(35, 16)] T H H1109 → ((-1) ≤ v1107 ∧ v1107 ≤ 5) → (0 ≤ v1108 ∧ v1108 ≤ 9223372036854775807) → CGi T H1109 r0 (v1107 + 1) (d 0 3) (xdg d a1) → (v1107 ≤ d 0 3 - 1) → (v1108 = wdv (d 0 3 - 1 - v1107).toNat a1) → (v1107 - (-1)).toNat = n1105 → wp kt 0 163 10 [(5, vI v1107), (3, vL v1108), (0, .ref r0)] [] T H1109 (uq_163 r0 a1 d nY gY cY T H) := by
    intro n1105
    induction n1105 using Nat.strongRecOn with
    | _ n1105 ih1106 =>
      intro v1107 v1108 H1109 w1110 f1111 b1112 b1113 h1115 x1116 x1117 m1114
      have f1118 := f0.tr f1111 rfl
      have k1119 : H1109 r0 10 = H r0 10 := (f1111 r0 10 _ g0 rfl)
      have _x : v1107 = -1 → v1108 = wdv (d 0 3).toNat a1 := fun q => wdv_z ‹v1108 = wdv (d 0 3 - 1 - v1107).toNat a1› q
      refine wp_of e163 c163_10 (rw_iload (pc' := 12) (z := v1107) rfl rfl ?_)
      refine wp_of e163 c163_12 (rw_if_lt (p1 := 43) (p2 := 15) (by decide) rfl ⟨Int.le_trans (by decide) b1112.1, Int.le_trans b1112.2 (by decide)⟩ (fun c1120 => ?_) (fun c1120 => ?_))
      · have h1121 : CG T H1109 r0 (d 0 3) (xdg d a1) := CGi_all h1115 (by omega)
        refine wp_of e163 c163_43 (rw_aload_n (pc' := 44) (v := .ref r0) rfl rfl rfl ?_)
        refine wp_of e163 c163_44 (rw_lload_n (pc' := 45) (z := v1108) rfl rfl ?_)
        refine wp_of e163 c163_45 (rw_l2i (pc' := 46) rfl ?_)
        obtain ⟨v1122, e1123⟩ : ∃ x : Int, x = wq_w v1108 := ⟨_, rfl⟩
        rw [← e1123]
        have b1124 : -2147483648 ≤ v1122 ∧ v1122 ≤ 2147483647 := by
          rw [e1123]
          exact wI_w _
        have b1125 : (-2147483648 ≤ v1108 ∧ v1108 ≤ 2147483647) → v1122 = v1108 := by
          rw [e1123]
          exact fun h => wq_w_id h
        refine wp_of e163 c163_46 (xp_I (pc' := 49) lf_7_68 w1110 g0 sh_27 (by decide) (by decide) ty_27_17 rfl rfl (by omega) (b1124.2) ⟨b1124.1, b1124.2⟩ rfl (fun H1126 e1127 w1128 => ?_))
        have f1129 := f1118.put' e1127 g0 rfl
        have k1130 : H1126 r0 17 = v1122 := wq_u_s e1127
        have h1131 : CG T H1126 r0 (d 0 3) (xdg d a1) := (CG_fr w1110 g0 ((wfr.rf (l := [(27, 17)])).put' e1127 g0 rfl) rfl h1121)
        exact wp_return e163 c163_49 rfl ⟨rfl, w1128, f1129, rfl, (⟨by rw [p2]; exact h1131, by omega⟩)⟩
      · refine wp_of e163 c163_15 (rw_aload_n (pc' := 16) (v := .ref r0) rfl rfl rfl ?_)
        refine wp_of e163 c163_16 (xg_R (pc' := 19) lf_7_11 w1110 g0 sh_27 (by decide) (by decide) ty_27_0 rfl rfl (fun r1132 q1133 g1134 => ?_))
        refine wp_of e163 c163_19 (rw_iload (pc' := 21) (z := v1107) rfl rfl ?_)
        refine wp_of e163 c163_21 (xa_R (pc' := 22) (by decide) w1110 g1134 sh_28 (by decide) (ty_28 _) (by omega) (Int.lt_of_le_of_lt b1112.2 (by decide)) rfl (fun r1135 q1136 g1137 => ?_))
        refine wp_of e163 c163_22 (rw_lload_n (pc' := 23) (z := v1108) rfl rfl ?_)
        refine wp_of e163 c163_23 (rw_ldc2 (pc' := 26) (z := 40) rfl rfl rfl ?_)
        refine wp_of e163 c163_26 (rw_lrem (pc' := 27) rfl ⟨by omega, by omega⟩ (by omega) ?_)
        obtain ⟨v1138, e1139⟩ : ∃ x : Int, x = wl_rem v1108 40 := ⟨_, rfl⟩
        rw [← e1139]
        have b1140 : v1138 = v1108 % 40 := by
          rw [e1139]
          exact wl_rem_e ⟨by omega, by omega⟩ ⟨by omega, by omega⟩
        refine wp_of e163 c163_27 (rw_l2i (pc' := 28) rfl ?_)
        obtain ⟨v1141, e1142⟩ : ∃ x : Int, x = wq_w v1138 := ⟨_, rfl⟩
        rw [← e1142]
        have b1143 : v1141 = v1138 := by
          rw [e1142]
          exact wq_w_id ⟨by omega, by omega⟩
        have h1144 : DD T H1109 r0  := (DD_fr hW g0 f1111 rfl hDD_r0)
        refine wp_of e163 c163_28 (xp_I (pc' := 31) lf_7_127 w1110 g1137 sh_35 (by decide) (by decide) ty_35_16 rfl rfl (by omega) (by omega) ⟨by omega, by omega⟩ rfl (fun H1145 e1146 w1147 => ?_))
        have f1148 := f1118.put' e1146 g1137 rfl
        have f1149 := f1111.put' e1146 g1137 rfl
        have k1150 : H1145 r1135 16 = v1141 := wq_u_s e1146
        have h1151 : CGi T H1145 r0 v1107 (d 0 3) (xdg d a1) := CGi_put h1144 q1133 g1134 g0 q1136 g1137 (k := (v1107).toNat) (by omega) (by omega) e1146 (by omega) (xdg_e (by omega) (by omega) (by assumption) (by omega)) h1115
        refine wp_of e163 c163_31 (rw_lload_n (pc' := 32) (z := v1108) rfl rfl ?_)
        refine wp_of e163 c163_32 (rw_ldc2 (pc' := 35) (z := 40) rfl rfl rfl ?_)
        refine wp_of e163 c163_35 (rw_ldiv (pc' := 36) rfl ⟨by omega, by omega⟩ (by omega) ?_)
        obtain ⟨v1152, e1153⟩ : ∃ x : Int, x = wl_div v1108 40 := ⟨_, rfl⟩
        rw [← e1153]
        have b1154 : v1152 = v1108 / 40 := by
          rw [e1153]
          exact wl_div_e ⟨by omega, by omega⟩ ⟨by omega, by omega⟩
        refine wp_of e163 c163_36 (rw_lstore_n (pc' := 37) (z := v1152) (L' := [(3, vL v1152), (5, vI v1107), (0, .ref r0)]) rfl rfl rfl ?_)
        have h1155 : CGi T H1145 r0 ((v1107 + (-1)) + 1) (d 0 3) (xdg d a1) := by rw [show (v1107 + (-1)) + 1 = v1107 by omega]; exact h1151
        refine wp_of e163 c163_37 (rw_iinc (pc' := 40) (z := v1107) (L' := [(5, vI (v1107 + (-1))), (3, vL v1152), (0, .ref r0)]) rfl rfl rfl rfl ?_)
        refine wp_of e163 c163_40 (rw_goto (p1 := 10) (by decide) ?_)
        have k1156 : H1145 r0 10 = H1109 r0 10 := (wq_u_t e1146 g1137 g0 rfl 10)
        exact wp_lc (ks := [5, 3, 0]) (wl_c rfl (wl_c rfl (wl_c rfl wl_n))) rfl (by decide) (ih1106 _ (by omega) (v1107 + (-1)) v1152 H1145 w1147 f1149 ⟨by omega, by omega⟩ ⟨by omega, by omega⟩ h1155 (by omega) (wdv_n (by omega) (by assumption) (by omega)) rfl)
  have h1157 : CGi T H r0 (((H r0 10) - 1) + 1) (d 0 3) (xdg d a1) := CGi_0 (by omega)
  exact wp_lc (ks := [5, 3, 0, 1]) (wl_c rfl (wl_c rfl (wl_c rfl wl_n))) rfl (by decide) (lp1104 _ ((H r0 10) - 1) a1 H hW wfr.rf ⟨by omega, by omega⟩ ⟨i1.1, i1.2⟩ h1157 (by omega) (wdv_1 (by omega)) rfl)
/-! StrikeAwake.restore(J)Z  -/
abbrev uq_161 (r0 : Nat) (a1 : Int) (cu : Nat) (e : xD) (d : xD) (n : Int) (nY : Int) (gY : Nat → Int) (cY : Int) (T : wq_T) (H : wq_H) : Option Value → wq_T → wq_H → Prop := fun r T' H' => T = T' ∧ WT T H' ∧ wfr [(27, 17), (35, 16), (1, 10)] T H H' ∧ ∃ z : Int, some (vI z) = r ∧ (0 ≤ z ∧ z ≤ 1) ∧ (((z = 1) ∧ (H r0 8 = 1 ∧ 0 ≤ a1 ∧ wdv (d 0 3).toNat a1 ≤ 20000) ∧ (xpd d a1 0 (d 0 3).toNat = 0) ∧ (SG d (xdg d a1)) ∧ CY T H' cu nY (xdg d a1) (wdv (d 0 3).toNat a1)) ∨ ((z = 0) ∧ (H r0 8 = 0 ∨ a1 < 0 ∨ 0 < xpd d a1 0 (d 0 3).toNat ∨ 20000 < wdv (d 0 3).toNat a1) ∧ CY T H' cu nY gY cY))
set_option maxHeartbeats 4000000 in
theorem u_161 {kt : Nat → Option mc_E} {T : wq_T} {H : wq_H} {r0 : Nat} {a1 : Int} {cu : Nat} {e : xD} {d : xD} {n : Int} {nY : Int} {gY : Nat → Int} {cY : Int} (hW : WT T H) (g0 : T.2.2.2 r0 = some 1) (i1 : (-9223372036854775808) ≤ a1 ∧ a1 ≤ 9223372036854775807) (qcu : H r0 6 = (cu : Int)) (gcu : T.2.2.2 cu = some 27) (p0 : e 0 3 = d 0 3) (p1 : e 0 0 = d 0 0) (p2 : nY = d 0 3) (hCU_cu : CU T H cu e d n) (hCY_cu : CY T H cu nY gY cY) (hDD_cu : DD T H cu ) : wpc kt 2 161 [.ref r0, vL a1] T H (uq_161 r0 a1 cu e d n nY gY cY T H) := by
  refine wp_enter e161 (Nat.le_of_ble_eq_true rfl) rfl ?_
  have f0 : wfr [(27, 17), (35, 16), (1, 10)] T H H := wfr.rf
  show wp _ _ 161 0 [(0, .ref r0), (1, vL a1)] [] _ H _
  have u1074 := CU_k hCU_cu
  have b1075 : 0 ≤ H r0 8 ∧ H r0 8 ≤ 1 := hW.box g0 (n := 13) rfl (by decide) rfl
  refine wp_of e161 c161_0 (rw_aload_n (pc' := 1) (v := .ref r0) rfl rfl rfl ?_)
  refine wp_of e161 c161_1 (xg_I (pc' := 4) lf_0_58 hW g0 sh_1 (by decide) (by decide) ty_1_8 rfl rfl (fun b1076 b1077 => ?_))
  refine wp_of e161 c161_4 (rw_if_ne (p1 := 13) (p2 := 7) (by decide) rfl ⟨Int.le_trans (by decide) b1076, Int.le_trans b1077 (by decide)⟩ (fun c1078 => ?_) (fun c1078 => ?_))
  · refine wp_of e161 c161_13 (rw_aload_n (pc' := 14) (v := .ref r0) rfl rfl rfl ?_)
    refine wp_of e161 c161_14 (xg_K (pc' := 17) lf_0_51 hW g0 sh_1 (by decide) (by decide) rfl qcu rfl ?_)
    refine wp_of e161 c161_17 (rw_lload_n (pc' := 18) (z := a1) rfl rfl ?_)
    refine wp_of e161 c161_18 (xc_V (pc' := 21) (r := cu) (as := [vL a1]) (st := []) (lm_0_309) rfl rfl (Nat.le_of_ble_eq_true rfl) hW gcu sh_27 (by decide) rfl (by decide) (u_162 (e := e) (d := d) (n := n) hW gcu ⟨i1.1, i1.2⟩ (by omega) hCU_cu) (fun R1079 T1080 H1081 p1082 => ?_))
    obtain ⟨e1083, e1085, z1086, e1084, b1087, p1088⟩ := p1082
    subst e1083
    subst e1084
    subst e1085
    rcases p1088 with ⟨a1089, a1090, a1091⟩ | ⟨a1092, a1093⟩
    · show wp _ _ 161 21 [(0, .ref r0), (1, vL a1)] [vI z1086] _ H _
      refine wp_of e161 c161_21 (rw_if_ne (p1 := 30) (p2 := 24) (by decide) rfl ⟨Int.le_trans (by decide) b1087.1, Int.le_trans b1087.2 (by decide)⟩ (fun c1094 => ?_) (fun c1094 => ?_))
      · have _w : wdv (H cu 10).toNat a1 = wdv (d 0 3).toNat a1 := by rw [show H cu 10 = d 0 3 by omega]
        refine wp_of e161 c161_30 (rw_aload_n (pc' := 31) (v := .ref r0) rfl rfl rfl ?_)
        refine wp_of e161 c161_31 (xg_K (pc' := 34) lf_0_51 hW g0 sh_1 (by decide) (by decide) rfl qcu rfl ?_)
        refine wp_of e161 c161_34 (rw_lload_n (pc' := 35) (z := a1) rfl rfl ?_)
        refine wp_of e161 c161_35 (xc_V (pc' := 38) (r := cu) (as := [vL a1]) (st := []) (lm_0_313) rfl rfl (Nat.le_of_ble_eq_true rfl) hW gcu sh_27 (by decide) rfl (by decide) (u_163 (d := d) (nY := nY) (gY := gY) (cY := cY) hW gcu ⟨by omega, i1.2⟩ (by omega) (by omega) (by omega) hCY_cu hDD_cu) (fun R1095 T1096 H1097 p1098 => ?_))
        obtain ⟨e1099, w1101, f1102, e1100, p1103⟩ := p1098
        subst e1099
        subst e1100
        have f1105 := f0.tr f1102 rfl
        show wp _ _ 161 38 [(0, .ref r0), (1, vL a1)] [] _ H1097 _
        refine wp_of e161 c161_38 (rw_aload_n (pc' := 39) (v := .ref r0) rfl rfl rfl ?_)
        refine wp_of e161 c161_39 (xc_V (pc' := 42) (r := r0) (as := []) (st := []) (lm_0_151) rfl rfl (Nat.le_of_ble_eq_true rfl) w1101 g0 sh_1 (by decide) rfl (by decide) (u_64  w1101 g0) (fun R1106 T1107 H1108 p1109 => ?_))
        obtain ⟨e1110, w1112, f1113, z1114, e1111, b1115, p1116⟩ := p1109
        subst e1110
        subst e1111
        obtain ⟨a1117, a1118⟩ := p1116
        have f1119 := f1105.tr f1113 rfl
        show wp _ _ 161 42 [(0, .ref r0), (1, vL a1)] [vI z1114] _ H1108 _
        have h1120 : CY T H1108 cu nY (xdg d a1) (wdv (d 0 3).toNat a1) := (CY_fr w1101 gcu f1113 rfl p1103)
        exact wp_zreturn e161 c161_42 rfl (by omega) ⟨rfl, w1112, f1119, z1114, rfl, ⟨b1115.1, b1115.2⟩, (Or.inl ⟨by omega, by omega, by omega, SG_im (by omega), h1120⟩)⟩
      · exfalso
        omega
    · show wp _ _ 161 21 [(0, .ref r0), (1, vL a1)] [vI z1086] _ H _
      refine wp_of e161 c161_21 (rw_if_ne (p1 := 30) (p2 := 24) (by decide) rfl ⟨Int.le_trans (by decide) b1087.1, Int.le_trans b1087.2 (by decide)⟩ (fun c1121 => ?_) (fun c1121 => ?_))
      · exfalso
        omega
      · refine wp_of e161 c161_24 (rw_aload_n (pc' := 25) (v := .ref r0) rfl rfl rfl ?_)
        refine wp_of e161 c161_25 (rw_iconst (pc' := 26) rfl ?_)
        refine wp_of e161 c161_26 (xc_V (pc' := 29) (r := r0) (as := [vI 2]) (st := []) (lm_0_145) rfl rfl (Nat.le_of_ble_eq_true rfl) hW g0 sh_1 (by decide) rfl (by decide) (u_63  hW g0 ⟨by decide, by decide⟩) (fun R1122 T1123 H1124 p1125 => ?_))
        obtain ⟨e1126, w1128, f1129, z1130, e1127, b1131, p1132⟩ := p1125
        subst e1126
        subst e1127
        obtain ⟨a1133, a1134⟩ := p1132
        have f1135 := f0.tr f1129 rfl
        show wp _ _ 161 29 [(0, .ref r0), (1, vL a1)] [vI z1130] _ H1124 _
        have h1136 : CY T H1124 cu nY gY cY := (CY_fr hW gcu f1129 rfl hCY_cu)
        exact wp_zreturn e161 c161_29 rfl (by omega) ⟨rfl, w1128, f1135, z1130, rfl, ⟨b1131.1, b1131.2⟩, (Or.inr ⟨by omega, by omega, h1136⟩)⟩
  · refine wp_of e161 c161_7 (rw_aload_n (pc' := 8) (v := .ref r0) rfl rfl rfl ?_)
    refine wp_of e161 c161_8 (rw_iconst (pc' := 9) rfl ?_)
    refine wp_of e161 c161_9 (xc_V (pc' := 12) (r := r0) (as := [vI 1]) (st := []) (lm_0_145) rfl rfl (Nat.le_of_ble_eq_true rfl) hW g0 sh_1 (by decide) rfl (by decide) (u_63  hW g0 ⟨by decide, by decide⟩) (fun R1137 T1138 H1139 p1140 => ?_))
    obtain ⟨e1141, w1143, f1144, z1145, e1142, b1146, p1147⟩ := p1140
    subst e1141
    subst e1142
    obtain ⟨a1148, a1149⟩ := p1147
    have f1150 := f0.tr f1144 rfl
    show wp _ _ 161 12 [(0, .ref r0), (1, vL a1)] [vI z1145] _ H1139 _
    have h1151 : CY T H1139 cu nY gY cY := (CY_fr hW gcu f1144 rfl hCY_cu)
    exact wp_zreturn e161 c161_12 rfl (by omega) ⟨rfl, w1143, f1150, z1145, rfl, ⟨b1146.1, b1146.2⟩, (Or.inr ⟨by omega, by omega, h1151⟩)⟩
end
section
/-! A PARISH OF THE REFERENCE, MADE (own work): nothing is told yet -/
abbrev uq_171 (T0 : wq_T) (H0 : wq_H) : Option Value → wq_T → wq_H → Prop := fun r T' H' => q_171 T0 H0 r T' H' ∧ (∀ m, T0.2.2.2 m = some 42 → H0 m 16 = 0 → DM T' H' (256 + T0.2.1) m xD0) ∧ (∀ j, 9 ≤ j → j ≤ 26 → ((256 + T0.2.1 : Nat) : Int) ≤ H' (256 + T0.2.1) j) ∧ ∀ a t, T'.2.2.2 a = some t → T0.2.2.2 a = some t ∨ 54 ≤ t
theorem wNP.allf {T0 : wq_T} {H0 : wq_H} {T : wq_T} {H : wq_H} (h : wNP T0 H0 T H 18) (hx : H (256 + T0.2.1) 8 = -1) (hW : WT T0 H0) (hf : ∀ a, 256 + T0.2.1 ≤ a → T0.1 a = none) : uq_171 T0 H0 none (T.1, T.2.1, T.2.2.1, wNPg T0) H := by
  refine ⟨h.all (by rw [hx]; exact ⟨by decide, by decide⟩) hW hf, fun m gm h16 => ?_, fun j h1 h2 => by
    have h3 := h.fr (j - 9) (by omega)
    rw [show 9 + (j - 9) = j by omega] at h3
    rw [h3]
    omega, fun a t h => by
    have h : wNPg T0 a = some t := h
    unfold wNPg at h
    split at h
    · cases h
      exact Or.inr (by decide)
    · split at h
      · have := Option.some.inj h
        exact Or.inr (by omega)
      · exact Or.inl h⟩
  have hm : m < 256 + T0.2.1 := by
    by_cases q : m < 256 + T0.2.1
    · exact q
    · have h1 := (hW.2 m 42 gm).1
      rw [hf m (by omega)] at h1
      cases h1
  have e16 : H m 16 = 0 := by rw [(h.old m hm).2]; exact h16
  refine ⟨wNPg_mono hW hf m 42 gm, ⟨h.f0 0 (by omega), h.f0 1 (by omega), h.f0 2 (by omega), h.f0 3 (by omega), h.f0 4 (by omega), h.f0 5 (by omega), h.f0 6 (by omega), h.f0 7 (by omega), hx, e16, by decide, by decide⟩, xdP_0, ⟨257 + T0.2.1 + 0, h.fr 0 (by omega), wNP.tag (by omega), fun k _ => (h.ar 0 (by omega)).2 k⟩, ⟨257 + T0.2.1 + 1, h.fr 1 (by omega), wNP.tag (by omega), fun k _ => (h.ar 1 (by omega)).2 k⟩, ⟨257 + T0.2.1 + 2, h.fr 2 (by omega), wNP.tag (by omega), fun k _ => (h.ar 2 (by omega)).2 k⟩, ⟨257 + T0.2.1 + 3, h.fr 3 (by omega), wNP.tag (by omega), fun k _ => (h.ar 3 (by omega)).2 k⟩, ⟨257 + T0.2.1 + 4, h.fr 4 (by omega), wNP.tag (by omega), fun k _ => (h.ar 4 (by omega)).2 k⟩, ⟨257 + T0.2.1 + 5, h.fr 5 (by omega), wNP.tag (by omega), fun k _ => (h.ar 5 (by omega)).2 k⟩, ⟨257 + T0.2.1 + 6, h.fr 6 (by omega), wNP.tag (by omega), fun k _ => (h.ar 6 (by omega)).2 k⟩, ⟨257 + T0.2.1 + 7, h.fr 7 (by omega), wNP.tag (by omega), fun k _ => (h.ar 7 (by omega)).2 k⟩, ⟨257 + T0.2.1 + 8, h.fr 8 (by omega), wNP.tag (by omega), fun k _ => (h.ar 8 (by omega)).2 k⟩, ⟨257 + T0.2.1 + 9, h.fr 9 (by omega), wNP.tag (by omega), fun k _ => (h.ar 9 (by omega)).2 k⟩, ⟨257 + T0.2.1 + 10, h.fr 10 (by omega), wNP.tag (by omega), fun k _ => (h.ar 10 (by omega)).2 k⟩, ⟨257 + T0.2.1 + 11, h.fr 11 (by omega), wNP.tag (by omega), fun k _ => (h.ar 11 (by omega)).2 k⟩, ⟨257 + T0.2.1 + 12, h.fr 12 (by omega), wNP.tag (by omega), fun k _ => (h.ar 12 (by omega)).2 k⟩, ⟨257 + T0.2.1 + 13, h.fr 13 (by omega), wNP.tag (by omega), fun k _ => (h.ar 13 (by omega)).2 k⟩, ⟨257 + T0.2.1 + 14, h.fr 14 (by omega), wNP.tag (by omega), fun k _ => (h.ar 14 (by omega)).2 k⟩, ⟨257 + T0.2.1 + 16, h.fr 16 (by omega), wNP.tag (by omega), fun k _ => (h.ar 16 (by omega)).2 k⟩, ⟨257 + T0.2.1 + 17, h.fr 17 (by omega), wNP.tag (by omega), fun k _ => (h.ar 17 (by omega)).2 k⟩⟩
theorem wPI_dm {T : wq_T} {H : wq_H} {R m : Nat} {d : xD} (h : DM T H R m d) : wPI H R = 1 := by
  obtain ⟨-, -, hp, -, ⟨b1, q1, -, a1⟩, ⟨b2, q2, -, a2⟩, ⟨b3, q3, -, a3⟩, ⟨b4, q4, -, a4⟩, -⟩ := h
  refine wPI_of q1 q2 q3 q4 (fun k hk => ?_)
  rw [a1 k hk, a2 k hk, a3 k hk, a4 k hk]
  have := hp k
  omega
set_option maxHeartbeats 4000000 in
theorem u_171 {kt : Nat → Option mc_E} {T : wq_T} {H : wq_H} (hW : WT T H) (hf : ∀ a, 256 + T.2.1 ≤ a → T.1 a = none) : wpc kt 1 171 [.ref (256 + T.2.1)] (wq_gT T (110, 27) 27) (wq_gH H (256 + T.2.1) (wq_d 10)) (uq_171 T H) := by
  refine wp_enter e171 (Nat.le_of_ble_eq_true rfl) rfl ?_
  have G18 : (∀ T' H', wNP T H T' H' 18 → H' (256 + T.2.1) 8 = -1 → wp kt 0 171 147 [(0, .ref (256 + T.2.1))] [] T' H' (uq_171 T H)) := fun T' H' np hx => wp.ghost (wNPg T) (wp_return e171 c171_147 rfl (np.allf hx hW hf))
  have G17 : (∀ T' H', wNP T H T' H' 17 → H' (256 + T.2.1) 8 = -1 → wp kt 0 171 139 [(0, .ref (256 + T.2.1))] [] T' H' (uq_171 T H)) := fun T' H' np hx => by
    have hn := np.n
    refine wp_of e171 c171_139 (rw_aload_n (pc' := 140) (v := .ref (256 + T.2.1)) rfl rfl rfl ?_)
    refine wp_of e171 c171_140 (rw_bipush (pc' := 142) (z := 6) rfl (by decide) ?_)
    refine wp_of e171 c171_142 (rw_newa (pc' := 144) (tt := 0) (n := 6) rfl (by decide) (by decide) (by decide) rfl rfl ?_)
    refine wp_of e171 c171_144 (px_R (pc' := 147) (z := ((256 + T'.2.1 : Nat) : Int)) lf_10_69 (by show (if _ = _ then _ else T'.1 _) = _; rw [if_neg (by omega)]; exact np.ob) (by omega) (by decide) rfl (vR_of _) trivial rfl ?_)
    exact G18 _ _ (np.next (i := 17) sh_72 (by decide)) (by rw [wq_u_ne (by omega), wq_gH_ne (by omega)]; exact hx)
  have G16 : (∀ T' H', wNP T H T' H' 16 → H' (256 + T.2.1) 8 = -1 → wp kt 0 171 131 [(0, .ref (256 + T.2.1))] [] T' H' (uq_171 T H)) := fun T' H' np hx => by
    have hn := np.n
    refine wp_of e171 c171_131 (rw_aload_n (pc' := 132) (v := .ref (256 + T.2.1)) rfl rfl rfl ?_)
    refine wp_of e171 c171_132 (rw_bipush (pc' := 134) (z := 6) rfl (by decide) ?_)
    refine wp_of e171 c171_134 (rw_newa (pc' := 136) (tt := 0) (n := 6) rfl (by decide) (by decide) (by decide) rfl rfl ?_)
    refine wp_of e171 c171_136 (px_R (pc' := 139) (z := ((256 + T'.2.1 : Nat) : Int)) lf_10_66 (by show (if _ = _ then _ else T'.1 _) = _; rw [if_neg (by omega)]; exact np.ob) (by omega) (by decide) rfl (vR_of _) trivial rfl ?_)
    exact G17 _ _ (np.next (i := 16) sh_71 (by decide)) (by rw [wq_u_ne (by omega), wq_gH_ne (by omega)]; exact hx)
  have G15 : (∀ T' H', wNP T H T' H' 15 → H' (256 + T.2.1) 8 = -1 → wp kt 0 171 124 [(0, .ref (256 + T.2.1))] [] T' H' (uq_171 T H)) := fun T' H' np hx => by
    have hn := np.n
    refine wp_of e171 c171_124 (rw_aload_n (pc' := 125) (v := .ref (256 + T.2.1)) rfl rfl rfl ?_)
    refine wp_of e171 c171_125 (rw_iconst (pc' := 126) rfl ?_)
    refine wp_of e171 c171_126 (rw_newa (pc' := 128) (tt := 0) (n := 4) rfl (by decide) (by decide) (by decide) rfl rfl ?_)
    refine wp_of e171 c171_128 (px_R (pc' := 131) (z := ((256 + T'.2.1 : Nat) : Int)) lf_10_63 (by show (if _ = _ then _ else T'.1 _) = _; rw [if_neg (by omega)]; exact np.ob) (by omega) (by decide) rfl (vR_of _) trivial rfl ?_)
    exact G16 _ _ (np.next (i := 15) sh_70 (by decide)) (by rw [wq_u_ne (by omega), wq_gH_ne (by omega)]; exact hx)
  have G14 : (∀ T' H', wNP T H T' H' 14 → H' (256 + T.2.1) 8 = -1 → wp kt 0 171 117 [(0, .ref (256 + T.2.1))] [] T' H' (uq_171 T H)) := fun T' H' np hx => by
    have hn := np.n
    refine wp_of e171 c171_117 (rw_aload_n (pc' := 118) (v := .ref (256 + T.2.1)) rfl rfl rfl ?_)
    refine wp_of e171 c171_118 (rw_iconst (pc' := 119) rfl ?_)
    refine wp_of e171 c171_119 (rw_newa (pc' := 121) (tt := 0) (n := 4) rfl (by decide) (by decide) (by decide) rfl rfl ?_)
    refine wp_of e171 c171_121 (px_R (pc' := 124) (z := ((256 + T'.2.1 : Nat) : Int)) lf_10_60 (by show (if _ = _ then _ else T'.1 _) = _; rw [if_neg (by omega)]; exact np.ob) (by omega) (by decide) rfl (vR_of _) trivial rfl ?_)
    exact G15 _ _ (np.next (i := 14) sh_69 (by decide)) (by rw [wq_u_ne (by omega), wq_gH_ne (by omega)]; exact hx)
  have G13 : (∀ T' H', wNP T H T' H' 13 → H' (256 + T.2.1) 8 = -1 → wp kt 0 171 110 [(0, .ref (256 + T.2.1))] [] T' H' (uq_171 T H)) := fun T' H' np hx => by
    have hn := np.n
    refine wp_of e171 c171_110 (rw_aload_n (pc' := 111) (v := .ref (256 + T.2.1)) rfl rfl rfl ?_)
    refine wp_of e171 c171_111 (rw_iconst (pc' := 112) rfl ?_)
    refine wp_of e171 c171_112 (rw_newa (pc' := 114) (tt := 0) (n := 4) rfl (by decide) (by decide) (by decide) rfl rfl ?_)
    refine wp_of e171 c171_114 (px_R (pc' := 117) (z := ((256 + T'.2.1 : Nat) : Int)) lf_10_57 (by show (if _ = _ then _ else T'.1 _) = _; rw [if_neg (by omega)]; exact np.ob) (by omega) (by decide) rfl (vR_of _) trivial rfl ?_)
    exact G14 _ _ (np.next (i := 13) sh_68 (by decide)) (by rw [wq_u_ne (by omega), wq_gH_ne (by omega)]; exact hx)
  have G12 : (∀ T' H', wNP T H T' H' 12 → H' (256 + T.2.1) 8 = -1 → wp kt 0 171 102 [(0, .ref (256 + T.2.1))] [] T' H' (uq_171 T H)) := fun T' H' np hx => by
    have hn := np.n
    refine wp_of e171 c171_102 (rw_aload_n (pc' := 103) (v := .ref (256 + T.2.1)) rfl rfl rfl ?_)
    refine wp_of e171 c171_103 (rw_bipush (pc' := 105) (z := 24) rfl (by decide) ?_)
    refine wp_of e171 c171_105 (rw_newa (pc' := 107) (tt := 0) (n := 24) rfl (by decide) (by decide) (by decide) rfl rfl ?_)
    refine wp_of e171 c171_107 (px_R (pc' := 110) (z := ((256 + T'.2.1 : Nat) : Int)) lf_10_54 (by show (if _ = _ then _ else T'.1 _) = _; rw [if_neg (by omega)]; exact np.ob) (by omega) (by decide) rfl (vR_of _) trivial rfl ?_)
    exact G13 _ _ (np.next (i := 12) sh_67 (by decide)) (by rw [wq_u_ne (by omega), wq_gH_ne (by omega)]; exact hx)
  have G11 : (∀ T' H', wNP T H T' H' 11 → H' (256 + T.2.1) 8 = -1 → wp kt 0 171 95 [(0, .ref (256 + T.2.1))] [] T' H' (uq_171 T H)) := fun T' H' np hx => by
    have hn := np.n
    refine wp_of e171 c171_95 (rw_aload_n (pc' := 96) (v := .ref (256 + T.2.1)) rfl rfl rfl ?_)
    refine wp_of e171 c171_96 (rw_iconst (pc' := 97) rfl ?_)
    refine wp_of e171 c171_97 (rw_newa (pc' := 99) (tt := 0) (n := 3) rfl (by decide) (by decide) (by decide) rfl rfl ?_)
    refine wp_of e171 c171_99 (px_R (pc' := 102) (z := ((256 + T'.2.1 : Nat) : Int)) lf_10_51 (by show (if _ = _ then _ else T'.1 _) = _; rw [if_neg (by omega)]; exact np.ob) (by omega) (by decide) rfl (vR_of _) trivial rfl ?_)
    exact G12 _ _ (np.next (i := 11) sh_66 (by decide)) (by rw [wq_u_ne (by omega), wq_gH_ne (by omega)]; exact hx)
  have G10 : (∀ T' H', wNP T H T' H' 10 → H' (256 + T.2.1) 8 = -1 → wp kt 0 171 88 [(0, .ref (256 + T.2.1))] [] T' H' (uq_171 T H)) := fun T' H' np hx => by
    have hn := np.n
    refine wp_of e171 c171_88 (rw_aload_n (pc' := 89) (v := .ref (256 + T.2.1)) rfl rfl rfl ?_)
    refine wp_of e171 c171_89 (rw_iconst (pc' := 90) rfl ?_)
    refine wp_of e171 c171_90 (rw_newa (pc' := 92) (tt := 0) (n := 3) rfl (by decide) (by decide) (by decide) rfl rfl ?_)
    refine wp_of e171 c171_92 (px_R (pc' := 95) (z := ((256 + T'.2.1 : Nat) : Int)) lf_10_48 (by show (if _ = _ then _ else T'.1 _) = _; rw [if_neg (by omega)]; exact np.ob) (by omega) (by decide) rfl (vR_of _) trivial rfl ?_)
    exact G11 _ _ (np.next (i := 10) sh_65 (by decide)) (by rw [wq_u_ne (by omega), wq_gH_ne (by omega)]; exact hx)
  have G9 : (∀ T' H', wNP T H T' H' 9 → H' (256 + T.2.1) 8 = -1 → wp kt 0 171 81 [(0, .ref (256 + T.2.1))] [] T' H' (uq_171 T H)) := fun T' H' np hx => by
    have hn := np.n
    refine wp_of e171 c171_81 (rw_aload_n (pc' := 82) (v := .ref (256 + T.2.1)) rfl rfl rfl ?_)
    refine wp_of e171 c171_82 (rw_iconst (pc' := 83) rfl ?_)
    refine wp_of e171 c171_83 (rw_newa (pc' := 85) (tt := 0) (n := 3) rfl (by decide) (by decide) (by decide) rfl rfl ?_)
    refine wp_of e171 c171_85 (px_R (pc' := 88) (z := ((256 + T'.2.1 : Nat) : Int)) lf_10_45 (by show (if _ = _ then _ else T'.1 _) = _; rw [if_neg (by omega)]; exact np.ob) (by omega) (by decide) rfl (vR_of _) trivial rfl ?_)
    exact G10 _ _ (np.next (i := 9) sh_64 (by decide)) (by rw [wq_u_ne (by omega), wq_gH_ne (by omega)]; exact hx)
  have G8 : (∀ T' H', wNP T H T' H' 8 → H' (256 + T.2.1) 8 = -1 → wp kt 0 171 73 [(0, .ref (256 + T.2.1))] [] T' H' (uq_171 T H)) := fun T' H' np hx => by
    have hn := np.n
    refine wp_of e171 c171_73 (rw_aload_n (pc' := 74) (v := .ref (256 + T.2.1)) rfl rfl rfl ?_)
    refine wp_of e171 c171_74 (rw_bipush (pc' := 76) (z := 6) rfl (by decide) ?_)
    refine wp_of e171 c171_76 (rw_newa (pc' := 78) (tt := 3) (n := 6) rfl (by decide) (by decide) (by decide) rfl rfl ?_)
    refine wp_of e171 c171_78 (px_R (pc' := 81) (z := ((256 + T'.2.1 : Nat) : Int)) lf_10_41 (by show (if _ = _ then _ else T'.1 _) = _; rw [if_neg (by omega)]; exact np.ob) (by omega) (by decide) rfl (vR_of _) trivial rfl ?_)
    exact G9 _ _ (np.next (i := 8) sh_63 (by decide)) (by rw [wq_u_ne (by omega), wq_gH_ne (by omega)]; exact hx)
  have G7 : (∀ T' H', wNP T H T' H' 7 → H' (256 + T.2.1) 8 = -1 → wp kt 0 171 65 [(0, .ref (256 + T.2.1))] [] T' H' (uq_171 T H)) := fun T' H' np hx => by
    have hn := np.n
    refine wp_of e171 c171_65 (rw_aload_n (pc' := 66) (v := .ref (256 + T.2.1)) rfl rfl rfl ?_)
    refine wp_of e171 c171_66 (rw_bipush (pc' := 68) (z := 6) rfl (by decide) ?_)
    refine wp_of e171 c171_68 (rw_newa (pc' := 70) (tt := 0) (n := 6) rfl (by decide) (by decide) (by decide) rfl rfl ?_)
    refine wp_of e171 c171_70 (px_R (pc' := 73) (z := ((256 + T'.2.1 : Nat) : Int)) lf_10_38 (by show (if _ = _ then _ else T'.1 _) = _; rw [if_neg (by omega)]; exact np.ob) (by omega) (by decide) rfl (vR_of _) trivial rfl ?_)
    exact G8 _ _ (np.next (i := 7) sh_62 (by decide)) (by rw [wq_u_ne (by omega), wq_gH_ne (by omega)]; exact hx)
  have G6 : (∀ T' H', wNP T H T' H' 6 → H' (256 + T.2.1) 8 = -1 → wp kt 0 171 57 [(0, .ref (256 + T.2.1))] [] T' H' (uq_171 T H)) := fun T' H' np hx => by
    have hn := np.n
    refine wp_of e171 c171_57 (rw_aload_n (pc' := 58) (v := .ref (256 + T.2.1)) rfl rfl rfl ?_)
    refine wp_of e171 c171_58 (rw_bipush (pc' := 60) (z := 6) rfl (by decide) ?_)
    refine wp_of e171 c171_60 (rw_newa (pc' := 62) (tt := 0) (n := 6) rfl (by decide) (by decide) (by decide) rfl rfl ?_)
    refine wp_of e171 c171_62 (px_R (pc' := 65) (z := ((256 + T'.2.1 : Nat) : Int)) lf_10_35 (by show (if _ = _ then _ else T'.1 _) = _; rw [if_neg (by omega)]; exact np.ob) (by omega) (by decide) rfl (vR_of _) trivial rfl ?_)
    exact G7 _ _ (np.next (i := 6) sh_61 (by decide)) (by rw [wq_u_ne (by omega), wq_gH_ne (by omega)]; exact hx)
  have G5 : (∀ T' H', wNP T H T' H' 5 → H' (256 + T.2.1) 8 = -1 → wp kt 0 171 49 [(0, .ref (256 + T.2.1))] [] T' H' (uq_171 T H)) := fun T' H' np hx => by
    have hn := np.n
    refine wp_of e171 c171_49 (rw_aload_n (pc' := 50) (v := .ref (256 + T.2.1)) rfl rfl rfl ?_)
    refine wp_of e171 c171_50 (rw_bipush (pc' := 52) (z := 6) rfl (by decide) ?_)
    refine wp_of e171 c171_52 (rw_newa (pc' := 54) (tt := 0) (n := 6) rfl (by decide) (by decide) (by decide) rfl rfl ?_)
    refine wp_of e171 c171_54 (px_R (pc' := 57) (z := ((256 + T'.2.1 : Nat) : Int)) lf_10_32 (by show (if _ = _ then _ else T'.1 _) = _; rw [if_neg (by omega)]; exact np.ob) (by omega) (by decide) rfl (vR_of _) trivial rfl ?_)
    exact G6 _ _ (np.next (i := 5) sh_60 (by decide)) (by rw [wq_u_ne (by omega), wq_gH_ne (by omega)]; exact hx)
  have G4 : (∀ T' H', wNP T H T' H' 4 → H' (256 + T.2.1) 8 = -1 → wp kt 0 171 41 [(0, .ref (256 + T.2.1))] [] T' H' (uq_171 T H)) := fun T' H' np hx => by
    have hn := np.n
    refine wp_of e171 c171_41 (rw_aload_n (pc' := 42) (v := .ref (256 + T.2.1)) rfl rfl rfl ?_)
    refine wp_of e171 c171_42 (rw_bipush (pc' := 44) (z := 6) rfl (by decide) ?_)
    refine wp_of e171 c171_44 (rw_newa (pc' := 46) (tt := 0) (n := 6) rfl (by decide) (by decide) (by decide) rfl rfl ?_)
    refine wp_of e171 c171_46 (px_R (pc' := 49) (z := ((256 + T'.2.1 : Nat) : Int)) lf_10_29 (by show (if _ = _ then _ else T'.1 _) = _; rw [if_neg (by omega)]; exact np.ob) (by omega) (by decide) rfl (vR_of _) trivial rfl ?_)
    exact G5 _ _ (np.next (i := 4) sh_59 (by decide)) (by rw [wq_u_ne (by omega), wq_gH_ne (by omega)]; exact hx)
  have G3 : (∀ T' H', wNP T H T' H' 3 → H' (256 + T.2.1) 8 = -1 → wp kt 0 171 33 [(0, .ref (256 + T.2.1))] [] T' H' (uq_171 T H)) := fun T' H' np hx => by
    have hn := np.n
    refine wp_of e171 c171_33 (rw_aload_n (pc' := 34) (v := .ref (256 + T.2.1)) rfl rfl rfl ?_)
    refine wp_of e171 c171_34 (rw_bipush (pc' := 36) (z := 6) rfl (by decide) ?_)
    refine wp_of e171 c171_36 (rw_newa (pc' := 38) (tt := 0) (n := 6) rfl (by decide) (by decide) (by decide) rfl rfl ?_)
    refine wp_of e171 c171_38 (px_R (pc' := 41) (z := ((256 + T'.2.1 : Nat) : Int)) lf_10_26 (by show (if _ = _ then _ else T'.1 _) = _; rw [if_neg (by omega)]; exact np.ob) (by omega) (by decide) rfl (vR_of _) trivial rfl ?_)
    exact G4 _ _ (np.next (i := 3) sh_58 (by decide)) (by rw [wq_u_ne (by omega), wq_gH_ne (by omega)]; exact hx)
  have G2 : (∀ T' H', wNP T H T' H' 2 → H' (256 + T.2.1) 8 = -1 → wp kt 0 171 25 [(0, .ref (256 + T.2.1))] [] T' H' (uq_171 T H)) := fun T' H' np hx => by
    have hn := np.n
    refine wp_of e171 c171_25 (rw_aload_n (pc' := 26) (v := .ref (256 + T.2.1)) rfl rfl rfl ?_)
    refine wp_of e171 c171_26 (rw_bipush (pc' := 28) (z := 6) rfl (by decide) ?_)
    refine wp_of e171 c171_28 (rw_newa (pc' := 30) (tt := 0) (n := 6) rfl (by decide) (by decide) (by decide) rfl rfl ?_)
    refine wp_of e171 c171_30 (px_R (pc' := 33) (z := ((256 + T'.2.1 : Nat) : Int)) lf_10_23 (by show (if _ = _ then _ else T'.1 _) = _; rw [if_neg (by omega)]; exact np.ob) (by omega) (by decide) rfl (vR_of _) trivial rfl ?_)
    exact G3 _ _ (np.next (i := 2) sh_57 (by decide)) (by rw [wq_u_ne (by omega), wq_gH_ne (by omega)]; exact hx)
  have G1 : (∀ T' H', wNP T H T' H' 1 → H' (256 + T.2.1) 8 = -1 → wp kt 0 171 17 [(0, .ref (256 + T.2.1))] [] T' H' (uq_171 T H)) := fun T' H' np hx => by
    have hn := np.n
    refine wp_of e171 c171_17 (rw_aload_n (pc' := 18) (v := .ref (256 + T.2.1)) rfl rfl rfl ?_)
    refine wp_of e171 c171_18 (rw_bipush (pc' := 20) (z := 6) rfl (by decide) ?_)
    refine wp_of e171 c171_20 (rw_newa (pc' := 22) (tt := 0) (n := 6) rfl (by decide) (by decide) (by decide) rfl rfl ?_)
    refine wp_of e171 c171_22 (px_R (pc' := 25) (z := ((256 + T'.2.1 : Nat) : Int)) lf_10_19 (by show (if _ = _ then _ else T'.1 _) = _; rw [if_neg (by omega)]; exact np.ob) (by omega) (by decide) rfl (vR_of _) trivial rfl ?_)
    exact G2 _ _ (np.next (i := 1) sh_56 (by decide)) (by rw [wq_u_ne (by omega), wq_gH_ne (by omega)]; exact hx)
  have G0 : (∀ T' H', wNP T H T' H' 0 → H' (256 + T.2.1) 8 = -1 → wp kt 0 171 9 [(0, .ref (256 + T.2.1))] [] T' H' (uq_171 T H)) := fun T' H' np hx => by
    have hn := np.n
    refine wp_of e171 c171_9 (rw_aload_n (pc' := 10) (v := .ref (256 + T.2.1)) rfl rfl rfl ?_)
    refine wp_of e171 c171_10 (rw_bipush (pc' := 12) (z := 6) rfl (by decide) ?_)
    refine wp_of e171 c171_12 (rw_newa (pc' := 14) (tt := 1) (n := 6) rfl (by decide) (by decide) (by decide) rfl rfl ?_)
    refine wp_of e171 c171_14 (px_R (pc' := 17) (z := ((256 + T'.2.1 : Nat) : Int)) lf_10_15 (by show (if _ = _ then _ else T'.1 _) = _; rw [if_neg (by omega)]; exact np.ob) (by omega) (by decide) rfl (vR_of _) trivial rfl ?_)
    exact G1 _ _ (np.next (i := 0) sh_55 (by decide)) (by rw [wq_u_ne (by omega), wq_gH_ne (by omega)]; exact hx)
  refine wp_of e171 c171_0 (rw_aload_n (pc' := 1) (v := .ref (256 + T.2.1)) rfl rfl rfl ?_)
  refine wp_of e171 c171_1 (rw_obj (pc' := 4) (e := _) rfl rfl (Nat.le_of_ble_eq_true rfl) rfl ?_)
  refine wp_of e171 c171_4 (rw_aload_n (pc' := 5) (v := .ref (256 + T.2.1)) rfl rfl rfl ?_)
  refine wp_of e171 c171_5 (rw_iconst (pc' := 6) rfl ?_)
  refine wp_of e171 c171_6 (px_R (pc' := 9) (z := -1) lf_10_9 (if_pos rfl) (by omega) (by decide) rfl rfl ⟨by decide, by decide⟩ rfl ?_)
  exact G0 _ _ wNP.zero.num (by rw [wq_u_eq])
end
