/-! what methods do (own work, written by wip/gen3/sx3.py) -/
/-! StrikeAwake.parish(I)I  -/
abbrev uq_11 (r0 : Nat) (a1 : Int) (tp : Nat) (rd : Nat) (cu : Nat) (dr : Nat) (ce : Nat) (B : Nat → Int) (y : Int) (eU : xD) (dU : xD) (nU : Int) (nY : Int) (gY : Nat → Int) (cY : Int) (C : Nat → Bool) (T : wq_T) (H : wq_H) : Option Value → wq_T → wq_H → Prop := fun r T' H' => T = T' ∧ WT T H' ∧ wfr [(12, 9), (27, 7), (27, 8), (27, 9), (27, 10), (27, 11), (27, 12), (27, 13), (27, 14), (27, 15), (27, 16), (27, 17), (27, 18), (35, 6), (35, 7), (35, 8), (35, 9), (35, 10), (35, 11), (35, 12), (35, 13), (35, 14), (35, 15), (35, 16), (35, 17), (3, 1), (3, 2), (3, 3), (3, 4), (1, 6), (1, 7), (1, 8), (1, 9), (1, 10), (1, 11), (1, 12), (4, 0), (4, 1), (4, 2), (4, 3), (4, 4), (4, 5), (4, 6), (38, 999), (39, 999), (36, 999), (31, 999), (40, 999), (41, 999), (34, 999), (37, 999), (29, 999), (30, 999), (33, 999), (32, 999)] T H H' ∧ ∃ z : Int, some (vI z) = r ∧ ((-2147483648) ≤ z ∧ z ≤ 2147483647) ∧ (((z = -1) ∧ (a1 < 0 ∨ H r0 9 < a1) ∧ (H' r0 9 = H r0 9) ∧ (H' r0 10 = 2) ∧ (H' r0 6 = (cu : Int)) ∧ (H' r0 7 = (dr : Int)) ∧ (H' r0 8 = H r0 8) ∧ (H' r0 11 = H r0 11) ∧ CU T H' cu eU dU nU ∧ CY T H' cu nY gY cY ∧ SP T H' r0 C ∧ CEN T H' ce eU dU) ∨ ((z = -1) ∧ (0 ≤ a1 ∧ a1 ≤ H r0 9) ∧ (H' r0 9 = 0) ∧ ((xparse B y).1.1 ≠ 0) ∧ (H' r0 10 = 4) ∧ (H' r0 11 = (xparse B y).1.1) ∧ (H' r0 12 = (xparse B y).1.2.1) ∧ (H' r0 6 = (cu : Int)) ∧ (H' r0 7 = (dr : Int)) ∧ (H' r0 8 = H r0 8) ∧ CU T H' cu eU dU nU ∧ CY T H' cu nY gY cY ∧ SP T H' r0 C ∧ CEN T H' ce eU dU) ∨ ((0 ≤ z ∧ z ≤ 6) ∧ (0 ≤ a1 ∧ a1 ≤ H r0 9) ∧ (H' r0 9 = 0) ∧ ((xparse B y).1.1 = 0) ∧ (z = (xparse B y).2 0 3) ∧ (H' r0 10 = 0) ∧ (H' r0 6 = (dr : Int)) ∧ (H' r0 7 = (cu : Int)) ∧ (H' r0 8 = 1) ∧ (H' r0 11 = 0) ∧ (XA (xset (xparse B y).2)) ∧ (1 ≤ (xset (xparse B y).2) 0 0 ∧ 1 ≤ (xset (xparse B y).2) 0 3) ∧ (H' ce 9 = 0) ∧ CU T H' dr (xset (xparse B y).2) (xset (xparse B y).2) (xlots (xset (xparse B y).2)) ∧ CY T H' dr ((xparse B y).2 0 3) (fun _ => 0) 0 ∧ SP T H' r0 (fun a => !(C a))))
set_option maxHeartbeats 4000000 in
theorem u_11 {kt : Nat → Option mc_E} {T : wq_T} {H : wq_H} {r0 : Nat} {a1 : Int} {tp : Nat} {rd : Nat} {cu : Nat} {dr : Nat} {ce : Nat} {B : Nat → Int} {y : Int} {eU : xD} {dU : xD} {nU : Int} {nY : Int} {gY : Nat → Int} {cY : Int} {C : Nat → Bool} (hW : WT T H) (g0 : T.2.2.2 r0 = some 1) (i1 : (-2147483648) ≤ a1 ∧ a1 ≤ 2147483647) (qtp : H r0 0 = (tp : Int)) (gtp : T.2.2.2 tp = some 2) (qrd : H r0 1 = (rd : Int)) (grd : T.2.2.2 rd = some 3) (qcu : H r0 6 = (cu : Int)) (gcu : T.2.2.2 cu = some 27) (qdr : H r0 7 = (dr : Int)) (gdr : T.2.2.2 dr = some 27) (qce : H r0 3 = (ce : Int)) (gce : T.2.2.2 ce = some 12) (p0 : a1 = y) (p1 : C cu = true) (p2 : C dr = false) (p3 : dU 0 3 ≤ 6) (p4 : nY ≤ 6) (hTP_tp : TP T H tp B) (hDD_dr : DD T H dr ) (hDE_dr : DE T H dr ) (hCU_cu : CU T H cu eU dU nU) (hCY_cu : CY T H cu nY gY cY) (hSP_r0 : SP T H r0 C) (hCEN_ce : CEN T H ce eU dU) : wpc kt 8 11 [.ref r0, vI a1] T H (uq_11 r0 a1 tp rd cu dr ce B y eU dU nU nY gY cY C T H) := by
  refine wp_enter e11 (Nat.le_of_ble_eq_true rfl) rfl ?_
  have f0 : wfr [(12, 9), (27, 7), (27, 8), (27, 9), (27, 10), (27, 11), (27, 12), (27, 13), (27, 14), (27, 15), (27, 16), (27, 17), (27, 18), (35, 6), (35, 7), (35, 8), (35, 9), (35, 10), (35, 11), (35, 12), (35, 13), (35, 14), (35, 15), (35, 16), (35, 17), (3, 1), (3, 2), (3, 3), (3, 4), (1, 6), (1, 7), (1, 8), (1, 9), (1, 10), (1, 11), (1, 12), (4, 0), (4, 1), (4, 2), (4, 3), (4, 4), (4, 5), (4, 6), (38, 999), (39, 999), (36, 999), (31, 999), (40, 999), (41, 999), (34, 999), (37, 999), (29, 999), (30, 999), (33, 999), (32, 999)] T H H := wfr.rf
  show wp _ _ 11 0 [(0, .ref r0), (1, vI a1)] [] _ H _
  have u1195 := CU_k hCU_cu
  have b1196 : 0 ≤ H r0 9 ∧ H r0 9 ≤ 900 := hW.box g0 (n := 13) rfl (by decide) rfl
  have b1197 : 0 ≤ H r0 8 ∧ H r0 8 ≤ 1 := hW.box g0 (n := 13) rfl (by decide) rfl
  have b1198 : (-2147483648) ≤ H r0 11 ∧ H r0 11 ≤ 2147483647 := hW.box g0 (n := 13) rfl (by decide) rfl
  have _y1 : (xparse B a1).1.1 = (xparse B y).1.1 := by rw [p0]
  have _y2 : (xparse B a1).1.2.1 = (xparse B y).1.2.1 := by rw [p0]
  have _y3 : (xparse B a1).2 0 3 = (xparse B y).2 0 3 := by rw [p0]
  have pC1 := p1
  have pC2 := p2
  have pC3 := p3
  have pC4 := p4
  refine wp_of e11 c11_0 (rw_iload_n (pc' := 1) (z := a1) rfl rfl ?_)
  refine wp_of e11 c11_1 (rw_if_lt (p1 := 12) (p2 := 4) (by decide) rfl ⟨i1.1, i1.2⟩ (fun c1199 => ?_) (fun c1199 => ?_))
  · refine wp_of e11 c11_12 (rw_aload_n (pc' := 13) (v := .ref r0) rfl rfl rfl ?_)
    refine wp_of e11 c11_13 (rw_iconst (pc' := 14) rfl ?_)
    refine wp_of e11 c11_14 (xc_V (pc' := 17) (r := r0) (as := [vI 2]) (st := []) (lm_0_70) rfl rfl (Nat.le_of_ble_eq_true rfl) hW g0 sh_1 (by decide) rfl (by decide) (u_12  hW g0 ⟨by decide, by decide⟩) (fun R1200 T1201 H1202 p1203 => ?_))
    obtain ⟨e1204, w1206, f1207, z1208, e1205, b1209, p1210⟩ := p1203
    subst e1204
    subst e1205
    obtain ⟨a1211, a1212⟩ := p1210
    have f1213 := f0.tr f1207 rfl
    show wp _ _ 11 17 [(0, .ref r0), (1, vI a1)] [vI z1208] _ H1202 _
    have k1214 : H1202 r0 6 = H r0 6 := (f1207 r0 6 _ g0 rfl)
    have q1215 : H1202 r0 6 = (cu : Int) := k1214.trans qcu
    have k1216 : H1202 r0 7 = H r0 7 := (f1207 r0 7 _ g0 rfl)
    have q1217 : H1202 r0 7 = (dr : Int) := k1216.trans qdr
    have k1218 : H1202 r0 8 = H r0 8 := (f1207 r0 8 _ g0 rfl)
    have k1219 : H1202 r0 9 = H r0 9 := (f1207 r0 9 _ g0 rfl)
    have k1220 : H1202 r0 11 = H r0 11 := (f1207 r0 11 _ g0 rfl)
    have h1221 : CU T H1202 cu eU dU nU := (CU_fr hW gcu f1207 rfl hCU_cu)
    have h1222 : CY T H1202 cu nY gY cY := (CY_fr hW gcu f1207 rfl hCY_cu)
    have h1223 : SP T H1202 r0 C := (SP_fr hW g0 f1207 rfl hSP_r0)
    have h1224 : CEN T H1202 ce eU dU := (CEN_fr hW gce f1207 rfl hCEN_ce)
    exact wp_ireturn e11 c11_17 rfl ⟨rfl, w1206, f1213, z1208, rfl, ⟨b1209.1, b1209.2⟩, (Or.inl ⟨by omega, by omega, by omega, by omega, by omega, by omega, by omega, by omega, h1221, h1222, h1223, h1224⟩)⟩
  · refine wp_of e11 c11_4 (rw_iload_n (pc' := 5) (z := a1) rfl rfl ?_)
    refine wp_of e11 c11_5 (rw_aload_n (pc' := 6) (v := .ref r0) rfl rfl rfl ?_)
    refine wp_of e11 c11_6 (xg_I (pc' := 9) lf_0_62 hW g0 sh_1 (by decide) (by decide) ty_1_9 rfl rfl (fun b1225 b1226 => ?_))
    refine wp_of e11 c11_9 (rw_icmp_le (p1 := 18) (p2 := 12) (by decide) rfl ⟨i1.1, i1.2⟩ ⟨Int.le_trans (by decide) b1225, Int.le_trans b1226 (by decide)⟩ (fun c1227 => ?_) (fun c1227 => ?_))
    · refine wp_of e11 c11_18 (rw_aload_n (pc' := 19) (v := .ref r0) rfl rfl rfl ?_)
      refine wp_of e11 c11_19 (rw_iconst (pc' := 20) rfl ?_)
      refine wp_of e11 c11_20 (xp_I (pc' := 23) lf_0_62 hW g0 sh_1 (by decide) (by decide) ty_1_9 rfl rfl (by decide) (by decide) ⟨by decide, by decide⟩ rfl (fun H1228 e1229 w1230 => ?_))
      have f1231 := f0.put' e1229 g0 rfl
      have k1232 : H1228 r0 9 = 0 := wq_u_s e1229
      refine wp_of e11 c11_23 (rw_aload_n (pc' := 24) (v := .ref r0) rfl rfl rfl ?_)
      have k1233 : H1228 r0 1 = H r0 1 := (wq_u_j e1229 rfl)
      have q1234 : H1228 r0 1 = (rd : Int) := k1233.trans qrd
      refine wp_of e11 c11_24 (xg_K (pc' := 27) lf_0_16 w1230 g0 sh_1 (by decide) (by decide) rfl q1234 rfl ?_)
      refine wp_of e11 c11_27 (rw_aload_n (pc' := 28) (v := .ref r0) rfl rfl rfl ?_)
      have k1235 : H1228 r0 0 = H r0 0 := (wq_u_j e1229 rfl)
      have q1236 : H1228 r0 0 = (tp : Int) := k1235.trans qtp
      refine wp_of e11 c11_28 (xg_K (pc' := 31) lf_0_9 w1230 g0 sh_1 (by decide) (by decide) rfl q1236 rfl ?_)
      refine wp_of e11 c11_31 (rw_iload_n (pc' := 32) (z := a1) rfl rfl ?_)
      refine wp_of e11 c11_32 (rw_aload_n (pc' := 33) (v := .ref r0) rfl rfl rfl ?_)
      have k1237 : H1228 r0 7 = H r0 7 := (wq_u_j e1229 rfl)
      have q1238 : H1228 r0 7 = (dr : Int) := k1237.trans qdr
      refine wp_of e11 c11_33 (xg_K (pc' := 36) lf_0_55 w1230 g0 sh_1 (by decide) (by decide) rfl q1238 rfl ?_)
      have h1240 : SP T H1228 r0 C := (SP_fr hW g0 ((wfr.rf (l := [(1, 9)])).put' e1229 g0 rfl) rfl hSP_r0)
      have h1239 : SQ T H1228 (C) := SP.sq h1240
      have w1241 := rt_WT w1230 h1239
      obtain ⟨r1242, q1243, g1244⟩ := w1230.ref grd (t' := 4) (n := 5) (j := 0) (p := 0) (q := 0) rfl (by decide) rfl
      have h1245 : TP T H1228 tp B := (TP_fr hW gtp ((wfr.rf (l := [(1, 9)])).put' e1229 g0 rfl) rfl hTP_tp)
      have h1246 : DD T H1228 dr  := (DD_fr hW gdr ((wfr.rf (l := [(1, 9)])).put' e1229 g0 rfl) rfl hDD_dr)
      refine wp_of e11 c11_36 (xc_V (pc' := 39) (r := rd) (as := [.ref tp, vI a1, .ref dr]) (st := []) (lm_0_74) rfl rfl (Nat.le_of_ble_eq_true rfl) w1230 grd sh_3 (by decide) rfl (by decide) (rt_wpc (C := C) (u_13 (T := rtT T (C)) (B := B) w1241 (rtT_k (C := C) grd (rtF_o grd (by decide) (by decide))) (rtT_k (C := C) gtp (rtF_o gtp (by decide) (by decide))) ⟨by omega, by omega⟩ (rtT_k (C := C) gdr (rtF_c gdr (by decide) pC2)) q1243 (rtT_k (C := C) g1244 (rtF_o g1244 (by decide) (by decide))) h1245 (DD_rt gdr h1240 pC2 h1246)) (fun _ _ _ p => p.1)) (fun R1247 T1248 H1249 p1250 => ?_))
      obtain ⟨e1251, -, w1253, f1254, z1259, e1252, b1260, p1255⟩ := p1250
      subst e1251
      subst e1252
      have o1258 := rt_old f1254 rfl
      have f1257 := rt_fr f1254 rfl
      have w1256 := rt_un w1230 w1253 o1258
      rcases p1255 with ⟨a1261, a1262, a1263, a1264, a1265⟩ | ⟨a1266, a1267, a1268, a1269⟩
      · have f1270 := f1231.tr f1257 rfl
        show wp _ _ 11 39 [(0, .ref r0), (1, vI a1)] [vI z1259] _ H1249 _
        have h1271 : DC T H1249 dr ((xparse B a1).2) := DC_un a1264
        have u1272 := DC_k h1271
        have h1273 : CZ T H1249 dr ((xparse B a1).2 0 3) := CZ_un a1265
        have h1274 : CU T H1228 cu eU dU nU := (CU_fr hW gcu ((wfr.rf (l := [(1, 9)])).put' e1229 g0 rfl) rfl hCU_cu)
        have h1275 : CU T H1249 cu eU dU nU := CU_fz w1230 gcu h1240 pC1 o1258 pC3 h1274
        have h1276 : CY T H1228 cu nY gY cY := (CY_fr hW gcu ((wfr.rf (l := [(1, 9)])).put' e1229 g0 rfl) rfl hCY_cu)
        have h1277 : CY T H1249 cu nY gY cY := CY_fz w1230 gcu h1240 pC1 o1258 pC4 h1276
        refine wp_of e11 c11_39 (rw_istore_n (pc' := 40) (z := z1259) (L' := [(2, vI z1259), (0, .ref r0), (1, vI a1)]) rfl rfl rfl ?_)
        refine wp_of e11 c11_40 (rw_aload_n (pc' := 41) (v := .ref r0) rfl rfl rfl ?_)
        refine wp_of e11 c11_41 (rw_aload_n (pc' := 42) (v := .ref r0) rfl rfl rfl ?_)
        have k1278 : H1249 r0 1 = H1228 r0 1 := (f1257 r0 1 _ g0 rfl)
        have q1279 : H1249 r0 1 = (rd : Int) := k1278.trans q1234
        refine wp_of e11 c11_42 (xg_K (pc' := 45) lf_0_16 w1256 g0 sh_1 (by decide) (by decide) rfl q1279 rfl ?_)
        refine wp_of e11 c11_45 (xg_I (pc' := 48) lf_0_78 w1256 grd sh_3 (by decide) (by decide) ty_3_3 rfl rfl (fun b1280 b1281 => ?_))
        refine wp_of e11 c11_48 (xp_I (pc' := 51) lf_0_81 w1256 g0 sh_1 (by decide) (by decide) ty_1_11 rfl rfl (b1280) (b1281) ⟨b1280, b1281⟩ rfl (fun H1282 e1283 w1284 => ?_))
        have f1285 := f1270.put' e1283 g0 rfl
        have k1286 : H1282 r0 11 = H1249 rd 3 := wq_u_s e1283
        refine wp_of e11 c11_51 (rw_aload_n (pc' := 52) (v := .ref r0) rfl rfl rfl ?_)
        refine wp_of e11 c11_52 (rw_aload_n (pc' := 53) (v := .ref r0) rfl rfl rfl ?_)
        have k1287 : H1282 r0 1 = H1249 r0 1 := (wq_u_j e1283 rfl)
        have q1288 : H1282 r0 1 = (rd : Int) := k1287.trans q1279
        refine wp_of e11 c11_53 (xg_K (pc' := 56) lf_0_16 w1284 g0 sh_1 (by decide) (by decide) rfl q1288 rfl ?_)
        refine wp_of e11 c11_56 (xg_I (pc' := 59) lf_0_84 w1284 grd sh_3 (by decide) (by decide) ty_3_4 rfl rfl (fun b1289 b1290 => ?_))
        refine wp_of e11 c11_59 (xp_I (pc' := 62) lf_0_87 w1284 g0 sh_1 (by decide) (by decide) ty_1_12 rfl rfl (b1289) (b1290) ⟨b1289, b1290⟩ rfl (fun H1291 e1292 w1293 => ?_))
        have f1294 := f1285.put' e1292 g0 rfl
        have k1295 : H1291 r0 12 = H1282 rd 4 := wq_u_s e1292
        refine wp_of e11 c11_62 (rw_iload_n (pc' := 63) (z := z1259) rfl rfl ?_)
        refine wp_of e11 c11_63 (rw_if_ne (p1 := 72) (p2 := 66) (by decide) rfl ⟨by omega, by omega⟩ (fun c1296 => ?_) (fun c1296 => ?_))
        · refine wp_of e11 c11_72 (rw_aload_n (pc' := 73) (v := .ref r0) rfl rfl rfl ?_)
          have k1297 : H1291 r0 7 = H1228 r0 7 := ((wq_u_j e1292 rfl).trans ((wq_u_j e1283 rfl).trans (f1257 r0 7 _ g0 rfl)))
          have q1298 : H1291 r0 7 = (dr : Int) := k1297.trans q1238
          refine wp_of e11 c11_73 (xg_K (pc' := 76) lf_0_55 w1293 g0 sh_1 (by decide) (by decide) rfl q1298 rfl ?_)
          have k1299 : H1291 dr 13 = H1249 dr 13 := ((wq_u_t e1292 g0 gdr rfl 13).trans (wq_u_t e1283 g0 gdr rfl 13))
          have k1300 : H1291 dr 14 = H1249 dr 14 := ((wq_u_t e1292 g0 gdr rfl 14).trans (wq_u_t e1283 g0 gdr rfl 14))
          have k1301 : H1291 dr 10 = H1249 dr 10 := ((wq_u_t e1292 g0 gdr rfl 10).trans (wq_u_t e1283 g0 gdr rfl 10))
          have h1302 : DC T H1291 dr ((xparse B a1).2) := (DC_fr w1284 gdr ((wfr.rf (l := [(1, 12)])).put' e1292 g0 rfl) rfl (DC_fr w1256 gdr ((wfr.rf (l := [(1, 11)])).put' e1283 g0 rfl) rfl h1271))
          have h1303 : DD T H1291 dr  := (DD_fr w1284 gdr ((wfr.rf (l := [(1, 12)])).put' e1292 g0 rfl) rfl (DD_fr w1256 gdr ((wfr.rf (l := [(1, 11)])).put' e1283 g0 rfl) rfl (DD_fr w1230 gdr f1257 rfl h1246)))
          have h1304 : DE T H1291 dr  := (DE_fr w1284 gdr ((wfr.rf (l := [(1, 12)])).put' e1292 g0 rfl) rfl (DE_fr w1256 gdr ((wfr.rf (l := [(1, 11)])).put' e1283 g0 rfl) rfl (DE_fr w1230 gdr f1257 rfl (DE_fr hW gdr ((wfr.rf (l := [(1, 9)])).put' e1229 g0 rfl) rfl hDE_dr))))
          have h1305 : CZ T H1291 dr ((xparse B a1).2 0 3) := (CZ_fr w1284 gdr ((wfr.rf (l := [(1, 12)])).put' e1292 g0 rfl) rfl (CZ_fr w1256 gdr ((wfr.rf (l := [(1, 11)])).put' e1283 g0 rfl) rfl h1273))
          refine wp_of e11 c11_76 (xc_V (pc' := 79) (r := dr) (as := []) (st := []) (lm_0_90) rfl rfl (Nat.le_of_ble_eq_true rfl) w1293 gdr sh_27 (by decide) rfl (by decide) (u_44 (d := ((xparse B a1).2)) w1293 gdr (xdP_parse (by omega)) h1302 h1303 h1304 h1305) (fun R1306 T1307 H1308 p1309 => ?_))
          obtain ⟨e1310, w1312, f1313, e1311, p1314⟩ := p1309
          subst e1310
          subst e1311
          obtain ⟨a1315, a1316⟩ := p1314
          have f1317 := f1294.tr f1313 rfl
          show wp _ _ 11 79 [(2, vI z1259), (0, .ref r0), (1, vI a1)] [] _ H1308 _
          have u1318 := CU_k a1315
          have _xv := @xset_v (xparse B a1).2
          refine wp_of e11 c11_79 (rw_aload_n (pc' := 80) (v := .ref r0) rfl rfl rfl ?_)
          have k1319 : H1308 r0 6 = H r0 6 := ((f1313 r0 6 _ g0 rfl).trans ((wq_u_j e1292 rfl).trans ((wq_u_j e1283 rfl).trans ((f1257 r0 6 _ g0 rfl).trans (wq_u_j e1229 rfl)))))
          have q1320 : H1308 r0 6 = (cu : Int) := k1319.trans qcu
          refine wp_of e11 c11_80 (xg_K (pc' := 83) lf_0_51 w1312 g0 sh_1 (by decide) (by decide) rfl q1320 rfl ?_)
          refine wp_of e11 c11_83 (rw_astore_n (pc' := 84) (v := .ref cu) (L' := [(3, .ref cu), (2, vI z1259), (0, .ref r0), (1, vI a1)]) rfl rfl rfl rfl ?_)
          refine wp_of e11 c11_84 (rw_aload_n (pc' := 85) (v := .ref r0) rfl rfl rfl ?_)
          refine wp_of e11 c11_85 (rw_aload_n (pc' := 86) (v := .ref r0) rfl rfl rfl ?_)
          have k1321 : H1308 r0 7 = H1291 r0 7 := (f1313 r0 7 _ g0 rfl)
          have q1322 : H1308 r0 7 = (dr : Int) := k1321.trans q1298
          refine wp_of e11 c11_86 (xg_K (pc' := 89) lf_0_55 w1312 g0 sh_1 (by decide) (by decide) rfl q1322 rfl ?_)
          refine wp_of e11 c11_89 (xp_R (pc' := 92) lf_0_51 w1312 g0 sh_1 (by decide) (by decide) rfl rfl (wok_2 ty_1_6 gdr) rfl (fun H1323 e1324 w1325 => ?_))
          have f1326 := f1317.put' e1324 g0 rfl
          have q1327 : H1323 r0 6 = (dr : Int) := wq_u_s e1324
          refine wp_of e11 c11_92 (rw_aload_n (pc' := 93) (v := .ref r0) rfl rfl rfl ?_)
          refine wp_of e11 c11_93 (rw_aload_n (pc' := 94) (v := .ref cu) rfl rfl rfl ?_)
          refine wp_of e11 c11_94 (xp_R (pc' := 97) lf_0_55 w1325 g0 sh_1 (by decide) (by decide) rfl rfl (wok_2 ty_1_7 gcu) rfl (fun H1328 e1329 w1330 => ?_))
          have f1331 := f1326.put' e1329 g0 rfl
          have q1332 : H1328 r0 7 = (cu : Int) := wq_u_s e1329
          refine wp_of e11 c11_97 (rw_aload_n (pc' := 98) (v := .ref r0) rfl rfl rfl ?_)
          refine wp_of e11 c11_98 (rw_iconst (pc' := 99) rfl ?_)
          refine wp_of e11 c11_99 (xp_Z (pc' := 102) lf_0_58 w1330 g0 sh_1 (by decide) (by decide) ty_1_8 rfl rfl (by decide) (by decide) rfl (fun H1333 e1334 w1335 => ?_))
          have f1336 := f1331.put' e1334 g0 rfl
          have k1337 : H1333 r0 8 = 1 := wq_u_s e1334
          refine wp_of e11 c11_102 (rw_aload_n (pc' := 103) (v := .ref r0) rfl rfl rfl ?_)
          have k1338 : H1333 r0 3 = H r0 3 := ((wq_u_j e1334 rfl).trans ((wq_u_j e1329 rfl).trans ((wq_u_j e1324 rfl).trans ((f1313 r0 3 _ g0 rfl).trans ((wq_u_j e1292 rfl).trans ((wq_u_j e1283 rfl).trans ((f1257 r0 3 _ g0 rfl).trans (wq_u_j e1229 rfl))))))))
          have q1339 : H1333 r0 3 = (ce : Int) := k1338.trans qce
          refine wp_of e11 c11_103 (xg_K (pc' := 106) lf_0_30 w1335 g0 sh_1 (by decide) (by decide) rfl q1339 rfl ?_)
          refine wp_of e11 c11_106 (xc_V (pc' := 109) (r := ce) (as := []) (st := []) (lm_0_93) rfl rfl (Nat.le_of_ble_eq_true rfl) w1335 gce sh_12 (by decide) rfl (by decide) (u_50  w1335 gce) (fun R1340 T1341 H1342 p1343 => ?_))
          obtain ⟨e1344, w1346, f1347, e1345, p1348⟩ := p1343
          subst e1344
          subst e1345
          have f1350 := f1336.tr f1347 rfl
          show wp _ _ 11 109 [(3, .ref cu), (2, vI z1259), (0, .ref r0), (1, vI a1)] [] _ H1342 _
          refine wp_of e11 c11_109 (rw_aload_n (pc' := 110) (v := .ref r0) rfl rfl rfl ?_)
          refine wp_of e11 c11_110 (rw_aload_n (pc' := 111) (v := .ref r0) rfl rfl rfl ?_)
          have k1351 : H1342 r0 6 = H1323 r0 6 := ((f1347 r0 6 _ g0 rfl).trans ((wq_u_j e1334 rfl).trans (wq_u_j e1329 rfl)))
          have q1352 : H1342 r0 6 = (dr : Int) := k1351.trans q1327
          refine wp_of e11 c11_111 (xg_K (pc' := 114) lf_0_51 w1346 g0 sh_1 (by decide) (by decide) rfl q1352 rfl ?_)
          have k1353 : H1342 dr 10 = H1308 dr 10 := ((f1347 dr 10 _ gdr rfl).trans ((wq_u_t e1334 g0 gdr rfl 10).trans ((wq_u_t e1329 g0 gdr rfl 10).trans (wq_u_t e1324 g0 gdr rfl 10))))
          refine wp_of e11 c11_114 (xg_I (pc' := 117) lf_0_96 w1346 gdr sh_27 (by decide) (by decide) ty_27_10 rfl rfl (fun b1354 b1355 => ?_))
          refine wp_of e11 c11_117 (xc_V (pc' := 120) (r := r0) (as := [vI (H1342 dr 10)]) (st := []) (lm_0_99) rfl rfl (Nat.le_of_ble_eq_true rfl) w1346 g0 sh_1 (by decide) rfl (by decide) (u_51  w1346 g0 ⟨Int.le_trans (by decide) b1354, Int.le_trans b1355 (by decide)⟩) (fun R1356 T1357 H1358 p1359 => ?_))
          obtain ⟨e1360, w1362, f1363, z1364, e1361, b1365, p1366⟩ := p1359
          subst e1360
          subst e1361
          obtain ⟨a1367, a1368⟩ := p1366
          have f1369 := f1350.tr f1363 rfl
          show wp _ _ 11 120 [(3, .ref cu), (2, vI z1259), (0, .ref r0), (1, vI a1)] [vI z1364] _ H1358 _
          have k1370 : H1358 r0 6 = H1342 r0 6 := (f1363 r0 6 _ g0 rfl)
          have q1371 : H1358 r0 6 = (dr : Int) := k1370.trans q1352
          have k1372 : H1358 r0 7 = H1328 r0 7 := ((f1363 r0 7 _ g0 rfl).trans ((f1347 r0 7 _ g0 rfl).trans (wq_u_j e1334 rfl)))
          have q1373 : H1358 r0 7 = (cu : Int) := k1372.trans q1332
          have k1374 : H1358 r0 8 = H1333 r0 8 := ((f1363 r0 8 _ g0 rfl).trans (f1347 r0 8 _ g0 rfl))
          have k1375 : H1358 r0 9 = H1228 r0 9 := ((f1363 r0 9 _ g0 rfl).trans ((f1347 r0 9 _ g0 rfl).trans ((wq_u_j e1334 rfl).trans ((wq_u_j e1329 rfl).trans ((wq_u_j e1324 rfl).trans ((f1313 r0 9 _ g0 rfl).trans ((wq_u_j e1292 rfl).trans ((wq_u_j e1283 rfl).trans (f1257 r0 9 _ g0 rfl)))))))))
          have k1376 : H1358 r0 11 = H1282 r0 11 := ((f1363 r0 11 _ g0 rfl).trans ((f1347 r0 11 _ g0 rfl).trans ((wq_u_j e1334 rfl).trans ((wq_u_j e1329 rfl).trans ((wq_u_j e1324 rfl).trans ((f1313 r0 11 _ g0 rfl).trans (wq_u_j e1292 rfl)))))))
          have k1377 : H1358 r0 12 = H1291 r0 12 := ((f1363 r0 12 _ g0 rfl).trans ((f1347 r0 12 _ g0 rfl).trans ((wq_u_j e1334 rfl).trans ((wq_u_j e1329 rfl).trans ((wq_u_j e1324 rfl).trans (f1313 r0 12 _ g0 rfl))))))
          have k1378 : H1358 ce 9 = H1342 ce 9 := (f1363 ce 9 _ gce rfl)
          have h1379 : CU T H1358 dr (xset ((xparse B a1).2)) (xset ((xparse B a1).2)) (xlots (xset ((xparse B a1).2))) := (CU_fr w1346 gdr f1363 rfl (CU_fr w1335 gdr f1347 rfl (CU_fr w1330 gdr ((wfr.rf (l := [(1, 8)])).put' e1334 g0 rfl) rfl (CU_fr w1325 gdr ((wfr.rf (l := [(1, 7)])).put' e1329 g0 rfl) rfl (CU_fr w1312 gdr ((wfr.rf (l := [(1, 6)])).put' e1324 g0 rfl) rfl a1315)))))
          have h1380 : CY T H1358 dr (((xparse B a1).2) 0 3) (fun _ => 0) 0 := (CY_fr w1346 gdr f1363 rfl (CY_fr w1335 gdr f1347 rfl (CY_fr w1330 gdr ((wfr.rf (l := [(1, 8)])).put' e1334 g0 rfl) rfl (CY_fr w1325 gdr ((wfr.rf (l := [(1, 7)])).put' e1329 g0 rfl) rfl (CY_fr w1312 gdr ((wfr.rf (l := [(1, 6)])).put' e1324 g0 rfl) rfl a1316)))))
          have h1381 : SP T H1358 r0 C := (SP_fr w1346 g0 f1363 rfl (SP_fr w1335 g0 f1347 rfl (SP_fr w1330 g0 ((wfr.rf (l := [(1, 8)])).put' e1334 g0 rfl) rfl (SP_fr w1325 g0 ((wfr.rf (l := [(1, 7)])).put' e1329 g0 rfl) rfl (SP_fr w1312 g0 ((wfr.rf (l := [(1, 6)])).put' e1324 g0 rfl) rfl (SP_fr w1293 g0 f1313 rfl (SP_fr w1284 g0 ((wfr.rf (l := [(1, 12)])).put' e1292 g0 rfl) rfl (SP_fr w1256 g0 ((wfr.rf (l := [(1, 11)])).put' e1283 g0 rfl) rfl (SP_fr w1230 g0 f1257 rfl h1240)))))))))
          exact wp_ireturn e11 c11_120 rfl ⟨rfl, w1362, f1369, z1364, rfl, ⟨b1365.1, b1365.2⟩, (Or.inr (Or.inr ⟨by omega, by omega, by omega, by omega, by omega, by omega, by omega, by omega, by omega, by omega, by rw [← p0]; exact (XA_set (by omega)).1, by rw [← p0]; exact (XA_set (by omega)).2, by omega, by rw [← p0]; exact h1379, by rw [← p0]; exact h1380, SP_not h1381⟩))⟩
        · exfalso
          omega
      · have f1382 := f1231.tr f1257 rfl
        show wp _ _ 11 39 [(0, .ref r0), (1, vI a1)] [vI z1259] _ H1249 _
        have h1383 : CU T H1228 cu eU dU nU := (CU_fr hW gcu ((wfr.rf (l := [(1, 9)])).put' e1229 g0 rfl) rfl hCU_cu)
        have h1384 : CU T H1249 cu eU dU nU := CU_fz w1230 gcu h1240 pC1 o1258 pC3 h1383
        have h1385 : CY T H1228 cu nY gY cY := (CY_fr hW gcu ((wfr.rf (l := [(1, 9)])).put' e1229 g0 rfl) rfl hCY_cu)
        have h1386 : CY T H1249 cu nY gY cY := CY_fz w1230 gcu h1240 pC1 o1258 pC4 h1385
        refine wp_of e11 c11_39 (rw_istore_n (pc' := 40) (z := z1259) (L' := [(2, vI z1259), (0, .ref r0), (1, vI a1)]) rfl rfl rfl ?_)
        refine wp_of e11 c11_40 (rw_aload_n (pc' := 41) (v := .ref r0) rfl rfl rfl ?_)
        refine wp_of e11 c11_41 (rw_aload_n (pc' := 42) (v := .ref r0) rfl rfl rfl ?_)
        have k1387 : H1249 r0 1 = H1228 r0 1 := (f1257 r0 1 _ g0 rfl)
        have q1388 : H1249 r0 1 = (rd : Int) := k1387.trans q1234
        refine wp_of e11 c11_42 (xg_K (pc' := 45) lf_0_16 w1256 g0 sh_1 (by decide) (by decide) rfl q1388 rfl ?_)
        refine wp_of e11 c11_45 (xg_I (pc' := 48) lf_0_78 w1256 grd sh_3 (by decide) (by decide) ty_3_3 rfl rfl (fun b1389 b1390 => ?_))
        refine wp_of e11 c11_48 (xp_I (pc' := 51) lf_0_81 w1256 g0 sh_1 (by decide) (by decide) ty_1_11 rfl rfl (b1389) (b1390) ⟨b1389, b1390⟩ rfl (fun H1391 e1392 w1393 => ?_))
        have f1394 := f1382.put' e1392 g0 rfl
        have k1395 : H1391 r0 11 = H1249 rd 3 := wq_u_s e1392
        refine wp_of e11 c11_51 (rw_aload_n (pc' := 52) (v := .ref r0) rfl rfl rfl ?_)
        refine wp_of e11 c11_52 (rw_aload_n (pc' := 53) (v := .ref r0) rfl rfl rfl ?_)
        have k1396 : H1391 r0 1 = H1249 r0 1 := (wq_u_j e1392 rfl)
        have q1397 : H1391 r0 1 = (rd : Int) := k1396.trans q1388
        refine wp_of e11 c11_53 (xg_K (pc' := 56) lf_0_16 w1393 g0 sh_1 (by decide) (by decide) rfl q1397 rfl ?_)
        have k1398 : H1391 rd 4 = H1249 rd 4 := (wq_u_t e1392 g0 grd rfl 4)
        refine wp_of e11 c11_56 (xg_I (pc' := 59) lf_0_84 w1393 grd sh_3 (by decide) (by decide) ty_3_4 rfl rfl (fun b1399 b1400 => ?_))
        refine wp_of e11 c11_59 (xp_I (pc' := 62) lf_0_87 w1393 g0 sh_1 (by decide) (by decide) ty_1_12 rfl rfl (b1399) (b1400) ⟨b1399, b1400⟩ rfl (fun H1401 e1402 w1403 => ?_))
        have f1404 := f1394.put' e1402 g0 rfl
        have k1405 : H1401 r0 12 = H1391 rd 4 := wq_u_s e1402
        refine wp_of e11 c11_62 (rw_iload_n (pc' := 63) (z := z1259) rfl rfl ?_)
        refine wp_of e11 c11_63 (rw_if_ne (p1 := 72) (p2 := 66) (by decide) rfl ⟨by omega, by omega⟩ (fun c1406 => ?_) (fun c1406 => ?_))
        · exfalso
          omega
        · refine wp_of e11 c11_66 (rw_aload_n (pc' := 67) (v := .ref r0) rfl rfl rfl ?_)
          refine wp_of e11 c11_67 (rw_iconst (pc' := 68) rfl ?_)
          refine wp_of e11 c11_68 (xc_V (pc' := 71) (r := r0) (as := [vI 4]) (st := []) (lm_0_70) rfl rfl (Nat.le_of_ble_eq_true rfl) w1403 g0 sh_1 (by decide) rfl (by decide) (u_12  w1403 g0 ⟨by decide, by decide⟩) (fun R1407 T1408 H1409 p1410 => ?_))
          obtain ⟨e1411, w1413, f1414, z1415, e1412, b1416, p1417⟩ := p1410
          subst e1411
          subst e1412
          obtain ⟨a1418, a1419⟩ := p1417
          have f1420 := f1404.tr f1414 rfl
          show wp _ _ 11 71 [(2, vI z1259), (0, .ref r0), (1, vI a1)] [vI z1415] _ H1409 _
          have k1421 : H1409 r0 6 = H r0 6 := ((f1414 r0 6 _ g0 rfl).trans ((wq_u_j e1402 rfl).trans ((wq_u_j e1392 rfl).trans ((f1257 r0 6 _ g0 rfl).trans (wq_u_j e1229 rfl)))))
          have q1422 : H1409 r0 6 = (cu : Int) := k1421.trans qcu
          have k1423 : H1409 r0 7 = H1228 r0 7 := ((f1414 r0 7 _ g0 rfl).trans ((wq_u_j e1402 rfl).trans ((wq_u_j e1392 rfl).trans (f1257 r0 7 _ g0 rfl))))
          have q1424 : H1409 r0 7 = (dr : Int) := k1423.trans q1238
          have k1425 : H1409 r0 8 = H r0 8 := ((f1414 r0 8 _ g0 rfl).trans ((wq_u_j e1402 rfl).trans ((wq_u_j e1392 rfl).trans ((f1257 r0 8 _ g0 rfl).trans (wq_u_j e1229 rfl)))))
          have k1426 : H1409 r0 9 = H1228 r0 9 := ((f1414 r0 9 _ g0 rfl).trans ((wq_u_j e1402 rfl).trans ((wq_u_j e1392 rfl).trans (f1257 r0 9 _ g0 rfl))))
          have k1427 : H1409 r0 11 = H1391 r0 11 := ((f1414 r0 11 _ g0 rfl).trans (wq_u_j e1402 rfl))
          have k1428 : H1409 r0 12 = H1401 r0 12 := (f1414 r0 12 _ g0 rfl)
          have h1429 : CU T H1409 cu eU dU nU := (CU_fr w1403 gcu f1414 rfl (CU_fr w1393 gcu ((wfr.rf (l := [(1, 12)])).put' e1402 g0 rfl) rfl (CU_fr w1256 gcu ((wfr.rf (l := [(1, 11)])).put' e1392 g0 rfl) rfl h1384)))
          have h1430 : CY T H1409 cu nY gY cY := (CY_fr w1403 gcu f1414 rfl (CY_fr w1393 gcu ((wfr.rf (l := [(1, 12)])).put' e1402 g0 rfl) rfl (CY_fr w1256 gcu ((wfr.rf (l := [(1, 11)])).put' e1392 g0 rfl) rfl h1386)))
          have h1431 : SP T H1409 r0 C := (SP_fr w1403 g0 f1414 rfl (SP_fr w1393 g0 ((wfr.rf (l := [(1, 12)])).put' e1402 g0 rfl) rfl (SP_fr w1256 g0 ((wfr.rf (l := [(1, 11)])).put' e1392 g0 rfl) rfl (SP_fr w1230 g0 f1257 rfl h1240))))
          have h1432 : CEN T H1409 ce eU dU := (CEN_fr w1403 gce f1414 rfl (CEN_fr w1393 gce ((wfr.rf (l := [(1, 12)])).put' e1402 g0 rfl) rfl (CEN_fr w1256 gce ((wfr.rf (l := [(1, 11)])).put' e1392 g0 rfl) rfl (CEN_fr w1230 gce f1257 rfl (CEN_fr hW gce ((wfr.rf (l := [(1, 9)])).put' e1229 g0 rfl) rfl hCEN_ce)))))
          exact wp_ireturn e11 c11_71 rfl ⟨rfl, w1413, f1420, z1415, rfl, ⟨b1416.1, b1416.2⟩, (Or.inr (Or.inl ⟨by omega, by omega, by omega, by omega, by omega, by omega, by omega, by omega, by omega, by omega, h1429, h1430, h1431, h1432⟩))⟩
    · refine wp_of e11 c11_12 (rw_aload_n (pc' := 13) (v := .ref r0) rfl rfl rfl ?_)
      refine wp_of e11 c11_13 (rw_iconst (pc' := 14) rfl ?_)
      refine wp_of e11 c11_14 (xc_V (pc' := 17) (r := r0) (as := [vI 2]) (st := []) (lm_0_70) rfl rfl (Nat.le_of_ble_eq_true rfl) hW g0 sh_1 (by decide) rfl (by decide) (u_12  hW g0 ⟨by decide, by decide⟩) (fun R1433 T1434 H1435 p1436 => ?_))
      obtain ⟨e1437, w1439, f1440, z1441, e1438, b1442, p1443⟩ := p1436
      subst e1437
      subst e1438
      obtain ⟨a1444, a1445⟩ := p1443
      have f1446 := f0.tr f1440 rfl
      show wp _ _ 11 17 [(0, .ref r0), (1, vI a1)] [vI z1441] _ H1435 _
      have k1447 : H1435 r0 6 = H r0 6 := (f1440 r0 6 _ g0 rfl)
      have q1448 : H1435 r0 6 = (cu : Int) := k1447.trans qcu
      have k1449 : H1435 r0 7 = H r0 7 := (f1440 r0 7 _ g0 rfl)
      have q1450 : H1435 r0 7 = (dr : Int) := k1449.trans qdr
      have k1451 : H1435 r0 8 = H r0 8 := (f1440 r0 8 _ g0 rfl)
      have k1452 : H1435 r0 9 = H r0 9 := (f1440 r0 9 _ g0 rfl)
      have k1453 : H1435 r0 11 = H r0 11 := (f1440 r0 11 _ g0 rfl)
      have h1454 : CU T H1435 cu eU dU nU := (CU_fr hW gcu f1440 rfl hCU_cu)
      have h1455 : CY T H1435 cu nY gY cY := (CY_fr hW gcu f1440 rfl hCY_cu)
      have h1456 : SP T H1435 r0 C := (SP_fr hW g0 f1440 rfl hSP_r0)
      have h1457 : CEN T H1435 ce eU dU := (CEN_fr hW gce f1440 rfl hCEN_ce)
      exact wp_ireturn e11 c11_17 rfl ⟨rfl, w1439, f1446, z1441, rfl, ⟨b1442.1, b1442.2⟩, (Or.inl ⟨by omega, by omega, by omega, by omega, by omega, by omega, by omega, by omega, h1454, h1455, h1456, h1457⟩)⟩
/-! StrikeAwake.deny(I)Z  -/
abbrev uq_63 (r0 : Nat) (a1 : Int) (T : wq_T) (H : wq_H) : Option Value → wq_T → wq_H → Prop := fun r T' H' => T = T' ∧ WT T H' ∧ wfr [(1, 10)] T H H' ∧ ∃ z : Int, some (vI z) = r ∧ (0 ≤ z ∧ z ≤ 1) ∧ (((z = 0) ∧ (H' r0 10 = a1)))
set_option maxHeartbeats 4000000 in
theorem u_63 {kt : Nat → Option mc_E} {T : wq_T} {H : wq_H} {r0 : Nat} {a1 : Int} (hW : WT T H) (g0 : T.2.2.2 r0 = some 1) (i1 : (-2147483648) ≤ a1 ∧ a1 ≤ 2147483647) : wpc kt 1 63 [.ref r0, vI a1] T H (uq_63 r0 a1 T H) := by
  refine wp_enter e63 (Nat.le_of_ble_eq_true rfl) rfl ?_
  have f0 : wfr [(1, 10)] T H H := wfr.rf
  show wp _ _ 63 0 [(0, .ref r0), (1, vI a1)] [] _ H _
  refine wp_of e63 c63_0 (rw_aload_n (pc' := 1) (v := .ref r0) rfl rfl rfl ?_)
  refine wp_of e63 c63_1 (rw_iload_n (pc' := 2) (z := a1) rfl rfl ?_)
  refine wp_of e63 c63_2 (xp_I (pc' := 5) lf_0_102 hW g0 sh_1 (by decide) (by decide) ty_1_10 rfl rfl (i1.1) (i1.2) ⟨i1.1, i1.2⟩ rfl (fun H1006 e1007 w1008 => ?_))
  have f1009 := f0.put' e1007 g0 rfl
  have k1010 : H1006 r0 10 = a1 := wq_u_s e1007
  refine wp_of e63 c63_5 (rw_iconst (pc' := 6) rfl ?_)
  exact wp_zreturn e63 c63_6 rfl (by omega) ⟨rfl, w1008, f1009, 0, rfl, ⟨by decide, by decide⟩, ⟨by omega, by omega⟩⟩
/-! StrikeAwake.grant()Z  -/
abbrev uq_64 (r0 : Nat) (T : wq_T) (H : wq_H) : Option Value → wq_T → wq_H → Prop := fun r T' H' => T = T' ∧ WT T H' ∧ wfr [(1, 10)] T H H' ∧ ∃ z : Int, some (vI z) = r ∧ (0 ≤ z ∧ z ≤ 1) ∧ (((z = 1) ∧ (H' r0 10 = 0)))
set_option maxHeartbeats 4000000 in
theorem u_64 {kt : Nat → Option mc_E} {T : wq_T} {H : wq_H} {r0 : Nat} (hW : WT T H) (g0 : T.2.2.2 r0 = some 1) : wpc kt 1 64 [.ref r0] T H (uq_64 r0 T H) := by
  refine wp_enter e64 (Nat.le_of_ble_eq_true rfl) rfl ?_
  have f0 : wfr [(1, 10)] T H H := wfr.rf
  show wp _ _ 64 0 [(0, .ref r0)] [] _ H _
  refine wp_of e64 c64_0 (rw_aload_n (pc' := 1) (v := .ref r0) rfl rfl rfl ?_)
  refine wp_of e64 c64_1 (rw_iconst (pc' := 2) rfl ?_)
  refine wp_of e64 c64_2 (xp_I (pc' := 5) lf_0_102 hW g0 sh_1 (by decide) (by decide) ty_1_10 rfl rfl (by decide) (by decide) ⟨by decide, by decide⟩ rfl (fun H1006 e1007 w1008 => ?_))
  have f1009 := f0.put' e1007 g0 rfl
  have k1010 : H1006 r0 10 = 0 := wq_u_s e1007
  refine wp_of e64 c64_5 (rw_iconst (pc' := 6) rfl ?_)
  exact wp_zreturn e64 c64_6 rfl (by omega) ⟨rfl, w1008, f1009, 1, rfl, ⟨by decide, by decide⟩, ⟨by omega, by omega⟩⟩
/-! StrikeAwake.isPerson(I)Z  -/
abbrev uq_55 (r0 : Nat) (a1 : Int) (cu : Nat) (T : wq_T) (H : wq_H) : Option Value → wq_T → wq_H → Prop := fun r T' H' => T = T' ∧ H = H' ∧ ∃ z : Int, some (vI z) = r ∧ (0 ≤ z ∧ z ≤ 1) ∧ (((z = 1) ∧ (0 ≤ a1 ∧ a1 < H cu 10)) ∨ ((z = 0) ∧ (a1 < 0 ∨ H cu 10 ≤ a1)))
set_option maxHeartbeats 4000000 in
theorem u_55 {kt : Nat → Option mc_E} {T : wq_T} {H : wq_H} {r0 : Nat} {a1 : Int} {cu : Nat} (hW : WT T H) (g0 : T.2.2.2 r0 = some 1) (i1 : (-2147483648) ≤ a1 ∧ a1 ≤ 2147483647) (qcu : H r0 6 = (cu : Int)) (gcu : T.2.2.2 cu = some 27) : wpc kt 1 55 [.ref r0, vI a1] T H (uq_55 r0 a1 cu T H) := by
  refine wp_enter e55 (Nat.le_of_ble_eq_true rfl) rfl ?_
  show wp _ _ 55 0 [(0, .ref r0), (1, vI a1)] [] _ H _
  refine wp_of e55 c55_0 (rw_iload_n (pc' := 1) (z := a1) rfl rfl ?_)
  refine wp_of e55 c55_1 (rw_if_lt (p1 := 19) (p2 := 4) (by decide) rfl ⟨i1.1, i1.2⟩ (fun c1005 => ?_) (fun c1005 => ?_))
  · refine wp_of e55 c55_19 (rw_iconst (pc' := 20) rfl ?_)
    exact wp_zreturn e55 c55_20 rfl (by omega) ⟨rfl, rfl, 0, rfl, ⟨by decide, by decide⟩, (Or.inr ⟨by omega, by omega⟩)⟩
  · refine wp_of e55 c55_4 (rw_iload_n (pc' := 5) (z := a1) rfl rfl ?_)
    refine wp_of e55 c55_5 (rw_aload_n (pc' := 6) (v := .ref r0) rfl rfl rfl ?_)
    refine wp_of e55 c55_6 (xg_K (pc' := 9) lf_0_51 hW g0 sh_1 (by decide) (by decide) rfl qcu rfl ?_)
    refine wp_of e55 c55_9 (xg_I (pc' := 12) lf_0_96 hW gcu sh_27 (by decide) (by decide) ty_27_10 rfl rfl (fun b1006 b1007 => ?_))
    refine wp_of e55 c55_12 (rw_icmp_ge (p1 := 19) (p2 := 15) (by decide) rfl ⟨i1.1, i1.2⟩ ⟨Int.le_trans (by decide) b1006, Int.le_trans b1007 (by decide)⟩ (fun c1008 => ?_) (fun c1008 => ?_))
    · refine wp_of e55 c55_19 (rw_iconst (pc' := 20) rfl ?_)
      exact wp_zreturn e55 c55_20 rfl (by omega) ⟨rfl, rfl, 0, rfl, ⟨by decide, by decide⟩, (Or.inr ⟨by omega, by omega⟩)⟩
    · refine wp_of e55 c55_15 (rw_iconst (pc' := 16) rfl ?_)
      refine wp_of e55 c55_16 (rw_goto (p1 := 20) (by decide) ?_)
      exact wp_zreturn e55 c55_20 rfl (by omega) ⟨rfl, rfl, 1, rfl, ⟨by decide, by decide⟩, (Or.inl ⟨by omega, by omega⟩)⟩
/-! StrikeAwake.isHour(I)Z  -/
abbrev uq_60 (r0 : Nat) (a1 : Int) (cu : Nat) (T : wq_T) (H : wq_H) : Option Value → wq_T → wq_H → Prop := fun r T' H' => T = T' ∧ H = H' ∧ ∃ z : Int, some (vI z) = r ∧ (0 ≤ z ∧ z ≤ 1) ∧ (((z = 1) ∧ (0 ≤ a1 ∧ a1 < H cu 7)) ∨ ((z = 0) ∧ (a1 < 0 ∨ H cu 7 ≤ a1)))
set_option maxHeartbeats 4000000 in
theorem u_60 {kt : Nat → Option mc_E} {T : wq_T} {H : wq_H} {r0 : Nat} {a1 : Int} {cu : Nat} (hW : WT T H) (g0 : T.2.2.2 r0 = some 1) (i1 : (-2147483648) ≤ a1 ∧ a1 ≤ 2147483647) (qcu : H r0 6 = (cu : Int)) (gcu : T.2.2.2 cu = some 27) : wpc kt 1 60 [.ref r0, vI a1] T H (uq_60 r0 a1 cu T H) := by
  refine wp_enter e60 (Nat.le_of_ble_eq_true rfl) rfl ?_
  show wp _ _ 60 0 [(0, .ref r0), (1, vI a1)] [] _ H _
  refine wp_of e60 c60_0 (rw_iload_n (pc' := 1) (z := a1) rfl rfl ?_)
  refine wp_of e60 c60_1 (rw_if_lt (p1 := 19) (p2 := 4) (by decide) rfl ⟨i1.1, i1.2⟩ (fun c1005 => ?_) (fun c1005 => ?_))
  · refine wp_of e60 c60_19 (rw_iconst (pc' := 20) rfl ?_)
    exact wp_zreturn e60 c60_20 rfl (by omega) ⟨rfl, rfl, 0, rfl, ⟨by decide, by decide⟩, (Or.inr ⟨by omega, by omega⟩)⟩
  · refine wp_of e60 c60_4 (rw_iload_n (pc' := 5) (z := a1) rfl rfl ?_)
    refine wp_of e60 c60_5 (rw_aload_n (pc' := 6) (v := .ref r0) rfl rfl rfl ?_)
    refine wp_of e60 c60_6 (xg_K (pc' := 9) lf_0_51 hW g0 sh_1 (by decide) (by decide) rfl qcu rfl ?_)
    refine wp_of e60 c60_9 (xg_I (pc' := 12) lf_0_339 hW gcu sh_27 (by decide) (by decide) ty_27_7 rfl rfl (fun b1006 b1007 => ?_))
    refine wp_of e60 c60_12 (rw_icmp_ge (p1 := 19) (p2 := 15) (by decide) rfl ⟨i1.1, i1.2⟩ ⟨Int.le_trans (by decide) b1006, Int.le_trans b1007 (by decide)⟩ (fun c1008 => ?_) (fun c1008 => ?_))
    · refine wp_of e60 c60_19 (rw_iconst (pc' := 20) rfl ?_)
      exact wp_zreturn e60 c60_20 rfl (by omega) ⟨rfl, rfl, 0, rfl, ⟨by decide, by decide⟩, (Or.inr ⟨by omega, by omega⟩)⟩
    · refine wp_of e60 c60_15 (rw_iconst (pc' := 16) rfl ?_)
      refine wp_of e60 c60_16 (rw_goto (p1 := 20) (by decide) ?_)
      exact wp_zreturn e60 c60_20 rfl (by omega) ⟨rfl, rfl, 1, rfl, ⟨by decide, by decide⟩, (Or.inl ⟨by omega, by omega⟩)⟩
/-! StrikeAwake.isSpan(II)Z  -/
abbrev uq_57 (r0 : Nat) (a1 : Int) (a2 : Int) (cu : Nat) (e : xD) (d : xD) (n : Int) (T : wq_T) (H : wq_H) : Option Value → wq_T → wq_H → Prop := fun r T' H' => T = T' ∧ H = H' ∧ ∃ z : Int, some (vI z) = r ∧ (0 ≤ z ∧ z ≤ 1) ∧ (((z = 1) ∧ ((0 ≤ a1 ∧ a1 < d 0 3) ∧ 0 ≤ a2 ∧ a2 < ((xsp d (a1).toNat).length : Int))) ∨ ((z = 0) ∧ ((a1 < 0 ∨ d 0 3 ≤ a1) ∨ a2 < 0 ∨ ((xsp d (a1).toNat).length : Int) ≤ a2)))
set_option maxHeartbeats 4000000 in
theorem u_57 {kt : Nat → Option mc_E} {T : wq_T} {H : wq_H} {r0 : Nat} {a1 : Int} {a2 : Int} {cu : Nat} {e : xD} {d : xD} {n : Int} (hW : WT T H) (g0 : T.2.2.2 r0 = some 1) (i1 : (-2147483648) ≤ a1 ∧ a1 ≤ 2147483647) (i2 : (-2147483648) ≤ a2 ∧ a2 ≤ 2147483647) (qcu : H r0 6 = (cu : Int)) (gcu : T.2.2.2 cu = some 27) (p0 : e 0 3 = d 0 3) (p1 : e 0 0 = d 0 0) (hCU_cu : CU T H cu e d n) : wpc kt 2 57 [.ref r0, vI a1, vI a2] T H (uq_57 r0 a1 a2 cu e d n T H) := by
  refine wp_enter e57 (Nat.le_of_ble_eq_true rfl) rfl ?_
  show wp _ _ 57 0 [(0, .ref r0), (1, vI a1), (2, vI a2)] [] _ H _
  have u1027 := CU_k hCU_cu
  refine wp_of e57 c57_0 (rw_aload_n (pc' := 1) (v := .ref r0) rfl rfl rfl ?_)
  refine wp_of e57 c57_1 (rw_iload_n (pc' := 2) (z := a1) rfl rfl ?_)
  refine wp_of e57 c57_2 (xc_V (pc' := 5) (r := r0) (as := [vI a1]) (st := []) (lm_0_105) rfl rfl (Nat.le_of_ble_eq_true rfl) hW g0 sh_1 (by decide) rfl (by decide) (u_55  hW g0 ⟨i1.1, i1.2⟩ qcu gcu) (fun R1028 T1029 H1030 p1031 => ?_))
  obtain ⟨e1032, e1034, z1035, e1033, b1036, p1037⟩ := p1031
  subst e1032
  subst e1033
  subst e1034
  rcases p1037 with ⟨a1038, a1039⟩ | ⟨a1040, a1041⟩
  · show wp _ _ 57 5 [(0, .ref r0), (1, vI a1), (2, vI a2)] [vI z1035] _ H _
    refine wp_of e57 c57_5 (rw_if_eq (p1 := 32) (p2 := 8) (by decide) rfl ⟨Int.le_trans (by decide) b1036.1, Int.le_trans b1036.2 (by decide)⟩ (fun c1042 => ?_) (fun c1042 => ?_))
    · exfalso
      omega
    · refine wp_of e57 c57_8 (rw_iload_n (pc' := 9) (z := a2) rfl rfl ?_)
      refine wp_of e57 c57_9 (rw_if_lt (p1 := 32) (p2 := 12) (by decide) rfl ⟨i2.1, i2.2⟩ (fun c1043 => ?_) (fun c1043 => ?_))
      · refine wp_of e57 c57_32 (rw_iconst (pc' := 33) rfl ?_)
        exact wp_zreturn e57 c57_33 rfl (by omega) ⟨rfl, rfl, 0, rfl, ⟨by decide, by decide⟩, (Or.inr ⟨by omega, by omega⟩)⟩
      · refine wp_of e57 c57_12 (rw_iload_n (pc' := 13) (z := a2) rfl rfl ?_)
        refine wp_of e57 c57_13 (rw_aload_n (pc' := 14) (v := .ref r0) rfl rfl rfl ?_)
        refine wp_of e57 c57_14 (xg_K (pc' := 17) lf_0_51 hW g0 sh_1 (by decide) (by decide) rfl qcu rfl ?_)
        refine wp_of e57 c57_17 (xg_R (pc' := 20) lf_0_109 hW gcu sh_27 (by decide) (by decide) ty_27_0 rfl rfl (fun r1044 q1045 g1046 => ?_))
        refine wp_of e57 c57_20 (rw_iload_n (pc' := 21) (z := a1) rfl rfl ?_)
        refine wp_of e57 c57_21 (xa_R (pc' := 22) (by decide) hW g1046 sh_28 (by decide) (ty_28 _) (by omega) (by omega) rfl (fun r1047 q1048 g1049 => ?_))
        have _z := CS_at (hCU_cu).2.1 q1045 q1048 (k := (a1).toNat) (by omega) (by omega)
        have _l := @xsp_len d (a1).toNat (hCU_cu).2.1.1
        have h1050 : PS T H r1047 d (a1).toNat (xsp d (a1).toNat) := _z.1
        have _n := h1050.1
        refine wp_of e57 c57_22 (xg_I (pc' := 25) lf_0_113 hW g1049 sh_35 (by decide) (by decide) ty_35_15 rfl rfl (fun b1051 b1052 => ?_))
        refine wp_of e57 c57_25 (rw_icmp_ge (p1 := 32) (p2 := 28) (by decide) rfl ⟨i2.1, i2.2⟩ ⟨Int.le_trans (by decide) b1051, Int.le_trans b1052 (by decide)⟩ (fun c1053 => ?_) (fun c1053 => ?_))
        · refine wp_of e57 c57_32 (rw_iconst (pc' := 33) rfl ?_)
          exact wp_zreturn e57 c57_33 rfl (by omega) ⟨rfl, rfl, 0, rfl, ⟨by decide, by decide⟩, (Or.inr ⟨by omega, by omega⟩)⟩
        · refine wp_of e57 c57_28 (rw_iconst (pc' := 29) rfl ?_)
          refine wp_of e57 c57_29 (rw_goto (p1 := 33) (by decide) ?_)
          exact wp_zreturn e57 c57_33 rfl (by omega) ⟨rfl, rfl, 1, rfl, ⟨by decide, by decide⟩, (Or.inl ⟨by omega, by omega⟩)⟩
  · show wp _ _ 57 5 [(0, .ref r0), (1, vI a1), (2, vI a2)] [vI z1035] _ H _
    refine wp_of e57 c57_5 (rw_if_eq (p1 := 32) (p2 := 8) (by decide) rfl ⟨Int.le_trans (by decide) b1036.1, Int.le_trans b1036.2 (by decide)⟩ (fun c1054 => ?_) (fun c1054 => ?_))
    · refine wp_of e57 c57_32 (rw_iconst (pc' := 33) rfl ?_)
      exact wp_zreturn e57 c57_33 rfl (by omega) ⟨rfl, rfl, 0, rfl, ⟨by decide, by decide⟩, (Or.inr ⟨by omega, by omega⟩)⟩
    · exfalso
      omega
/-! StrikeAwake$Person.weightOf(I)I  -/
abbrev uq_58 (r0 : Nat) (a1 : Int) (d : xD) (k : Nat) (P : List (Int × Int)) (h : Int) (T : wq_T) (H : wq_H) : Option Value → wq_T → wq_H → Prop := fun r T' H' => T = T' ∧ H = H' ∧ ∃ z : Int, some (vI z) = r ∧ (1 ≤ z ∧ z ≤ 10) ∧ (((((h = -1 ∧ z = 1) ∨ (h ≠ -1 ∧ ((z = 1 ∧ (9 ≤ (P.getD (a1).toNat (0, 0)).1 - h ∨ (P.getD (a1).toNat (0, 0)).1 - h ≤ -9)) ∨ ((P.getD (a1).toNat (0, 0)).1 - h ≤ 8 ∧ -8 ≤ (P.getD (a1).toNat (0, 0)).1 - h ∧ ((0 ≤ (P.getD (a1).toNat (0, 0)).1 - h ∧ z = 10 - ((P.getD (a1).toNat (0, 0)).1 - h)) ∨ ((P.getD (a1).toNat (0, 0)).1 - h < 0 ∧ z = 10 + ((P.getD (a1).toNat (0, 0)).1 - h))))))))))
set_option maxHeartbeats 4000000 in
theorem u_58 {kt : Nat → Option mc_E} {T : wq_T} {H : wq_H} {r0 : Nat} {a1 : Int} {d : xD} {k : Nat} {P : List (Int × Int)} {h : Int} (hW : WT T H) (g0 : T.2.2.2 r0 = some 35) (i1 : 0 ≤ a1 ∧ a1 ≤ 39) (p0 : H r0 11 = h) (p1 : a1 < (P.length : Int)) (hPS_r0 : PS T H r0 d k P) : wpc kt 1 58 [.ref r0, vI a1] T H (uq_58 r0 a1 d k P h T H) := by
  refine wp_enter e58 (Nat.le_of_ble_eq_true rfl) rfl ?_
  show wp _ _ 58 0 [(0, .ref r0), (1, vI a1)] [] _ H _
  have b1015 : (-1) ≤ H r0 11 ∧ H r0 11 ≤ 23 := hW.box g0 (n := 18) rfl (by decide) rfl
  refine wp_of e58 c58_0 (rw_aload_n (pc' := 1) (v := .ref r0) rfl rfl rfl ?_)
  refine wp_of e58 c58_1 (xg_I (pc' := 4) lf_8_35 hW g0 sh_35 (by decide) (by decide) ty_35_11 rfl rfl (fun b1016 b1017 => ?_))
  refine wp_of e58 c58_4 (rw_iconst (pc' := 5) rfl ?_)
  refine wp_of e58 c58_5 (rw_icmp_ne (p1 := 10) (p2 := 8) (by decide) rfl ⟨Int.le_trans (by decide) b1016, Int.le_trans b1017 (by decide)⟩ ⟨by decide, by decide⟩ (fun c1018 => ?_) (fun c1018 => ?_))
  · refine wp_of e58 c58_10 (rw_iconst (pc' := 11) rfl ?_)
    refine wp_of e58 c58_11 (rw_bipush (pc' := 13) (z := 10) rfl (by decide) ?_)
    refine wp_of e58 c58_13 (rw_aload_n (pc' := 14) (v := .ref r0) rfl rfl rfl ?_)
    refine wp_of e58 c58_14 (xg_R (pc' := 17) lf_8_9 hW g0 sh_35 (by decide) (by decide) ty_35_0 rfl rfl (fun r1019 q1020 g1021 => ?_))
    refine wp_of e58 c58_17 (rw_iload_n (pc' := 18) (z := a1) rfl rfl ?_)
    refine wp_of e58 c58_18 (xa_I (so := 0) (pc' := 19) hW g1021 sh_36 (by decide) (ty_36 _) (i1.1) (Int.lt_of_le_of_lt i1.2 (by decide)) rfl (fun b1022 b1023 => ?_))
    have := DA_at (hPS_r0).2.1 q1020 (k := (a1.toNat)) (by omega)
    have _x : xr1 P (a1.toNat) = ((P).getD (a1.toNat) (0, 0)).1 := rfl
    refine wp_of e58 c58_19 (rw_aload_n (pc' := 20) (v := .ref r0) rfl rfl rfl ?_)
    refine wp_of e58 c58_20 (xg_I (pc' := 23) lf_8_35 hW g0 sh_35 (by decide) (by decide) ty_35_11 rfl rfl (fun b1024 b1025 => ?_))
    refine wp_of e58 c58_23 (rw_isub (pc' := 24) rfl ?_)
    refine wp_of e58 c58_24 (rw_abs (pc' := 27) rfl rfl ⟨by omega, by omega⟩ rfl (Nat.le_of_ble_eq_true rfl) rfl ?_)
    obtain ⟨v1026, e1027⟩ : ∃ x : Int, x = if 0 ≤ ((H r1019 (a1.toNat)) - (H r0 11)) then ((H r1019 (a1.toNat)) - (H r0 11)) else 0 - ((H r1019 (a1.toNat)) - (H r0 11)) := ⟨_, rfl⟩
    rw [← e1027]
    have b1028 : (v1026 = ((H r1019 (a1.toNat)) - (H r0 11)) ∨ v1026 = 0 - ((H r1019 (a1.toNat)) - (H r0 11))) ∧ 0 ≤ v1026 := by
      rw [e1027]
      split <;> omega
    refine wp_of e58 c58_27 (rw_isub (pc' := 28) rfl ?_)
    refine wp_of e58 c58_28 (rw_math2 (pc' := 31) (z := max 1 (10 - v1026)) rfl rfl ⟨by omega, by omega⟩ ⟨by omega, by omega⟩ (Or.inr ⟨rfl, rfl⟩) (Nat.le_of_ble_eq_true rfl) rfl ?_)
    obtain ⟨v1029, e1030⟩ : ∃ x : Int, x = max 1 (10 - v1026) := ⟨_, rfl⟩
    rw [← e1030]
    have b1031 : v1029 = 1 ∨ v1029 = (10 - v1026) := by
      rw [e1030]
      omega
    have b1032 : 1 ≤ v1029 ∧ (10 - v1026) ≤ v1029 := by
      rw [e1030]
      omega
    exact wp_ireturn e58 c58_31 rfl ⟨rfl, rfl, v1029, rfl, ⟨by omega, by omega⟩, (by omega)⟩
  · refine wp_of e58 c58_8 (rw_iconst (pc' := 9) rfl ?_)
    exact wp_ireturn e58 c58_9 rfl ⟨rfl, rfl, 1, rfl, ⟨by decide, by decide⟩, (by omega)⟩
/-! StrikeAwake.say(II)Z  -/
abbrev uq_62 (r0 : Nat) (a1 : Int) (a2 : Int) (cu : Nat) (e : xD) (d : xD) (n : Int) (nY : Int) (gY : Nat → Int) (cY : Int) (T : wq_T) (H : wq_H) : Option Value → wq_T → wq_H → Prop := fun r T' H' => T = T' ∧ WT T H' ∧ wfr [(35, 16), (1, 10)] T H H' ∧ ∃ z : Int, some (vI z) = r ∧ (0 ≤ z ∧ z ≤ 1) ∧ (((z = 1) ∧ ((0 ≤ a1 ∧ a1 < d 0 3) ∧ 0 ≤ a2 ∧ a2 < ((xsp d (a1).toNat).length : Int)) ∧ (SG d (xup gY (a1).toNat a2)) ∧ CY T H' cu nY (xup gY (a1).toNat a2) cY) ∨ ((z = 0) ∧ ((a1 < 0 ∨ d 0 3 ≤ a1) ∨ a2 < 0 ∨ ((xsp d (a1).toNat).length : Int) ≤ a2) ∧ CY T H' cu nY gY cY))
set_option maxHeartbeats 4000000 in
theorem u_62 {kt : Nat → Option mc_E} {T : wq_T} {H : wq_H} {r0 : Nat} {a1 : Int} {a2 : Int} {cu : Nat} {e : xD} {d : xD} {n : Int} {nY : Int} {gY : Nat → Int} {cY : Int} (hW : WT T H) (g0 : T.2.2.2 r0 = some 1) (i1 : (-2147483648) ≤ a1 ∧ a1 ≤ 2147483647) (i2 : (-2147483648) ≤ a2 ∧ a2 ≤ 2147483647) (qcu : H r0 6 = (cu : Int)) (gcu : T.2.2.2 cu = some 27) (p0 : e 0 3 = d 0 3) (p1 : e 0 0 = d 0 0) (p2 : nY = d 0 3) (p3 : SG d gY) (hCU_cu : CU T H cu e d n) (hCY_cu : CY T H cu nY gY cY) (hDD_cu : DD T H cu ) : wpc kt 3 62 [.ref r0, vI a1, vI a2] T H (uq_62 r0 a1 a2 cu e d n nY gY cY T H) := by
  refine wp_enter e62 (Nat.le_of_ble_eq_true rfl) rfl ?_
  have f0 : wfr [(35, 16), (1, 10)] T H H := wfr.rf
  show wp _ _ 62 0 [(0, .ref r0), (1, vI a1), (2, vI a2)] [] _ H _
  have u1056 := CU_k hCU_cu
  have _xl := @xsp_len d (a1).toNat hCU_cu.2.1.1
  refine wp_of e62 c62_0 (rw_aload_n (pc' := 1) (v := .ref r0) rfl rfl rfl ?_)
  refine wp_of e62 c62_1 (rw_iload_n (pc' := 2) (z := a1) rfl rfl ?_)
  refine wp_of e62 c62_2 (rw_iload_n (pc' := 3) (z := a2) rfl rfl ?_)
  refine wp_of e62 c62_3 (xc_V (pc' := 6) (r := r0) (as := [vI a1, vI a2]) (st := []) (lm_0_118) rfl rfl (Nat.le_of_ble_eq_true rfl) hW g0 sh_1 (by decide) rfl (by decide) (u_57 (e := e) (d := d) (n := n) hW g0 ⟨i1.1, i1.2⟩ ⟨i2.1, i2.2⟩ qcu gcu (by omega) (by omega) hCU_cu) (fun R1057 T1058 H1059 p1060 => ?_))
  obtain ⟨e1061, e1063, z1064, e1062, b1065, p1066⟩ := p1060
  subst e1061
  subst e1062
  subst e1063
  rcases p1066 with ⟨a1067, a1068⟩ | ⟨a1069, a1070⟩
  · show wp _ _ 62 6 [(0, .ref r0), (1, vI a1), (2, vI a2)] [vI z1064] _ H _
    refine wp_of e62 c62_6 (rw_if_ne (p1 := 15) (p2 := 9) (by decide) rfl ⟨Int.le_trans (by decide) b1065.1, Int.le_trans b1065.2 (by decide)⟩ (fun c1071 => ?_) (fun c1071 => ?_))
    · refine wp_of e62 c62_15 (rw_aload_n (pc' := 16) (v := .ref r0) rfl rfl rfl ?_)
      refine wp_of e62 c62_16 (xg_K (pc' := 19) lf_0_51 hW g0 sh_1 (by decide) (by decide) rfl qcu rfl ?_)
      refine wp_of e62 c62_19 (xg_R (pc' := 22) lf_0_109 hW gcu sh_27 (by decide) (by decide) ty_27_0 rfl rfl (fun r1072 q1073 g1074 => ?_))
      refine wp_of e62 c62_22 (rw_iload_n (pc' := 23) (z := a1) rfl rfl ?_)
      refine wp_of e62 c62_23 (xa_R (pc' := 24) (by decide) hW g1074 sh_28 (by decide) (ty_28 _) (by omega) (by omega) rfl (fun r1075 q1076 g1077 => ?_))
      refine wp_of e62 c62_24 (rw_iload_n (pc' := 25) (z := a2) rfl rfl ?_)
      refine wp_of e62 c62_25 (xp_I (pc' := 28) lf_0_148 hW g1077 sh_35 (by decide) (by decide) ty_35_16 rfl rfl (by omega) (by omega) ⟨i2.1, i2.2⟩ rfl (fun H1078 e1079 w1080 => ?_))
      have f1081 := f0.put' e1079 g1077 rfl
      have k1082 : H1078 r1075 16 = a2 := wq_u_s e1079
      have h1083 : CY T H1078 cu nY (xup gY (a1).toNat a2) cY := CY_put hDD_cu q1073 g1074 gcu q1076 g1077 (k := (a1).toNat) (by omega) (by omega) e1079 hCY_cu
      refine wp_of e62 c62_28 (rw_aload_n (pc' := 29) (v := .ref r0) rfl rfl rfl ?_)
      refine wp_of e62 c62_29 (xc_V (pc' := 32) (r := r0) (as := []) (st := []) (lm_0_151) rfl rfl (Nat.le_of_ble_eq_true rfl) w1080 g0 sh_1 (by decide) rfl (by decide) (u_64  w1080 g0) (fun R1084 T1085 H1086 p1087 => ?_))
      obtain ⟨e1088, w1090, f1091, z1092, e1089, b1093, p1094⟩ := p1087
      subst e1088
      subst e1089
      obtain ⟨a1095, a1096⟩ := p1094
      have f1097 := f1081.tr f1091 rfl
      show wp _ _ 62 32 [(0, .ref r0), (1, vI a1), (2, vI a2)] [vI z1092] _ H1086 _
      have h1098 : CY T H1086 cu nY (xup gY (a1).toNat a2) cY := (CY_fr w1080 gcu f1091 rfl h1083)
      exact wp_zreturn e62 c62_32 rfl (by omega) ⟨rfl, w1090, f1097, z1092, rfl, ⟨b1093.1, b1093.2⟩, (Or.inl ⟨by omega, by omega, SG_up (by assumption) (by omega) (by omega), h1098⟩)⟩
    · exfalso
      omega
  · show wp _ _ 62 6 [(0, .ref r0), (1, vI a1), (2, vI a2)] [vI z1064] _ H _
    refine wp_of e62 c62_6 (rw_if_ne (p1 := 15) (p2 := 9) (by decide) rfl ⟨Int.le_trans (by decide) b1065.1, Int.le_trans b1065.2 (by decide)⟩ (fun c1099 => ?_) (fun c1099 => ?_))
    · exfalso
      omega
    · refine wp_of e62 c62_9 (rw_aload_n (pc' := 10) (v := .ref r0) rfl rfl rfl ?_)
      refine wp_of e62 c62_10 (rw_iconst (pc' := 11) rfl ?_)
      refine wp_of e62 c62_11 (xc_V (pc' := 14) (r := r0) (as := [vI 1]) (st := []) (lm_0_145) rfl rfl (Nat.le_of_ble_eq_true rfl) hW g0 sh_1 (by decide) rfl (by decide) (u_63  hW g0 ⟨by decide, by decide⟩) (fun R1100 T1101 H1102 p1103 => ?_))
      obtain ⟨e1104, w1106, f1107, z1108, e1105, b1109, p1110⟩ := p1103
      subst e1104
      subst e1105
      obtain ⟨a1111, a1112⟩ := p1110
      have f1113 := f0.tr f1107 rfl
      show wp _ _ 62 14 [(0, .ref r0), (1, vI a1), (2, vI a2)] [vI z1108] _ H1102 _
      have h1114 : CY T H1102 cu nY gY cY := (CY_fr hW gcu f1107 rfl hCY_cu)
      exact wp_zreturn e62 c62_14 rfl (by omega) ⟨rfl, w1106, f1113, z1108, rfl, ⟨b1109.1, b1109.2⟩, (Or.inr ⟨by omega, by omega, h1114⟩)⟩
/-! StrikeAwake.strike(II)I  -/
abbrev uq_153 (r0 : Nat) (a1 : Int) (a2 : Int) (cu : Nat) (ce : Nat) (e : xD) (d : xD) (n : Int) (y : Int) (w : Int) (T : wq_T) (H : wq_H) : Option Value → wq_T → wq_H → Prop := fun r T' H' => T = T' ∧ WT T H' ∧ wfr [(12, 9), (27, 16), (1, 10), (29, 999), (30, 999)] T H H' ∧ ∃ z : Int, some (vI z) = r ∧ ((-2147483648) ≤ z ∧ z ≤ 2147483647) ∧ (((z = -1) ∧ ((y < 0 ∨ d 0 0 ≤ y) ∨ a2 < 0 ∨ 99 < a2) ∧ CU T H' cu e d n ∧ CEN T H' ce e d) ∨ ((0 ≤ z ∧ z ≤ 24) ∧ ((0 ≤ y ∧ y < d 0 0) ∧ 0 ≤ a2 ∧ a2 ≤ 99) ∧ (z = xcn ((wq_u e 13 (y).toNat w) 13) 24) ∧ (H' ce 9 = 0) ∧ CU T H' cu (wq_u e 13 (y).toNat w) d n))
set_option maxHeartbeats 4000000 in
theorem u_153 {kt : Nat → Option mc_E} {T : wq_T} {H : wq_H} {r0 : Nat} {a1 : Int} {a2 : Int} {cu : Nat} {ce : Nat} {e : xD} {d : xD} {n : Int} {y : Int} {w : Int} (hW : WT T H) (g0 : T.2.2.2 r0 = some 1) (i1 : (-2147483648) ≤ a1 ∧ a1 ≤ 2147483647) (i2 : (-2147483648) ≤ a2 ∧ a2 ≤ 2147483647) (qcu : H r0 6 = (cu : Int)) (gcu : T.2.2.2 cu = some 27) (qce : H r0 3 = (ce : Int)) (gce : T.2.2.2 ce = some 12) (p0 : e 0 3 = d 0 3) (p1 : e 0 0 = d 0 0) (p2 : a1 = y) (p3 : w = a2 + 1) (hCU_cu : CU T H cu e d n) (hCEN_ce : CEN T H ce e d) : wpc kt 3 153 [.ref r0, vI a1, vI a2] T H (uq_153 r0 a1 a2 cu ce e d n y w T H) := by
  refine wp_enter e153 (Nat.le_of_ble_eq_true rfl) rfl ?_
  have f0 : wfr [(12, 9), (27, 16), (1, 10), (29, 999), (30, 999)] T H H := wfr.rf
  show wp _ _ 153 0 [(0, .ref r0), (1, vI a1), (2, vI a2)] [] _ H _
  have u1106 := CU_k hCU_cu
  have b1107 : 0 ≤ H cu 7 ∧ H cu 7 ≤ 24 := hW.box gcu (n := 19) rfl (by decide) rfl
  have h1108 : DC T H cu e := hCU_cu.1
  have h1109 : CS T H cu d 0 := hCU_cu.2.1
  refine wp_of e153 c153_0 (rw_aload_n (pc' := 1) (v := .ref r0) rfl rfl rfl ?_)
  refine wp_of e153 c153_1 (rw_iload_n (pc' := 2) (z := a1) rfl rfl ?_)
  refine wp_of e153 c153_2 (xc_V (pc' := 5) (r := r0) (as := [vI a1]) (st := []) (lm_0_132) rfl rfl (Nat.le_of_ble_eq_true rfl) hW g0 sh_1 (by decide) rfl (by decide) (u_60  hW g0 ⟨i1.1, i1.2⟩ qcu gcu) (fun R1110 T1111 H1112 p1113 => ?_))
  obtain ⟨e1114, e1116, z1117, e1115, b1118, p1119⟩ := p1113
  subst e1114
  subst e1115
  subst e1116
  rcases p1119 with ⟨a1120, a1121⟩ | ⟨a1122, a1123⟩
  · show wp _ _ 153 5 [(0, .ref r0), (1, vI a1), (2, vI a2)] [vI z1117] _ H _
    refine wp_of e153 c153_5 (rw_if_ne (p1 := 14) (p2 := 8) (by decide) rfl ⟨Int.le_trans (by decide) b1118.1, Int.le_trans b1118.2 (by decide)⟩ (fun c1124 => ?_) (fun c1124 => ?_))
    · refine wp_of e153 c153_14 (rw_iload_n (pc' := 15) (z := a2) rfl rfl ?_)
      refine wp_of e153 c153_15 (rw_if_lt (p1 := 24) (p2 := 18) (by decide) rfl ⟨i2.1, i2.2⟩ (fun c1125 => ?_) (fun c1125 => ?_))
      · refine wp_of e153 c153_24 (rw_aload_n (pc' := 25) (v := .ref r0) rfl rfl rfl ?_)
        refine wp_of e153 c153_25 (rw_iconst (pc' := 26) rfl ?_)
        refine wp_of e153 c153_26 (xc_V (pc' := 29) (r := r0) (as := [vI 2]) (st := []) (lm_0_70) rfl rfl (Nat.le_of_ble_eq_true rfl) hW g0 sh_1 (by decide) rfl (by decide) (u_12  hW g0 ⟨by decide, by decide⟩) (fun R1126 T1127 H1128 p1129 => ?_))
        obtain ⟨e1130, w1132, f1133, z1134, e1131, b1135, p1136⟩ := p1129
        subst e1130
        subst e1131
        obtain ⟨a1137, a1138⟩ := p1136
        have f1139 := f0.tr f1133 rfl
        show wp _ _ 153 29 [(0, .ref r0), (1, vI a1), (2, vI a2)] [vI z1134] _ H1128 _
        have h1140 : CU T H1128 cu e d n := (CU_fr hW gcu f1133 rfl hCU_cu)
        have h1141 : CEN T H1128 ce e d := (CEN_fr hW gce f1133 rfl hCEN_ce)
        exact wp_ireturn e153 c153_29 rfl ⟨rfl, w1132, f1139, z1134, rfl, ⟨b1135.1, b1135.2⟩, (Or.inl ⟨by omega, by omega, h1140, h1141⟩)⟩
      · refine wp_of e153 c153_18 (rw_iload_n (pc' := 19) (z := a2) rfl rfl ?_)
        refine wp_of e153 c153_19 (rw_bipush (pc' := 21) (z := 99) rfl (by decide) ?_)
        refine wp_of e153 c153_21 (rw_icmp_le (p1 := 30) (p2 := 24) (by decide) rfl ⟨i2.1, i2.2⟩ ⟨by decide, by decide⟩ (fun c1142 => ?_) (fun c1142 => ?_))
        · refine wp_of e153 c153_30 (rw_aload_n (pc' := 31) (v := .ref r0) rfl rfl rfl ?_)
          refine wp_of e153 c153_31 (xg_K (pc' := 34) lf_0_51 hW g0 sh_1 (by decide) (by decide) rfl qcu rfl ?_)
          refine wp_of e153 c153_34 (rw_iload_n (pc' := 35) (z := a1) rfl rfl ?_)
          refine wp_of e153 c153_35 (rw_iload_n (pc' := 36) (z := a2) rfl rfl ?_)
          refine wp_of e153 c153_36 (xc_V (pc' := 39) (r := cu) (as := [vI a1, vI a2]) (st := []) (lm_0_291) rfl rfl (Nat.le_of_ble_eq_true rfl) hW gcu sh_27 (by decide) rfl (by decide) (u_40 (d := e) (w := w) (y := y) hW gcu ⟨by omega, by omega⟩ ⟨by omega, by omega⟩ (by omega) (by omega) h1108) (fun R1143 T1144 H1145 p1146 => ?_))
          obtain ⟨e1147, w1149, f1150, e1148, p1151⟩ := p1146
          subst e1147
          subst e1148
          have f1153 := f0.tr f1150 rfl
          show wp _ _ 153 39 [(0, .ref r0), (1, vI a1), (2, vI a2)] [] _ H1145 _
          have u1154 := DC_k p1151
          refine wp_of e153 c153_39 (rw_aload_n (pc' := 40) (v := .ref r0) rfl rfl rfl ?_)
          have k1155 : H1145 r0 3 = H r0 3 := (f1150 r0 3 _ g0 rfl)
          have q1156 : H1145 r0 3 = (ce : Int) := k1155.trans qce
          refine wp_of e153 c153_40 (xg_K (pc' := 43) lf_0_30 w1149 g0 sh_1 (by decide) (by decide) rfl q1156 rfl ?_)
          refine wp_of e153 c153_43 (xc_V (pc' := 46) (r := ce) (as := []) (st := []) (lm_0_93) rfl rfl (Nat.le_of_ble_eq_true rfl) w1149 gce sh_12 (by decide) rfl (by decide) (u_50  w1149 gce) (fun R1157 T1158 H1159 p1160 => ?_))
          obtain ⟨e1161, w1163, f1164, e1162, p1165⟩ := p1160
          subst e1161
          subst e1162
          have f1167 := f1153.tr f1164 rfl
          show wp _ _ 153 46 [(0, .ref r0), (1, vI a1), (2, vI a2)] [] _ H1159 _
          refine wp_of e153 c153_46 (rw_aload_n (pc' := 47) (v := .ref r0) rfl rfl rfl ?_)
          refine wp_of e153 c153_47 (rw_aload_n (pc' := 48) (v := .ref r0) rfl rfl rfl ?_)
          have k1168 : H1159 r0 6 = H r0 6 := ((f1164 r0 6 _ g0 rfl).trans (f1150 r0 6 _ g0 rfl))
          have q1169 : H1159 r0 6 = (cu : Int) := k1168.trans qcu
          refine wp_of e153 c153_48 (xg_K (pc' := 51) lf_0_51 w1163 g0 sh_1 (by decide) (by decide) rfl q1169 rfl ?_)
          have k1170 : H1159 cu 16 = H1145 cu 16 := (f1164 cu 16 _ gcu rfl)
          refine wp_of e153 c153_51 (xg_I (pc' := 54) lf_0_295 w1163 gcu sh_27 (by decide) (by decide) ty_27_16 rfl rfl (fun b1171 b1172 => ?_))
          refine wp_of e153 c153_54 (xc_V (pc' := 57) (r := r0) (as := [vI (H1159 cu 16)]) (st := []) (lm_0_99) rfl rfl (Nat.le_of_ble_eq_true rfl) w1163 g0 sh_1 (by decide) rfl (by decide) (u_51  w1163 g0 ⟨Int.le_trans (by decide) b1171, Int.le_trans b1172 (by decide)⟩) (fun R1173 T1174 H1175 p1176 => ?_))
          obtain ⟨e1177, w1179, f1180, z1181, e1178, b1182, p1183⟩ := p1176
          subst e1177
          subst e1178
          obtain ⟨a1184, a1185⟩ := p1183
          have f1186 := f1167.tr f1180 rfl
          show wp _ _ 153 57 [(0, .ref r0), (1, vI a1), (2, vI a2)] [vI z1181] _ H1175 _
          have k1187 : H1175 cu 18 = H cu 18 := ((f1180 cu 18 _ gcu rfl).trans ((f1164 cu 18 _ gcu rfl).trans (f1150 cu 18 _ gcu rfl)))
          have k1188 : H1175 ce 9 = H1159 ce 9 := (f1180 ce 9 _ gce rfl)
          have h1189 : DC T H1175 cu (wq_u e 13 y.toNat w) := (DC_fr w1163 gcu f1180 rfl (DC_fr w1149 gcu f1164 rfl p1151))
          have h1190 : CS T H1175 cu d 0 := (CS_fr w1163 gcu f1180 rfl (CS_fr w1149 gcu f1164 rfl (CS_fr hW gcu f1150 rfl h1109)))
          exact wp_ireturn e153 c153_57 rfl ⟨rfl, w1179, f1186, z1181, rfl, ⟨b1182.1, b1182.2⟩, (Or.inr ⟨by omega, by omega, by omega, by omega, ⟨h1189, h1190, by omega⟩⟩)⟩
        · refine wp_of e153 c153_24 (rw_aload_n (pc' := 25) (v := .ref r0) rfl rfl rfl ?_)
          refine wp_of e153 c153_25 (rw_iconst (pc' := 26) rfl ?_)
          refine wp_of e153 c153_26 (xc_V (pc' := 29) (r := r0) (as := [vI 2]) (st := []) (lm_0_70) rfl rfl (Nat.le_of_ble_eq_true rfl) hW g0 sh_1 (by decide) rfl (by decide) (u_12  hW g0 ⟨by decide, by decide⟩) (fun R1191 T1192 H1193 p1194 => ?_))
          obtain ⟨e1195, w1197, f1198, z1199, e1196, b1200, p1201⟩ := p1194
          subst e1195
          subst e1196
          obtain ⟨a1202, a1203⟩ := p1201
          have f1204 := f0.tr f1198 rfl
          show wp _ _ 153 29 [(0, .ref r0), (1, vI a1), (2, vI a2)] [vI z1199] _ H1193 _
          have h1205 : CU T H1193 cu e d n := (CU_fr hW gcu f1198 rfl hCU_cu)
          have h1206 : CEN T H1193 ce e d := (CEN_fr hW gce f1198 rfl hCEN_ce)
          exact wp_ireturn e153 c153_29 rfl ⟨rfl, w1197, f1204, z1199, rfl, ⟨b1200.1, b1200.2⟩, (Or.inl ⟨by omega, by omega, h1205, h1206⟩)⟩
    · exfalso
      omega
  · show wp _ _ 153 5 [(0, .ref r0), (1, vI a1), (2, vI a2)] [vI z1117] _ H _
    refine wp_of e153 c153_5 (rw_if_ne (p1 := 14) (p2 := 8) (by decide) rfl ⟨Int.le_trans (by decide) b1118.1, Int.le_trans b1118.2 (by decide)⟩ (fun c1207 => ?_) (fun c1207 => ?_))
    · exfalso
      omega
    · refine wp_of e153 c153_8 (rw_aload_n (pc' := 9) (v := .ref r0) rfl rfl rfl ?_)
      refine wp_of e153 c153_9 (rw_iconst (pc' := 10) rfl ?_)
      refine wp_of e153 c153_10 (xc_V (pc' := 13) (r := r0) (as := [vI 1]) (st := []) (lm_0_70) rfl rfl (Nat.le_of_ble_eq_true rfl) hW g0 sh_1 (by decide) rfl (by decide) (u_12  hW g0 ⟨by decide, by decide⟩) (fun R1208 T1209 H1210 p1211 => ?_))
      obtain ⟨e1212, w1214, f1215, z1216, e1213, b1217, p1218⟩ := p1211
      subst e1212
      subst e1213
      obtain ⟨a1219, a1220⟩ := p1218
      have f1221 := f0.tr f1215 rfl
      show wp _ _ 153 13 [(0, .ref r0), (1, vI a1), (2, vI a2)] [vI z1216] _ H1210 _
      have h1222 : CU T H1210 cu e d n := (CU_fr hW gcu f1215 rfl hCU_cu)
      have h1223 : CEN T H1210 ce e d := (CEN_fr hW gce f1215 rfl hCEN_ce)
      exact wp_ireturn e153 c153_13 rfl ⟨rfl, w1214, f1221, z1216, rfl, ⟨b1217.1, b1217.2⟩, (Or.inl ⟨by omega, by omega, h1222, h1223⟩)⟩
/-! StrikeAwake.still(I)Z  -/
abbrev uq_154 (r0 : Nat) (a1 : Int) (cu : Nat) (ce : Nat) (e : xD) (d : xD) (n : Int) (y : Int) (T : wq_T) (H : wq_H) : Option Value → wq_T → wq_H → Prop := fun r T' H' => T = T' ∧ WT T H' ∧ wfr [(12, 9), (27, 16), (1, 10), (29, 999), (30, 999)] T H H' ∧ ∃ z : Int, some (vI z) = r ∧ (0 ≤ z ∧ z ≤ 1) ∧ (((z = 1) ∧ (0 ≤ y ∧ y < d 0 0) ∧ (e 13 (y).toNat > 0) ∧ (H' ce 9 = 0) ∧ CU T H' cu (wq_u e 13 (y).toNat 0) d n) ∨ ((z = 0) ∧ ((y < 0 ∨ d 0 0 ≤ y) ∨ e 13 (y).toNat ≤ 0) ∧ CU T H' cu e d n ∧ CEN T H' ce e d))
set_option maxHeartbeats 4000000 in
theorem u_154 {kt : Nat → Option mc_E} {T : wq_T} {H : wq_H} {r0 : Nat} {a1 : Int} {cu : Nat} {ce : Nat} {e : xD} {d : xD} {n : Int} {y : Int} (hW : WT T H) (g0 : T.2.2.2 r0 = some 1) (i1 : (-2147483648) ≤ a1 ∧ a1 ≤ 2147483647) (qcu : H r0 6 = (cu : Int)) (gcu : T.2.2.2 cu = some 27) (qce : H r0 3 = (ce : Int)) (gce : T.2.2.2 ce = some 12) (p0 : e 0 3 = d 0 3) (p1 : e 0 0 = d 0 0) (p2 : a1 = y) (hCU_cu : CU T H cu e d n) (hCEN_ce : CEN T H ce e d) : wpc kt 3 154 [.ref r0, vI a1] T H (uq_154 r0 a1 cu ce e d n y T H) := by
  refine wp_enter e154 (Nat.le_of_ble_eq_true rfl) rfl ?_
  have f0 : wfr [(12, 9), (27, 16), (1, 10), (29, 999), (30, 999)] T H H := wfr.rf
  show wp _ _ 154 0 [(0, .ref r0), (1, vI a1)] [] _ H _
  have u1092 := CU_k hCU_cu
  have b1093 : 0 ≤ H cu 7 ∧ H cu 7 ≤ 24 := hW.box gcu (n := 19) rfl (by decide) rfl
  have h1094 : DC T H cu e := hCU_cu.1
  have h1095 : CS T H cu d 0 := hCU_cu.2.1
  have h1096 : ST T H cu (e 13) := hCU_cu.1.2.2.1
  refine wp_of e154 c154_0 (rw_aload_n (pc' := 1) (v := .ref r0) rfl rfl rfl ?_)
  refine wp_of e154 c154_1 (rw_iload_n (pc' := 2) (z := a1) rfl rfl ?_)
  refine wp_of e154 c154_2 (xc_V (pc' := 5) (r := r0) (as := [vI a1]) (st := []) (lm_0_132) rfl rfl (Nat.le_of_ble_eq_true rfl) hW g0 sh_1 (by decide) rfl (by decide) (u_60  hW g0 ⟨i1.1, i1.2⟩ qcu gcu) (fun R1097 T1098 H1099 p1100 => ?_))
  obtain ⟨e1101, e1103, z1104, e1102, b1105, p1106⟩ := p1100
  subst e1101
  subst e1102
  subst e1103
  rcases p1106 with ⟨a1107, a1108⟩ | ⟨a1109, a1110⟩
  · show wp _ _ 154 5 [(0, .ref r0), (1, vI a1)] [vI z1104] _ H _
    refine wp_of e154 c154_5 (rw_if_eq (p1 := 20) (p2 := 8) (by decide) rfl ⟨Int.le_trans (by decide) b1105.1, Int.le_trans b1105.2 (by decide)⟩ (fun c1111 => ?_) (fun c1111 => ?_))
    · exfalso
      omega
    · have _ty : (a1).toNat = (y).toNat := by rw [p2]
      refine wp_of e154 c154_8 (rw_aload_n (pc' := 9) (v := .ref r0) rfl rfl rfl ?_)
      refine wp_of e154 c154_9 (xg_K (pc' := 12) lf_0_51 hW g0 sh_1 (by decide) (by decide) rfl qcu rfl ?_)
      refine wp_of e154 c154_12 (xg_R (pc' := 15) lf_0_262 hW gcu sh_27 (by decide) (by decide) ty_27_1 rfl rfl (fun r1112 q1113 g1114 => ?_))
      refine wp_of e154 c154_15 (rw_iload_n (pc' := 16) (z := a1) rfl rfl ?_)
      refine wp_of e154 c154_16 (xa_I (so := 0) (pc' := 17) hW g1114 sh_29 (by decide) (ty_29 _) (by omega) (by omega) rfl (fun b1115 b1116 => ?_))
      have := ST_at h1096 q1113 (k := (a1.toNat)) (by omega)
      have _tz : e 13 (a1.toNat) = e 13 (y).toNat := by rw [← p2]
      refine wp_of e154 c154_17 (rw_if_ge (p1 := 26) (p2 := 20) (by decide) rfl ⟨b1115, b1116⟩ (fun c1117 => ?_) (fun c1117 => ?_))
      · refine wp_of e154 c154_26 (rw_aload_n (pc' := 27) (v := .ref r0) rfl rfl rfl ?_)
        refine wp_of e154 c154_27 (xg_K (pc' := 30) lf_0_51 hW g0 sh_1 (by decide) (by decide) rfl qcu rfl ?_)
        refine wp_of e154 c154_30 (rw_iload_n (pc' := 31) (z := a1) rfl rfl ?_)
        refine wp_of e154 c154_31 (rw_bipush (pc' := 33) (z := -2) rfl (by decide) ?_)
        refine wp_of e154 c154_33 (xc_V (pc' := 36) (r := cu) (as := [vI a1, vI (-2)]) (st := []) (lm_0_291) rfl rfl (Nat.le_of_ble_eq_true rfl) hW gcu sh_27 (by decide) rfl (by decide) (u_40 (d := e) (w := 0) (y := y) hW gcu ⟨by omega, by omega⟩ ⟨by decide, by decide⟩ (by omega) (by omega) h1094) (fun R1118 T1119 H1120 p1121 => ?_))
        obtain ⟨e1122, w1124, f1125, e1123, p1126⟩ := p1121
        subst e1122
        subst e1123
        have f1128 := f0.tr f1125 rfl
        show wp _ _ 154 36 [(0, .ref r0), (1, vI a1)] [] _ H1120 _
        have u1129 := DC_k p1126
        refine wp_of e154 c154_36 (rw_aload_n (pc' := 37) (v := .ref r0) rfl rfl rfl ?_)
        have k1130 : H1120 r0 3 = H r0 3 := (f1125 r0 3 _ g0 rfl)
        have q1131 : H1120 r0 3 = (ce : Int) := k1130.trans qce
        refine wp_of e154 c154_37 (xg_K (pc' := 40) lf_0_30 w1124 g0 sh_1 (by decide) (by decide) rfl q1131 rfl ?_)
        refine wp_of e154 c154_40 (xc_V (pc' := 43) (r := ce) (as := []) (st := []) (lm_0_93) rfl rfl (Nat.le_of_ble_eq_true rfl) w1124 gce sh_12 (by decide) rfl (by decide) (u_50  w1124 gce) (fun R1132 T1133 H1134 p1135 => ?_))
        obtain ⟨e1136, w1138, f1139, e1137, p1140⟩ := p1135
        subst e1136
        subst e1137
        have f1142 := f1128.tr f1139 rfl
        show wp _ _ 154 43 [(0, .ref r0), (1, vI a1)] [] _ H1134 _
        refine wp_of e154 c154_43 (rw_aload_n (pc' := 44) (v := .ref r0) rfl rfl rfl ?_)
        refine wp_of e154 c154_44 (xc_V (pc' := 47) (r := r0) (as := []) (st := []) (lm_0_151) rfl rfl (Nat.le_of_ble_eq_true rfl) w1138 g0 sh_1 (by decide) rfl (by decide) (u_64  w1138 g0) (fun R1143 T1144 H1145 p1146 => ?_))
        obtain ⟨e1147, w1149, f1150, z1151, e1148, b1152, p1153⟩ := p1146
        subst e1147
        subst e1148
        obtain ⟨a1154, a1155⟩ := p1153
        have f1156 := f1142.tr f1150 rfl
        show wp _ _ 154 47 [(0, .ref r0), (1, vI a1)] [vI z1151] _ H1145 _
        have k1157 : H1145 cu 18 = H cu 18 := ((f1150 cu 18 _ gcu rfl).trans ((f1139 cu 18 _ gcu rfl).trans (f1125 cu 18 _ gcu rfl)))
        have k1158 : H1145 ce 9 = H1134 ce 9 := (f1150 ce 9 _ gce rfl)
        have h1159 : DC T H1145 cu (wq_u e 13 y.toNat 0) := (DC_fr w1138 gcu f1150 rfl (DC_fr w1124 gcu f1139 rfl p1126))
        have h1160 : CS T H1145 cu d 0 := (CS_fr w1138 gcu f1150 rfl (CS_fr w1124 gcu f1139 rfl (CS_fr hW gcu f1125 rfl h1095)))
        exact wp_zreturn e154 c154_47 rfl (by omega) ⟨rfl, w1149, f1156, z1151, rfl, ⟨b1152.1, b1152.2⟩, (Or.inl ⟨by omega, by omega, by omega, by omega, ⟨h1159, h1160, by omega⟩⟩)⟩
      · refine wp_of e154 c154_20 (rw_aload_n (pc' := 21) (v := .ref r0) rfl rfl rfl ?_)
        refine wp_of e154 c154_21 (rw_iconst (pc' := 22) rfl ?_)
        refine wp_of e154 c154_22 (xc_V (pc' := 25) (r := r0) (as := [vI 1]) (st := []) (lm_0_145) rfl rfl (Nat.le_of_ble_eq_true rfl) hW g0 sh_1 (by decide) rfl (by decide) (u_63  hW g0 ⟨by decide, by decide⟩) (fun R1161 T1162 H1163 p1164 => ?_))
        obtain ⟨e1165, w1167, f1168, z1169, e1166, b1170, p1171⟩ := p1164
        subst e1165
        subst e1166
        obtain ⟨a1172, a1173⟩ := p1171
        have f1174 := f0.tr f1168 rfl
        show wp _ _ 154 25 [(0, .ref r0), (1, vI a1)] [vI z1169] _ H1163 _
        have h1175 : CU T H1163 cu e d n := (CU_fr hW gcu f1168 rfl hCU_cu)
        have h1176 : CEN T H1163 ce e d := (CEN_fr hW gce f1168 rfl hCEN_ce)
        exact wp_zreturn e154 c154_25 rfl (by omega) ⟨rfl, w1167, f1174, z1169, rfl, ⟨b1170.1, b1170.2⟩, (Or.inr ⟨by omega, by omega, h1175, h1176⟩)⟩
  · show wp _ _ 154 5 [(0, .ref r0), (1, vI a1)] [vI z1104] _ H _
    refine wp_of e154 c154_5 (rw_if_eq (p1 := 20) (p2 := 8) (by decide) rfl ⟨Int.le_trans (by decide) b1105.1, Int.le_trans b1105.2 (by decide)⟩ (fun c1177 => ?_) (fun c1177 => ?_))
    · refine wp_of e154 c154_20 (rw_aload_n (pc' := 21) (v := .ref r0) rfl rfl rfl ?_)
      refine wp_of e154 c154_21 (rw_iconst (pc' := 22) rfl ?_)
      refine wp_of e154 c154_22 (xc_V (pc' := 25) (r := r0) (as := [vI 1]) (st := []) (lm_0_145) rfl rfl (Nat.le_of_ble_eq_true rfl) hW g0 sh_1 (by decide) rfl (by decide) (u_63  hW g0 ⟨by decide, by decide⟩) (fun R1178 T1179 H1180 p1181 => ?_))
      obtain ⟨e1182, w1184, f1185, z1186, e1183, b1187, p1188⟩ := p1181
      subst e1182
      subst e1183
      obtain ⟨a1189, a1190⟩ := p1188
      have f1191 := f0.tr f1185 rfl
      show wp _ _ 154 25 [(0, .ref r0), (1, vI a1)] [vI z1186] _ H1180 _
      have h1192 : CU T H1180 cu e d n := (CU_fr hW gcu f1185 rfl hCU_cu)
      have h1193 : CEN T H1180 ce e d := (CEN_fr hW gce f1185 rfl hCEN_ce)
      exact wp_zreturn e154 c154_25 rfl (by omega) ⟨rfl, w1184, f1191, z1186, rfl, ⟨b1187.1, b1187.2⟩, (Or.inr ⟨by omega, by omega, h1192, h1193⟩)⟩
    · exfalso
      omega
/-! StrikeAwake.barOfLots(Z)I  -/
abbrev uq_84 (r0 : Nat) (a1 : Int) (cu : Nat) (e : xD) (d : xD) (n : Int) (T : wq_T) (H : wq_H) : Option Value → wq_T → wq_H → Prop := fun r T' H' => T = T' ∧ H = H' ∧ ∃ z : Int, some (vI z) = r ∧ (0 ≤ z ∧ z ≤ 6) ∧ (((z = 0) ∧ (a1 = 1) ∧ (n ≤ 20000)) ∨ ((1 ≤ z ∧ z ≤ 6) ∧ (a1 ≠ 1 ∨ 20000 < n)))
set_option maxHeartbeats 4000000 in
theorem u_84 {kt : Nat → Option mc_E} {T : wq_T} {H : wq_H} {r0 : Nat} {a1 : Int} {cu : Nat} {e : xD} {d : xD} {n : Int} (hW : WT T H) (g0 : T.2.2.2 r0 = some 1) (i1 : 0 ≤ a1 ∧ a1 ≤ 1) (qcu : H r0 6 = (cu : Int)) (gcu : T.2.2.2 cu = some 27) (hCU_cu : CU T H cu e d n) : wpc kt 1 84 [.ref r0, vI a1] T H (uq_84 r0 a1 cu e d n T H) := by
  refine wp_enter e84 (Nat.le_of_ble_eq_true rfl) rfl ?_
  show wp _ _ 84 0 [(0, .ref r0), (1, vI a1)] [] _ H _
  have u1006 := CU_k hCU_cu
  refine wp_of e84 c84_0 (rw_iload_n (pc' := 1) (z := a1) rfl rfl ?_)
  refine wp_of e84 c84_1 (rw_if_ne (p1 := 6) (p2 := 4) (by decide) rfl ⟨Int.le_trans (by decide) i1.1, Int.le_trans i1.2 (by decide)⟩ (fun c1007 => ?_) (fun c1007 => ?_))
  · refine wp_of e84 c84_6 (rw_aload_n (pc' := 7) (v := .ref r0) rfl rfl rfl ?_)
    refine wp_of e84 c84_7 (xg_K (pc' := 10) lf_0_51 hW g0 sh_1 (by decide) (by decide) rfl qcu rfl ?_)
    refine wp_of e84 c84_10 (xg_L (pc' := 13) lf_0_141 hW gcu sh_27 (by decide) (by decide) ty_27_18 rfl rfl (fun b1008 b1009 => ?_))
    refine wp_of e84 c84_13 (rw_ldc2 (pc' := 16) (z := 20000) rfl rfl rfl ?_)
    refine wp_of e84 c84_16 (rw_lcmp (pc' := 17) rfl ⟨b1008, b1009⟩ ⟨by decide, by decide⟩ ?_)
    have b1010 := wq_cmp_b (H cu 18) 20000
    refine wp_of e84 c84_17 (rw_if_le (p1 := 24) (p2 := 20) (by decide) rfl ⟨by omega, by omega⟩ (fun c1011 => ?_) (fun c1011 => ?_))
    · refine wp_of e84 c84_24 (rw_iconst (pc' := 25) rfl ?_)
      exact wp_ireturn e84 c84_25 rfl ⟨rfl, rfl, 0, rfl, ⟨by decide, by decide⟩, (Or.inl ⟨by omega, by omega, by omega⟩)⟩
    · refine wp_of e84 c84_20 (rw_iconst (pc' := 21) rfl ?_)
      refine wp_of e84 c84_21 (rw_goto (p1 := 25) (by decide) ?_)
      exact wp_ireturn e84 c84_25 rfl ⟨rfl, rfl, 3, rfl, ⟨by decide, by decide⟩, (Or.inr ⟨by omega, by omega⟩)⟩
  · refine wp_of e84 c84_4 (rw_iconst (pc' := 5) rfl ?_)
    exact wp_ireturn e84 c84_5 rfl ⟨rfl, rfl, 1, rfl, ⟨by decide, by decide⟩, (Or.inr ⟨by omega, by omega⟩)⟩
/-! StrikeAwake$Parish.isPicture(J)Z  -/
abbrev uq_162 (r0 : Nat) (a1 : Int) (e : xD) (d : xD) (n : Int) (T : wq_T) (H : wq_H) : Option Value → wq_T → wq_H → Prop := fun r T' H' => T = T' ∧ H = H' ∧ ∃ z : Int, some (vI z) = r ∧ (0 ≤ z ∧ z ≤ 1) ∧ (((z = 1) ∧ (0 ≤ a1 ∧ wdv (d 0 3).toNat a1 ≤ 20000) ∧ (xpd d a1 0 (d 0 3).toNat = 0)) ∨ ((z = 0) ∧ (a1 < 0 ∨ 0 < xpd d a1 0 (d 0 3).toNat ∨ 20000 < wdv (d 0 3).toNat a1)))
set_option maxHeartbeats 4000000 in
theorem u_162 {kt : Nat → Option mc_E} {T : wq_T} {H : wq_H} {r0 : Nat} {a1 : Int} {e : xD} {d : xD} {n : Int} (hW : WT T H) (g0 : T.2.2.2 r0 = some 27) (i1 : (-9223372036854775808) ≤ a1 ∧ a1 ≤ 9223372036854775807) (p0 : e 0 3 = d 0 3) (hCU_r0 : CU T H r0 e d n) : wpc kt 1 162 [.ref r0, vL a1] T H (uq_162 r0 a1 e d n T H) := by
  refine wp_enter e162 (Nat.le_of_ble_eq_true rfl) rfl ?_
  show wp _ _ 162 0 [(0, .ref r0), (1, vL a1)] [] _ H _
  have u1046 := CU_k hCU_r0
  refine wp_of e162 c162_0 (rw_lload_n (pc' := 1) (z := a1) rfl rfl ?_)
  refine wp_of e162 c162_1 (rw_lstore_n (pc' := 2) (z := a1) (L' := [(3, vL a1), (0, .ref r0), (1, vL a1)]) rfl rfl rfl ?_)
  refine wp_of e162 c162_2 (rw_aload_n (pc' := 3) (v := .ref r0) rfl rfl rfl ?_)
  refine wp_of e162 c162_3 (xg_I (pc' := 6) lf_7_50 hW g0 sh_27 (by decide) (by decide) ty_27_10 rfl rfl (fun b1047 b1048 => ?_))
  refine wp_of e162 c162_6 (rw_iconst (pc' := 7) rfl ?_)
  refine wp_of e162 c162_7 (rw_isub (pc' := 8) rfl ?_)
  refine wp_of e162 c162_8 (rw_istore (pc' := 10) (z := (H r0 10) - 1) (L' := [(5, vI ((H r0 10) - 1)), (3, vL a1), (0, .ref r0), (1, vL a1)]) rfl rfl rfl ?_)
  have lp1068 : ∀ (n1069 : Nat) (v1071 : Int) (v1072 : Int), ((-1) ≤ v1071 ∧ v1071 ≤ 5) → ((-9223372036854775808) ≤ v1072 ∧ v1072 ≤ 9223372036854775807) → (v1071 ≤ d 0 3 - 1) → (a1 < 0 ∨ 0 ≤ v1072) → (a1 < 0 ∨ v1072 = wdv (d 0 3 - 1 - v1071).toNat a1) → (a1 < 0 ∨ xpd d a1 (v1071 + 1).toNat ((d 0 3).toNat - (v1071 + 1).toNat) = 0) → (v1071 - (-1)).toNat = n1069 → wp kt 0 162 10 [(5, vI v1071), (3, vL v1072), (0, .ref r0), (1, vL a1)] [] T H (uq_162 r0 a1 e d n T H) := by
    intro n1069
    induction n1069 using Nat.strongRecOn with
    | _ n1069 ih1070 =>
      intro v1071 v1072 b1075 b1076 x1078 x1079 x1080 x1081 m1077
      have _x : v1071 = -1 → a1 < 0 ∨ (v1072 = wdv (d 0 3).toNat a1 ∧ xpd d a1 0 (d 0 3).toNat = 0) := fun q => by
        rcases ‹a1 < 0 ∨ v1072 = wdv (d 0 3 - 1 - v1071).toNat a1› with h | h
        · exact Or.inl h
        · rcases ‹a1 < 0 ∨ xpd d a1 (v1071 + 1).toNat ((d 0 3).toNat - (v1071 + 1).toNat) = 0› with k | k
          · exact Or.inl k
          · rw [q] at k
            exact Or.inr ⟨wdv_z h q, k⟩
      refine wp_of e162 c162_10 (rw_iload (pc' := 12) (z := v1071) rfl rfl ?_)
      refine wp_of e162 c162_12 (rw_if_lt (p1 := 60) (p2 := 15) (by decide) rfl ⟨Int.le_trans (by decide) b1075.1, Int.le_trans b1075.2 (by decide)⟩ (fun c1082 => ?_) (fun c1082 => ?_))
      · refine wp_of e162 c162_60 (rw_lload_n (pc' := 61) (z := a1) rfl rfl ?_)
        refine wp_of e162 c162_61 (rw_lconst (pc' := 62) (z := 0) rfl rfl ?_)
        refine wp_of e162 c162_62 (rw_lcmp (pc' := 63) rfl ⟨i1.1, i1.2⟩ ⟨by decide, by decide⟩ ?_)
        have b1083 := wq_cmp_b a1 0
        refine wp_of e162 c162_63 (rw_if_lt (p1 := 78) (p2 := 66) (by decide) rfl ⟨by omega, by omega⟩ (fun c1084 => ?_) (fun c1084 => ?_))
        · refine wp_of e162 c162_78 (rw_iconst (pc' := 79) rfl ?_)
          exact wp_zreturn e162 c162_79 rfl (by omega) ⟨rfl, rfl, 0, rfl, ⟨by decide, by decide⟩, (Or.inr ⟨by omega, by omega⟩)⟩
        · refine wp_of e162 c162_66 (rw_lload_n (pc' := 67) (z := v1072) rfl rfl ?_)
          refine wp_of e162 c162_67 (rw_ldc2 (pc' := 70) (z := 20000) rfl rfl rfl ?_)
          refine wp_of e162 c162_70 (rw_lcmp (pc' := 71) rfl ⟨b1076.1, b1076.2⟩ ⟨by decide, by decide⟩ ?_)
          have b1085 := wq_cmp_b v1072 20000
          refine wp_of e162 c162_71 (rw_if_gt (p1 := 78) (p2 := 74) (by decide) rfl ⟨by omega, by omega⟩ (fun c1086 => ?_) (fun c1086 => ?_))
          · refine wp_of e162 c162_78 (rw_iconst (pc' := 79) rfl ?_)
            exact wp_zreturn e162 c162_79 rfl (by omega) ⟨rfl, rfl, 0, rfl, ⟨by decide, by decide⟩, (Or.inr ⟨by omega, by omega⟩)⟩
          · refine wp_of e162 c162_74 (rw_iconst (pc' := 75) rfl ?_)
            refine wp_of e162 c162_75 (rw_goto (p1 := 79) (by decide) ?_)
            exact wp_zreturn e162 c162_79 rfl (by omega) ⟨rfl, rfl, 1, rfl, ⟨by decide, by decide⟩, (Or.inl ⟨by omega, by omega, by omega⟩)⟩
      · refine wp_of e162 c162_15 (rw_lload_n (pc' := 16) (z := v1072) rfl rfl ?_)
        refine wp_of e162 c162_16 (rw_ldc2 (pc' := 19) (z := 40) rfl rfl rfl ?_)
        refine wp_of e162 c162_19 (rw_lrem (pc' := 20) rfl ⟨by omega, by omega⟩ (by omega) ?_)
        obtain ⟨v1087, e1088⟩ : ∃ x : Int, x = wl_rem v1072 40 := ⟨_, rfl⟩
        rw [← e1088]
        have b1089 : -9223372036854775808 ≤ v1087 ∧ v1087 ≤ 9223372036854775807 := by
          rw [e1088]
          exact wL_rem _ _
        have b1090 : v1072 < 0 ∨ v1087 = v1072 % 40 := by
          rw [e1088]
          exact wl_rem_or ⟨by omega, by omega⟩ ⟨by omega, by omega⟩
        refine wp_of e162 c162_20 (rw_lstore (pc' := 22) (z := v1087) (L' := [(6, vL v1087), (5, vI v1071), (3, vL v1072), (0, .ref r0), (1, vL a1)]) rfl rfl rfl ?_)
        refine wp_of e162 c162_22 (rw_lload (pc' := 24) (z := v1087) rfl rfl ?_)
        refine wp_of e162 c162_24 (rw_lconst (pc' := 25) (z := 0) rfl rfl ?_)
        refine wp_of e162 c162_25 (rw_lcmp (pc' := 26) rfl ⟨b1089.1, b1089.2⟩ ⟨by decide, by decide⟩ ?_)
        have b1091 := wq_cmp_b v1087 0
        refine wp_of e162 c162_26 (rw_if_eq (p1 := 48) (p2 := 29) (by decide) rfl ⟨by omega, by omega⟩ (fun c1092 => ?_) (fun c1092 => ?_))
        · have _i : a1 < 0 ∨ v1072 = wdv (d 0 3 - 1 - v1071).toNat a1 := by
            rcases ‹a1 < 0 ∨ v1072 = wdv (d 0 3 - 1 - v1071).toNat a1› with h | h
            · exact Or.inl h
            · exact Or.inr h
          have _s := xpd_s (d := d) (a := a1) (v := v1087) (x := v1072) (i := v1071) (by omega) (by omega) _i (by omega) (by omega) (by assumption)
          refine wp_of e162 c162_48 (rw_lload_n (pc' := 49) (z := v1072) rfl rfl ?_)
          refine wp_of e162 c162_49 (rw_ldc2 (pc' := 52) (z := 40) rfl rfl rfl ?_)
          refine wp_of e162 c162_52 (rw_ldiv (pc' := 53) rfl ⟨by omega, by omega⟩ (by omega) ?_)
          obtain ⟨v1093, e1094⟩ : ∃ x : Int, x = wl_div v1072 40 := ⟨_, rfl⟩
          rw [← e1094]
          have b1095 : -9223372036854775808 ≤ v1093 ∧ v1093 ≤ 9223372036854775807 := by
            rw [e1094]
            exact wL_div _ _
          have b1096 : v1072 < 0 ∨ v1093 = v1072 / 40 := by
            rw [e1094]
            exact wl_div_or ⟨by omega, by omega⟩ ⟨by omega, by omega⟩
          refine wp_of e162 c162_53 (rw_lstore_n (pc' := 54) (z := v1093) (L' := [(3, vL v1093), (6, vL v1087), (5, vI v1071), (0, .ref r0), (1, vL a1)]) rfl rfl rfl ?_)
          refine wp_of e162 c162_54 (rw_iinc (pc' := 57) (z := v1071) (L' := [(5, vI (v1071 + (-1))), (3, vL v1093), (6, vL v1087), (0, .ref r0), (1, vL a1)]) rfl rfl rfl rfl ?_)
          refine wp_of e162 c162_57 (rw_goto (p1 := 10) (by decide) ?_)
          exact wp_lc (ks := [5, 3, 6, 0, 1]) (wl_c rfl (wl_c rfl (wl_c rfl (wl_c rfl wl_n)))) rfl (by decide) (ih1070 _ (by omega) (v1071 + (-1)) v1093 ⟨by omega, by omega⟩ ⟨b1095.1, b1095.2⟩ (by omega) (by omega) (by by_cases q : a1 < 0; exact Or.inl q; exact Or.inr (wdv_n (by omega) (_i.resolve_left q) (by omega))) (by rw [show (v1071 + (-1) + 1).toNat = (v1071).toNat by omega]; exact _s) rfl)
        · refine wp_of e162 c162_29 (rw_lload (pc' := 31) (z := v1087) rfl rfl ?_)
          refine wp_of e162 c162_31 (rw_aload_n (pc' := 32) (v := .ref r0) rfl rfl rfl ?_)
          refine wp_of e162 c162_32 (xg_R (pc' := 35) lf_7_11 hW g0 sh_27 (by decide) (by decide) ty_27_0 rfl rfl (fun r1097 q1098 g1099 => ?_))
          refine wp_of e162 c162_35 (rw_iload (pc' := 37) (z := v1071) rfl rfl ?_)
          refine wp_of e162 c162_37 (xa_R (pc' := 38) (by decide) hW g1099 sh_28 (by decide) (ty_28 _) (by omega) (Int.lt_of_le_of_lt b1075.2 (by decide)) rfl (fun r1100 q1101 g1102 => ?_))
          have _z := CS_at (hCU_r0).2.1 q1098 q1101 (k := (v1071).toNat) (by omega) (by omega)
          have _l := @xsp_len d (v1071).toNat (hCU_r0).2.1.1
          have _n := _z.1.1
          have _b := xpr_5 (hCU_r0).2.1.1 (by omega) (v1071).toNat
          have _w : H r1100 17 = xpr d ((v1071).toNat + 1) ((d 0 3).toNat - ((v1071).toNat + 1)) := _z.2.trans (wq_w_id ⟨by omega, by omega⟩)
          refine wp_of e162 c162_38 (xg_I (pc' := 41) lf_7_110 hW g1102 sh_35 (by decide) (by decide) ty_35_15 rfl rfl (fun b1103 b1104 => ?_))
          refine wp_of e162 c162_41 (rw_i2l (pc' := 42) rfl ⟨Int.le_trans (by decide) b1103, Int.le_trans b1104 (by decide)⟩ ?_)
          refine wp_of e162 c162_42 (rw_lcmp (pc' := 43) rfl ⟨b1089.1, b1089.2⟩ ⟨Int.le_trans (by decide) b1103, Int.le_trans b1104 (by decide)⟩ ?_)
          have b1105 := wq_cmp_b v1087 (H r1100 15)
          refine wp_of e162 c162_43 (rw_if_lt (p1 := 48) (p2 := 46) (by decide) rfl ⟨by omega, by omega⟩ (fun c1106 => ?_) (fun c1106 => ?_))
          · have _i : a1 < 0 ∨ v1072 = wdv (d 0 3 - 1 - v1071).toNat a1 := by
              rcases ‹a1 < 0 ∨ v1072 = wdv (d 0 3 - 1 - v1071).toNat a1› with h | h
              · exact Or.inl h
              · exact Or.inr h
            have _s := xpd_s (d := d) (a := a1) (v := v1087) (x := v1072) (i := v1071) (by omega) (by omega) _i (by omega) (by omega) (by assumption)
            refine wp_of e162 c162_48 (rw_lload_n (pc' := 49) (z := v1072) rfl rfl ?_)
            refine wp_of e162 c162_49 (rw_ldc2 (pc' := 52) (z := 40) rfl rfl rfl ?_)
            refine wp_of e162 c162_52 (rw_ldiv (pc' := 53) rfl ⟨by omega, by omega⟩ (by omega) ?_)
            obtain ⟨v1107, e1108⟩ : ∃ x : Int, x = wl_div v1072 40 := ⟨_, rfl⟩
            rw [← e1108]
            have b1109 : -9223372036854775808 ≤ v1107 ∧ v1107 ≤ 9223372036854775807 := by
              rw [e1108]
              exact wL_div _ _
            have b1110 : v1072 < 0 ∨ v1107 = v1072 / 40 := by
              rw [e1108]
              exact wl_div_or ⟨by omega, by omega⟩ ⟨by omega, by omega⟩
            refine wp_of e162 c162_53 (rw_lstore_n (pc' := 54) (z := v1107) (L' := [(3, vL v1107), (6, vL v1087), (5, vI v1071), (0, .ref r0), (1, vL a1)]) rfl rfl rfl ?_)
            refine wp_of e162 c162_54 (rw_iinc (pc' := 57) (z := v1071) (L' := [(5, vI (v1071 + (-1))), (3, vL v1107), (6, vL v1087), (0, .ref r0), (1, vL a1)]) rfl rfl rfl rfl ?_)
            refine wp_of e162 c162_57 (rw_goto (p1 := 10) (by decide) ?_)
            exact wp_lc (ks := [5, 3, 6, 0, 1]) (wl_c rfl (wl_c rfl (wl_c rfl (wl_c rfl wl_n)))) rfl (by decide) (ih1070 _ (by omega) (v1071 + (-1)) v1107 ⟨by omega, by omega⟩ ⟨b1109.1, b1109.2⟩ (by omega) (by omega) (by by_cases q : a1 < 0; exact Or.inl q; exact Or.inr (wdv_n (by omega) (_i.resolve_left q) (by omega))) (by rw [show (v1071 + (-1) + 1).toNat = (v1071).toNat by omega]; exact _s) rfl)
          · have _i : a1 < 0 ∨ v1072 = wdv (d 0 3 - 1 - v1071).toNat a1 := by
              rcases ‹a1 < 0 ∨ v1072 = wdv (d 0 3 - 1 - v1071).toNat a1› with h | h
              · exact Or.inl h
              · exact Or.inr h
            have _s := xpd_n (d := d) (a := a1) (v := v1087) (x := v1072) (i := v1071) (by omega) (by omega) _i (by omega) (by omega) (by omega)
            refine wp_of e162 c162_46 (rw_iconst (pc' := 47) rfl ?_)
            exact wp_zreturn e162 c162_47 rfl (by omega) ⟨rfl, rfl, 0, rfl, ⟨by decide, by decide⟩, (Or.inr ⟨by omega, by omega⟩)⟩
  exact wp_lc (ks := [5, 3, 0, 1]) (wl_c rfl (wl_c rfl (wl_c rfl (wl_c rfl wl_n)))) rfl (by decide) (lp1068 _ ((H r0 10) - 1) a1 ⟨by omega, by omega⟩ ⟨i1.1, i1.2⟩ (by omega) (by omega) (Or.inr (wdv_1 (by omega))) (Or.inr (xpd_e (by omega))) rfl)
