/-! what methods do (own work, written by wip/gen3/sx3.py) -/
/-! StrikeAwakeModel.readStruck()V k -/
abbrev uq_199_k (r0 : Nat) (rp : Nat) (rb : Nat) (B : Nat → Int) (n : Int) (q : Int) (d : xD) (N0 : Nat) (H0 : wq_H) (T : wq_T) (H : wq_H) : Option Value → wq_T → wq_H → Prop := fun r T' H' => T = T' ∧ WT T H' ∧ wfr [(42, 8), (42, 9), (42, 10), (42, 11), (42, 12), (42, 13), (42, 14), (42, 15), (42, 16), (67, 999)] T H H' ∧ none = r ∧ ((((xl5 B n q d).1 = 0) ∧ ((xl5 B n q d).2.2 = (xN B n (xN B n (xN B n (xN B n q))))) ∧ (q ≤ (xN B n (xN B n (xN B n (xN B n q))))) ∧ RC T H' r0 B n (xN B n (xN B n (xN B n (xN B n q)))) ∧ DM T H' rp r0 (xdst B n (xN B n q) d) ∧ FZ T H' rp N0 H0) ∨ (((xl5 B n q d).1 ≠ 0) ∧ RO T H' r0 ((xl5 B n q d).1) ((xl5 B n q d).2.1) ∧ FZ T H' rp N0 H0))
set_option maxHeartbeats 4000000 in
theorem u_199_k {kt : Nat → Option mc_E} {T : wq_T} {H : wq_H} {r0 : Nat} {rp : Nat} {rb : Nat} {B : Nat → Int} {n : Int} {q : Int} {d : xD} {N0 : Nat} {H0 : wq_H} (hW : WT T H) (g0 : T.2.2.2 r0 = some 42) (qrp : H r0 4 = (rp : Int)) (grp : T.2.2.2 rp = some 54) (qrb : H r0 5 = (rb : Int)) (grb : T.2.2.2 rb = some 43) (p0 : xK B n q = 1) (hRC_r0 : RC T H r0 B n q) (hDM_rp : DM T H rp r0 d) (hFZ_rp : FZ T H rp N0 H0) : wpc kt 5 199 [.ref r0] T H (uq_199_k r0 rp rb B n q d N0 H0 T H) := by
  refine wp_enter e199 (Nat.le_of_ble_eq_true rfl) rfl ?_
  have f0 : wfr [(42, 8), (42, 9), (42, 10), (42, 11), (42, 12), (42, 13), (42, 14), (42, 15), (42, 16), (67, 999)] T H H := wfr.rf
  show wp _ _ 199 0 [(0, .ref r0)] [] _ H _
  have u1241 := RC_k hRC_r0
  have u1242 := DM_k hDM_rp
  have h1243 : MA9 T H rp (d 1) := hDM_rp.2.2.2.1
  have h1244 : MA10 T H rp (d 2) := hDM_rp.2.2.2.2.1
  have h1245 : MA11 T H rp (d 3) := hDM_rp.2.2.2.2.2.1
  have h1246 : MA12 T H rp (d 4) := hDM_rp.2.2.2.2.2.2.1
  have h1247 : MA13 T H rp (d 5) := hDM_rp.2.2.2.2.2.2.2.1
  have h1248 : MA14 T H rp (d 6) := hDM_rp.2.2.2.2.2.2.2.2.1
  have h1249 : MA15 T H rp (d 7) := hDM_rp.2.2.2.2.2.2.2.2.2.1
  have h1250 : MA16 T H rp (d 8) := hDM_rp.2.2.2.2.2.2.2.2.2.2.1
  have h1251 : MA17 T H rp (d 9) := hDM_rp.2.2.2.2.2.2.2.2.2.2.2.1
  have h1252 : MA18 T H rp (d 10) := hDM_rp.2.2.2.2.2.2.2.2.2.2.2.2.1
  have h1253 : MA19 T H rp (d 11) := hDM_rp.2.2.2.2.2.2.2.2.2.2.2.2.2.1
  have h1254 : MA20 T H rp (d 12) := hDM_rp.2.2.2.2.2.2.2.2.2.2.2.2.2.2.1
  have h1255 : MA21 T H rp (d 13) := hDM_rp.2.2.2.2.2.2.2.2.2.2.2.2.2.2.2.1
  have h1256 : MA22 T H rp (d 14) := hDM_rp.2.2.2.2.2.2.2.2.2.2.2.2.2.2.2.2.1
  have h1257 : MA23 T H rp (d 15) := hDM_rp.2.2.2.2.2.2.2.2.2.2.2.2.2.2.2.2.2.1
  have h1258 : MA25 T H rp (d 17) := hDM_rp.2.2.2.2.2.2.2.2.2.2.2.2.2.2.2.2.2.2.1
  have h1259 : MA26 T H rp (d 16) := hDM_rp.2.2.2.2.2.2.2.2.2.2.2.2.2.2.2.2.2.2.2
  refine wp_of e199 c199_0 (rw_aload_n (pc' := 1) (v := .ref r0) rfl rfl rfl ?_)
  refine wp_of e199 c199_1 (rw_aload_n (pc' := 2) (v := .ref r0) rfl rfl rfl ?_)
  refine wp_of e199 c199_2 (xg_I (pc' := 5) lf_9_293 hW g0 sh_42 (by decide) (by decide) ty_42_16 rfl rfl (fun b1260 b1261 => ?_))
  refine wp_of e199 c199_5 (rw_bipush (pc' := 7) (z := 24) rfl (by decide) ?_)
  refine wp_of e199 c199_7 (xc_V (pc' := 10) (r := r0) (as := [vI (H r0 16), vI 24]) (st := []) (lm_9_228) rfl rfl (Nat.le_of_ble_eq_true rfl) hW g0 sh_42 (by decide) rfl (by decide) (u_188_k (B := B) (n := n) (q := q) hW g0 ⟨Int.le_trans (by decide) b1260, Int.le_trans b1261 (by decide)⟩ ⟨by decide, by decide⟩ qrb grb (by omega) hRC_r0) (fun R1262 T1263 H1264 p1265 => ?_))
  obtain ⟨e1266, w1268, f1269, e1267, p1270⟩ := p1265
  subst e1266
  subst e1267
  rcases p1270 with ⟨a1271, a1272⟩ | ⟨a1273, a1274⟩
  · have f1275 := f0.tr f1269 rfl
    show wp _ _ 199 10 [(0, .ref r0)] [] _ H1264 _
    have u1276 := RC_k a1272
    have _h := @xsh_b B n (xN B n q) d
    have _hb := @xh_b B n (xN B n q) 0 23
    have _vb := @xV_b2 B n (xN B n q)
    refine wp_of e199 c199_10 (rw_aload_n (pc' := 11) (v := .ref r0) rfl rfl rfl ?_)
    refine wp_of e199 c199_11 (rw_iconst (pc' := 12) rfl ?_)
    refine wp_of e199 c199_12 (rw_bipush (pc' := 14) (z := 23) rfl (by decide) ?_)
    refine wp_of e199 c199_14 (xc_V (pc' := 17) (r := r0) (as := [vI 0, vI 23]) (st := []) (lm_9_129) rfl rfl (Nat.le_of_ble_eq_true rfl) w1268 g0 sh_42 (by decide) rfl (by decide) (u_185_k (B := B) (n := n) (q := ((xN B n q))) (lo := 0) (hi := 23) w1268 g0 ⟨by decide, by decide⟩ ⟨by decide, by decide⟩ (by omega) (by omega) a1272) (fun R1277 T1278 H1279 p1280 => ?_))
    obtain ⟨e1281, w1283, f1284, z1285, e1282, b1286, p1287⟩ := p1280
    subst e1281
    subst e1282
    rcases p1287 with ⟨a1288, a1289, a1290, a1291, a1292⟩ | ⟨a1293, a1294, a1295⟩
    · have f1296 := f1275.tr f1284 rfl
      show wp _ _ 199 17 [(0, .ref r0)] [vI z1285] _ H1279 _
      have u1297 := RC_k a1292
      refine wp_of e199 c199_17 (rw_istore_n (pc' := 18) (z := z1285) (L' := [(1, vI z1285), (0, .ref r0)]) rfl rfl rfl ?_)
      refine wp_of e199 c199_18 (rw_aload_n (pc' := 19) (v := .ref r0) rfl rfl rfl ?_)
      refine wp_of e199 c199_19 (xg_I (pc' := 22) lf_9_75 w1283 g0 sh_42 (by decide) (by decide) ty_42_9 rfl rfl (fun b1298 b1299 => ?_))
      refine wp_of e199 c199_22 (rw_iconst (pc' := 23) rfl ?_)
      refine wp_of e199 c199_23 (rw_icmp_eq (p1 := 43) (p2 := 26) (by decide) rfl ⟨Int.le_trans (by decide) b1298, Int.le_trans b1299 (by decide)⟩ ⟨by decide, by decide⟩ (fun c1300 => ?_) (fun c1300 => ?_))
      · exfalso
        omega
      · refine wp_of e199 c199_26 (rw_aload_n (pc' := 27) (v := .ref r0) rfl rfl rfl ?_)
        have k1301 : H1279 r0 4 = H r0 4 := ((f1284 r0 4 _ g0 rfl).trans (f1269 r0 4 _ g0 rfl))
        have q1302 : H1279 r0 4 = (rp : Int) := k1301.trans qrp
        refine wp_of e199 c199_27 (xg_K (pc' := 30) lf_9_166 w1283 g0 sh_42 (by decide) (by decide) rfl q1302 rfl ?_)
        refine wp_of e199 c199_30 (xg_R (pc' := 33) lf_9_296 w1283 grp sh_54 (by decide) (by decide) ty_54_21 rfl rfl (fun r1303 q1304 g1305 => ?_))
        refine wp_of e199 c199_33 (rw_iload_n (pc' := 34) (z := z1285) rfl rfl ?_)
        refine wp_of e199 c199_34 (xa_I (so := 0) (pc' := 35) w1283 g1305 sh_67 (by decide) (ty_67 _) (b1286.1) (by omega) rfl (fun b1306 b1307 => ?_))
        have h1308 : MA21 T H1279 rp (d 13) := (MA21_fr w1268 grp f1284 rfl (MA21_fr hW grp f1269 rfl h1255))
        have := MA_at h1308 q1304 (k := (z1285.toNat)) (by omega)
        have _c : d 13 (z1285.toNat) = d 13 (xV B n (xN B n q)).toNat := by rw [show z1285 = xV B n (xN B n q) by omega]
        refine wp_of e199 c199_35 (rw_if_le (p1 := 43) (p2 := 38) (by decide) rfl ⟨b1306, b1307⟩ (fun c1309 => ?_) (fun c1309 => ?_))
        · refine wp_of e199 c199_43 (rw_aload_n (pc' := 44) (v := .ref r0) rfl rfl rfl ?_)
          have k1310 : H1279 r0 5 = H r0 5 := ((f1284 r0 5 _ g0 rfl).trans (f1269 r0 5 _ g0 rfl))
          have q1311 : H1279 r0 5 = (rb : Int) := k1310.trans qrb
          have u1312 := RC_a a1292
          have h1313 : TM T H1279 rb B := RC_tm a1292 q1311
          refine wp_of e199 c199_44 (xc_V (pc' := 47) (r := r0) (as := []) (st := []) (lm_9_118) rfl rfl (Nat.le_of_ble_eq_true rfl) w1283 g0 sh_42 (by decide) rfl (by decide) (u_172_k (B := B) (n := n) (a := (xE B n ((xN B n q)))) (q := (xN B n ((xN B n q)))) w1283 g0 q1311 grb (by omega) (by omega) (by omega) (by omega) (by omega) (rfl) h1313) (fun R1314 T1315 H1316 p1317 => ?_))
          obtain ⟨e1318, w1320, f1321, e1319, p1322⟩ := p1317
          subst e1318
          subst e1319
          have f1324 := f1296.tr f1321 rfl
          show wp _ _ 199 47 [(1, vI z1285), (0, .ref r0)] [] _ H1316 _
          have u1325 := RC_k p1322
          refine wp_of e199 c199_47 (rw_aload_n (pc' := 48) (v := .ref r0) rfl rfl rfl ?_)
          refine wp_of e199 c199_48 (rw_ldc_wS (pc' := 51) (k := 89) rfl rfl rfl rfl ?_)
          refine wp_of e199 c199_51 (rw_iconst (pc' := 52) rfl ?_)
          refine wp_of e199 c199_52 (rw_bipush (pc' := 54) (z := 99) rfl (by decide) ?_)
          have k1326 : H1316 r0 5 = H1279 r0 5 := (f1321 r0 5 _ g0 rfl)
          have q1327 : H1316 r0 5 = (rb : Int) := k1326.trans q1311
          refine wp_of e199 c199_54 (xc_V (pc' := 57) (r := r0) (as := [.ref 89, vI 0, vI 99]) (st := []) (lm_9_216) rfl rfl (Nat.le_of_ble_eq_true rfl) w1320 g0 sh_42 (by decide) rfl (by decide) (u_182_k (B := B) (n := n) (q := ((xN B n ((xN B n q))))) (kk := 307) (lo := 0) (hi := 99) w1320 g0 rfl ⟨by decide, by decide⟩ ⟨by decide, by decide⟩ q1327 grb (by decide +kernel) (by omega) (by omega) p1322) (fun R1328 T1329 H1330 p1331 => ?_))
          obtain ⟨e1332, w1334, f1335, z1336, e1333, b1337, p1338⟩ := p1331
          subst e1332
          subst e1333
          rcases p1338 with ⟨a1339, a1340, a1341, a1342, a1343, a1344⟩ | ⟨a1345, a1346, a1347⟩ | ⟨a1348, a1349, a1350, a1351⟩
          · have f1352 := f1324.tr f1335 rfl
            show wp _ _ 199 57 [(1, vI z1285), (0, .ref r0)] [vI z1336] _ H1330 _
            have u1353 := RC_k a1344
            refine wp_of e199 c199_57 (rw_istore_n (pc' := 58) (z := z1336) (L' := [(2, vI z1336), (1, vI z1285), (0, .ref r0)]) rfl rfl rfl ?_)
            refine wp_of e199 c199_58 (rw_aload_n (pc' := 59) (v := .ref r0) rfl rfl rfl ?_)
            refine wp_of e199 c199_59 (xg_I (pc' := 62) lf_9_75 w1334 g0 sh_42 (by decide) (by decide) ty_42_9 rfl rfl (fun b1354 b1355 => ?_))
            refine wp_of e199 c199_62 (rw_iconst (pc' := 63) rfl ?_)
            refine wp_of e199 c199_63 (rw_icmp_ne (p1 := 67) (p2 := 66) (by decide) rfl ⟨Int.le_trans (by decide) b1354, Int.le_trans b1355 (by decide)⟩ ⟨by decide, by decide⟩ (fun c1356 => ?_) (fun c1356 => ?_))
            · refine wp_of e199 c199_67 (rw_aload_n (pc' := 68) (v := .ref r0) rfl rfl rfl ?_)
              have k1357 : H1330 r0 4 = H1279 r0 4 := ((f1335 r0 4 _ g0 rfl).trans (f1321 r0 4 _ g0 rfl))
              have q1358 : H1330 r0 4 = (rp : Int) := k1357.trans q1302
              refine wp_of e199 c199_68 (xg_K (pc' := 71) lf_9_166 w1334 g0 sh_42 (by decide) (by decide) rfl q1358 rfl ?_)
              have k1359 : H1330 rp 21 = H1279 rp 21 := ((f1335 rp 21 _ grp rfl).trans (f1321 rp 21 _ grp rfl))
              have q1360 : H1330 rp 21 = (r1303 : Int) := k1359.trans q1304
              refine wp_of e199 c199_71 (xg_K (pc' := 74) lf_9_296 w1334 grp sh_54 (by decide) (by decide) rfl q1360 rfl ?_)
              refine wp_of e199 c199_74 (rw_iload_n (pc' := 75) (z := z1285) rfl rfl ?_)
              refine wp_of e199 c199_75 (rw_iload_n (pc' := 76) (z := z1336) rfl rfl ?_)
              refine wp_of e199 c199_76 (rw_iconst (pc' := 77) rfl ?_)
              refine wp_of e199 c199_77 (rw_iadd (pc' := 78) rfl ?_)
              have h1361 : MA21 T H1330 rp (d 13) := (MA21_fr w1320 grp f1335 rfl (MA21_fr w1283 grp f1321 rfl h1308))
              have h1362 : FZ T H1330 rp N0 H0 := (FZ_fr w1320 grp f1335 rfl (FZ_fr w1283 grp f1321 rfl (FZ_fr w1268 grp f1284 rfl (FZ_fr hW grp f1269 rfl hFZ_rp))))
              refine wp_of e199 c199_78 (xs_I (pc' := 79) w1334 g1305 (by decide) sh_67 (by decide) (ty_67 _) (by omega) (by omega) ⟨by omega, by omega⟩ (b1286.1) (by omega) rfl (fun H1363 e1364 w1365 => ?_))
              have f1366 := f1352.put' e1364 g1305 rfl
              have h1367 : MA21 T H1363 rp (xdst B n (xN B n q) d 13) := MA_put h1361 q1360 grp g1305 (by decide) e1364 ((xdst_c (k := (z1285.toNat)) (by omega)).1.trans (by omega)) (xdst_c (k := (z1285.toNat)) (by omega)).2
              have h1368 : FZ T H1363 rp N0 H0 := FZ_st h1362 q1360 (by decide) (by decide) grp g1305 (by decide) e1364
              refine wp_of e199 c199_79 (rw_aload_n (pc' := 80) (v := .ref r0) rfl rfl rfl ?_)
              refine wp_of e199 c199_80 (rw_dup (pc' := 81) rfl rfl ?_)
              have k1369 : H1363 r0 16 = H r0 16 := ((wq_u_t e1364 g1305 g0 rfl 16).trans ((f1335 r0 16 _ g0 rfl).trans ((f1321 r0 16 _ g0 rfl).trans ((f1284 r0 16 _ g0 rfl).trans (f1269 r0 16 _ g0 rfl)))))
              refine wp_of e199 c199_81 (xg_I (pc' := 84) lf_9_293 w1365 g0 sh_42 (by decide) (by decide) ty_42_16 rfl rfl (fun b1370 b1371 => ?_))
              refine wp_of e199 c199_84 (rw_iconst (pc' := 85) rfl ?_)
              refine wp_of e199 c199_85 (rw_iadd (pc' := 86) rfl ?_)
              refine wp_of e199 c199_86 (xp_I (pc' := 89) lf_9_293 w1365 g0 sh_42 (by decide) (by decide) ty_42_16 rfl rfl (by omega) (by omega) ⟨by omega, by omega⟩ rfl (fun H1372 e1373 w1374 => ?_))
              have f1375 := f1366.put' e1373 g0 rfl
              have k1376 : H1372 r0 16 = (H1363 r0 16) + 1 := wq_u_s e1373
              have k1377 : H1372 rp 0 = H rp 0 := ((wq_u_t e1373 g0 grp rfl 0).trans ((wq_u_t e1364 g1305 grp rfl 0).trans ((f1335 rp 0 _ grp rfl).trans ((f1321 rp 0 _ grp rfl).trans ((f1284 rp 0 _ grp rfl).trans (f1269 rp 0 _ grp rfl))))))
              have k1378 : H1372 rp 1 = H rp 1 := ((wq_u_t e1373 g0 grp rfl 1).trans ((wq_u_t e1364 g1305 grp rfl 1).trans ((f1335 rp 1 _ grp rfl).trans ((f1321 rp 1 _ grp rfl).trans ((f1284 rp 1 _ grp rfl).trans (f1269 rp 1 _ grp rfl))))))
              have k1379 : H1372 rp 2 = H rp 2 := ((wq_u_t e1373 g0 grp rfl 2).trans ((wq_u_t e1364 g1305 grp rfl 2).trans ((f1335 rp 2 _ grp rfl).trans ((f1321 rp 2 _ grp rfl).trans ((f1284 rp 2 _ grp rfl).trans (f1269 rp 2 _ grp rfl))))))
              have k1380 : H1372 rp 3 = H rp 3 := ((wq_u_t e1373 g0 grp rfl 3).trans ((wq_u_t e1364 g1305 grp rfl 3).trans ((f1335 rp 3 _ grp rfl).trans ((f1321 rp 3 _ grp rfl).trans ((f1284 rp 3 _ grp rfl).trans (f1269 rp 3 _ grp rfl))))))
              have k1381 : H1372 rp 4 = H rp 4 := ((wq_u_t e1373 g0 grp rfl 4).trans ((wq_u_t e1364 g1305 grp rfl 4).trans ((f1335 rp 4 _ grp rfl).trans ((f1321 rp 4 _ grp rfl).trans ((f1284 rp 4 _ grp rfl).trans (f1269 rp 4 _ grp rfl))))))
              have k1382 : H1372 rp 5 = H rp 5 := ((wq_u_t e1373 g0 grp rfl 5).trans ((wq_u_t e1364 g1305 grp rfl 5).trans ((f1335 rp 5 _ grp rfl).trans ((f1321 rp 5 _ grp rfl).trans ((f1284 rp 5 _ grp rfl).trans (f1269 rp 5 _ grp rfl))))))
              have k1383 : H1372 rp 6 = H rp 6 := ((wq_u_t e1373 g0 grp rfl 6).trans ((wq_u_t e1364 g1305 grp rfl 6).trans ((f1335 rp 6 _ grp rfl).trans ((f1321 rp 6 _ grp rfl).trans ((f1284 rp 6 _ grp rfl).trans (f1269 rp 6 _ grp rfl))))))
              have k1384 : H1372 rp 7 = H rp 7 := ((wq_u_t e1373 g0 grp rfl 7).trans ((wq_u_t e1364 g1305 grp rfl 7).trans ((f1335 rp 7 _ grp rfl).trans ((f1321 rp 7 _ grp rfl).trans ((f1284 rp 7 _ grp rfl).trans (f1269 rp 7 _ grp rfl))))))
              have k1385 : H1372 rp 8 = H rp 8 := ((wq_u_t e1373 g0 grp rfl 8).trans ((wq_u_t e1364 g1305 grp rfl 8).trans ((f1335 rp 8 _ grp rfl).trans ((f1321 rp 8 _ grp rfl).trans ((f1284 rp 8 _ grp rfl).trans (f1269 rp 8 _ grp rfl))))))
              have o1386 : (xl5 B n q d) = (0, (xN B n q), (xN B n (xN B n ((xN B n ((xN B n q))))))) := by
                unfold xl5 xst
                repeat first | rw [xs_0 (Int.le_antisymm (by omega -splitDisjunctions) (by omega -splitDisjunctions))] | rw [xs_1 (by omega -splitDisjunctions)] | rw [if_pos (Int.le_antisymm (by omega -splitDisjunctions) (by omega -splitDisjunctions))] | rw [if_pos (by omega -splitDisjunctions)] | rw [if_pos (And.intro (by omega -splitDisjunctions) (by omega -splitDisjunctions))] | rw [if_neg (by omega -splitDisjunctions)] | rw [xs_1 (by omega)] | rw [if_neg (by omega)] | rw [xs_0 (by omega)] | rw [if_pos (by omega)]
                first | done | rfl | assumption | (exfalso; omega -splitDisjunctions) | (refine Prod.ext ?_ (Prod.ext ?_ ?_) <;> (try dsimp only) <;> omega) | (exfalso; omega)
              have o1386a : ((xl5 B n q d)).1 = 0 := by rw [o1386]
              have o1386b : ((xl5 B n q d)).2.1 = (xN B n q) := by rw [o1386]
              have o1386c : ((xl5 B n q d)).2.2 = (xN B n (xN B n ((xN B n ((xN B n q)))))) := by rw [o1386]
              have _l := @xdst_v B n (xN B n q) d (by omega) (by omega) (by omega)
              have h1387 : RC T H1372 r0 B n (xN B n (xN B n ((xN B n ((xN B n q)))))) := (RC_fr w1365 g0 ((wfr.rf (l := [(42, 16)])).put' e1373 g0 rfl) rfl (RC_fr w1334 g0 ((wfr.rf (l := [(67, 999)])).put' e1364 g1305 rfl) rfl a1344))
              have h1388 : MA9 T H1372 rp (d 1) := (MA9_fr w1365 grp ((wfr.rf (l := [(42, 16)])).put' e1373 g0 rfl) rfl (MA9_fr w1334 grp ((wfr.rf (l := [(67, 999)])).put' e1364 g1305 rfl) rfl (MA9_fr w1320 grp f1335 rfl (MA9_fr w1283 grp f1321 rfl (MA9_fr w1268 grp f1284 rfl (MA9_fr hW grp f1269 rfl h1243))))))
              have h1389 : MA10 T H1372 rp (d 2) := (MA10_fr w1365 grp ((wfr.rf (l := [(42, 16)])).put' e1373 g0 rfl) rfl (MA10_fr w1334 grp ((wfr.rf (l := [(67, 999)])).put' e1364 g1305 rfl) rfl (MA10_fr w1320 grp f1335 rfl (MA10_fr w1283 grp f1321 rfl (MA10_fr w1268 grp f1284 rfl (MA10_fr hW grp f1269 rfl h1244))))))
              have h1390 : MA11 T H1372 rp (d 3) := (MA11_fr w1365 grp ((wfr.rf (l := [(42, 16)])).put' e1373 g0 rfl) rfl (MA11_fr w1334 grp ((wfr.rf (l := [(67, 999)])).put' e1364 g1305 rfl) rfl (MA11_fr w1320 grp f1335 rfl (MA11_fr w1283 grp f1321 rfl (MA11_fr w1268 grp f1284 rfl (MA11_fr hW grp f1269 rfl h1245))))))
              have h1391 : MA12 T H1372 rp (d 4) := (MA12_fr w1365 grp ((wfr.rf (l := [(42, 16)])).put' e1373 g0 rfl) rfl (MA12_fr w1334 grp ((wfr.rf (l := [(67, 999)])).put' e1364 g1305 rfl) rfl (MA12_fr w1320 grp f1335 rfl (MA12_fr w1283 grp f1321 rfl (MA12_fr w1268 grp f1284 rfl (MA12_fr hW grp f1269 rfl h1246))))))
              have h1392 : MA13 T H1372 rp (d 5) := (MA13_fr w1365 grp ((wfr.rf (l := [(42, 16)])).put' e1373 g0 rfl) rfl (MA13_fr w1334 grp ((wfr.rf (l := [(67, 999)])).put' e1364 g1305 rfl) rfl (MA13_fr w1320 grp f1335 rfl (MA13_fr w1283 grp f1321 rfl (MA13_fr w1268 grp f1284 rfl (MA13_fr hW grp f1269 rfl h1247))))))
              have h1393 : MA14 T H1372 rp (d 6) := (MA14_fr w1365 grp ((wfr.rf (l := [(42, 16)])).put' e1373 g0 rfl) rfl (MA14_fr w1334 grp ((wfr.rf (l := [(67, 999)])).put' e1364 g1305 rfl) rfl (MA14_fr w1320 grp f1335 rfl (MA14_fr w1283 grp f1321 rfl (MA14_fr w1268 grp f1284 rfl (MA14_fr hW grp f1269 rfl h1248))))))
              have h1394 : MA15 T H1372 rp (d 7) := (MA15_fr w1365 grp ((wfr.rf (l := [(42, 16)])).put' e1373 g0 rfl) rfl (MA15_fr w1334 grp ((wfr.rf (l := [(67, 999)])).put' e1364 g1305 rfl) rfl (MA15_fr w1320 grp f1335 rfl (MA15_fr w1283 grp f1321 rfl (MA15_fr w1268 grp f1284 rfl (MA15_fr hW grp f1269 rfl h1249))))))
              have h1395 : MA16 T H1372 rp (d 8) := (MA16_fr w1365 grp ((wfr.rf (l := [(42, 16)])).put' e1373 g0 rfl) rfl (MA16_fr w1334 grp ((wfr.rf (l := [(67, 999)])).put' e1364 g1305 rfl) rfl (MA16_fr w1320 grp f1335 rfl (MA16_fr w1283 grp f1321 rfl (MA16_fr w1268 grp f1284 rfl (MA16_fr hW grp f1269 rfl h1250))))))
              have h1396 : MA17 T H1372 rp (d 9) := (MA17_fr w1365 grp ((wfr.rf (l := [(42, 16)])).put' e1373 g0 rfl) rfl (MA17_fr w1334 grp ((wfr.rf (l := [(67, 999)])).put' e1364 g1305 rfl) rfl (MA17_fr w1320 grp f1335 rfl (MA17_fr w1283 grp f1321 rfl (MA17_fr w1268 grp f1284 rfl (MA17_fr hW grp f1269 rfl h1251))))))
              have h1397 : MA18 T H1372 rp (d 10) := (MA18_fr w1365 grp ((wfr.rf (l := [(42, 16)])).put' e1373 g0 rfl) rfl (MA18_fr w1334 grp ((wfr.rf (l := [(67, 999)])).put' e1364 g1305 rfl) rfl (MA18_fr w1320 grp f1335 rfl (MA18_fr w1283 grp f1321 rfl (MA18_fr w1268 grp f1284 rfl (MA18_fr hW grp f1269 rfl h1252))))))
              have h1398 : MA19 T H1372 rp (d 11) := (MA19_fr w1365 grp ((wfr.rf (l := [(42, 16)])).put' e1373 g0 rfl) rfl (MA19_fr w1334 grp ((wfr.rf (l := [(67, 999)])).put' e1364 g1305 rfl) rfl (MA19_fr w1320 grp f1335 rfl (MA19_fr w1283 grp f1321 rfl (MA19_fr w1268 grp f1284 rfl (MA19_fr hW grp f1269 rfl h1253))))))
              have h1399 : MA20 T H1372 rp (d 12) := (MA20_fr w1365 grp ((wfr.rf (l := [(42, 16)])).put' e1373 g0 rfl) rfl (MA20_fr w1334 grp ((wfr.rf (l := [(67, 999)])).put' e1364 g1305 rfl) rfl (MA20_fr w1320 grp f1335 rfl (MA20_fr w1283 grp f1321 rfl (MA20_fr w1268 grp f1284 rfl (MA20_fr hW grp f1269 rfl h1254))))))
              have h1400 : MA21 T H1372 rp (xdst B n (xN B n q) d 13) := (MA21_fr w1365 grp ((wfr.rf (l := [(42, 16)])).put' e1373 g0 rfl) rfl h1367)
              have h1401 : MA22 T H1372 rp (d 14) := (MA22_fr w1365 grp ((wfr.rf (l := [(42, 16)])).put' e1373 g0 rfl) rfl (MA22_fr w1334 grp ((wfr.rf (l := [(67, 999)])).put' e1364 g1305 rfl) rfl (MA22_fr w1320 grp f1335 rfl (MA22_fr w1283 grp f1321 rfl (MA22_fr w1268 grp f1284 rfl (MA22_fr hW grp f1269 rfl h1256))))))
              have h1402 : MA23 T H1372 rp (d 15) := (MA23_fr w1365 grp ((wfr.rf (l := [(42, 16)])).put' e1373 g0 rfl) rfl (MA23_fr w1334 grp ((wfr.rf (l := [(67, 999)])).put' e1364 g1305 rfl) rfl (MA23_fr w1320 grp f1335 rfl (MA23_fr w1283 grp f1321 rfl (MA23_fr w1268 grp f1284 rfl (MA23_fr hW grp f1269 rfl h1257))))))
              have h1403 : MA25 T H1372 rp (d 17) := (MA25_fr w1365 grp ((wfr.rf (l := [(42, 16)])).put' e1373 g0 rfl) rfl (MA25_fr w1334 grp ((wfr.rf (l := [(67, 999)])).put' e1364 g1305 rfl) rfl (MA25_fr w1320 grp f1335 rfl (MA25_fr w1283 grp f1321 rfl (MA25_fr w1268 grp f1284 rfl (MA25_fr hW grp f1269 rfl h1258))))))
              have h1404 : MA26 T H1372 rp (d 16) := (MA26_fr w1365 grp ((wfr.rf (l := [(42, 16)])).put' e1373 g0 rfl) rfl (MA26_fr w1334 grp ((wfr.rf (l := [(67, 999)])).put' e1364 g1305 rfl) rfl (MA26_fr w1320 grp f1335 rfl (MA26_fr w1283 grp f1321 rfl (MA26_fr w1268 grp f1284 rfl (MA26_fr hW grp f1269 rfl h1259))))))
              have h1405 : FZ T H1372 rp N0 H0 := (FZ_fr w1365 grp ((wfr.rf (l := [(42, 16)])).put' e1373 g0 rfl) rfl h1368)
              exact wp_return e199 c199_89 rfl ⟨rfl, w1374, f1375, rfl, (Or.inl ⟨by omega, by omega, by omega, h1387, DM_mk hDM_rp.1 ⟨by omega, by omega, by omega, by omega, by omega, by omega, by omega, by omega, by omega, by omega, by omega, by omega⟩ (xdP_cg hDM_rp.2.2.1 (fun i h1 h2 => by unfold xdst; rw [wq_u_row (by omega)])) h1388 h1389 h1390 h1391 h1392 h1393 h1394 h1395 h1396 h1397 h1398 h1399 h1400 h1401 h1402 h1403 h1404 ⟨(by unfold xdst; rw [wq_u_row (by decide)]), (by unfold xdst; rw [wq_u_row (by decide)]), (by unfold xdst; rw [wq_u_row (by decide)]), (by unfold xdst; rw [wq_u_row (by decide)]), (by unfold xdst; rw [wq_u_row (by decide)]), (by unfold xdst; rw [wq_u_row (by decide)]), (by unfold xdst; rw [wq_u_row (by decide)]), (by unfold xdst; rw [wq_u_row (by decide)]), (by unfold xdst; rw [wq_u_row (by decide)]), (by unfold xdst; rw [wq_u_row (by decide)]), (by unfold xdst; rw [wq_u_row (by decide)]), (by unfold xdst; rw [wq_u_row (by decide)]), rfl, (by unfold xdst; rw [wq_u_row (by decide)]), (by unfold xdst; rw [wq_u_row (by decide)]), (by unfold xdst; rw [wq_u_row (by decide)]), (by unfold xdst; rw [wq_u_row (by decide)])⟩, h1405⟩)⟩
            · exfalso
              omega
          · have f1406 := f1324.tr f1335 rfl
            show wp _ _ 199 57 [(1, vI z1285), (0, .ref r0)] [vI z1336] _ H1330 _
            have u1407 := RO_k a1347
            refine wp_of e199 c199_57 (rw_istore_n (pc' := 58) (z := z1336) (L' := [(2, vI z1336), (1, vI z1285), (0, .ref r0)]) rfl rfl rfl ?_)
            refine wp_of e199 c199_58 (rw_aload_n (pc' := 59) (v := .ref r0) rfl rfl rfl ?_)
            refine wp_of e199 c199_59 (xg_I (pc' := 62) lf_9_75 w1334 g0 sh_42 (by decide) (by decide) ty_42_9 rfl rfl (fun b1408 b1409 => ?_))
            refine wp_of e199 c199_62 (rw_iconst (pc' := 63) rfl ?_)
            refine wp_of e199 c199_63 (rw_icmp_ne (p1 := 67) (p2 := 66) (by decide) rfl ⟨Int.le_trans (by decide) b1408, Int.le_trans b1409 (by decide)⟩ ⟨by decide, by decide⟩ (fun c1410 => ?_) (fun c1410 => ?_))
            · exfalso
              omega
            · have o1411 : (xl5 B n q d) = (xw B n ((xN B n ((xN B n q)))) 307, ((xN B n ((xN B n q)))), ((xN B n ((xN B n q))))) := by
                unfold xl5 xst
                repeat first | rw [xs_0 (Int.le_antisymm (by omega -splitDisjunctions) (by omega -splitDisjunctions))] | rw [xs_1 (by omega -splitDisjunctions)] | rw [if_pos (Int.le_antisymm (by omega -splitDisjunctions) (by omega -splitDisjunctions))] | rw [if_pos (by omega -splitDisjunctions)] | rw [if_pos (And.intro (by omega -splitDisjunctions) (by omega -splitDisjunctions))] | rw [if_neg (by omega -splitDisjunctions)] | rw [xs_1 (by omega)] | rw [if_neg (by omega)] | rw [xs_0 (by omega)] | rw [if_pos (by omega)]
                first | done | rfl | assumption | (exfalso; omega -splitDisjunctions) | (refine Prod.ext ?_ (Prod.ext ?_ ?_) <;> (try dsimp only) <;> omega) | (exfalso; omega)
              have o1411a : ((xl5 B n q d)).1 = xw B n ((xN B n ((xN B n q)))) 307 := by rw [o1411]
              have o1411b : ((xl5 B n q d)).2.1 = ((xN B n ((xN B n q)))) := by rw [o1411]
              have o1411c : ((xl5 B n q d)).2.2 = ((xN B n ((xN B n q)))) := by rw [o1411]
              have h1412 : FZ T H1330 rp N0 H0 := (FZ_fr w1320 grp f1335 rfl (FZ_fr w1283 grp f1321 rfl (FZ_fr w1268 grp f1284 rfl (FZ_fr hW grp f1269 rfl hFZ_rp))))
              exact wp_return e199 c199_66 rfl ⟨rfl, w1334, f1406, rfl, (Or.inr ⟨by omega, RO_eq a1347 (by omega) (by omega), h1412⟩)⟩
          · have f1413 := f1324.tr f1335 rfl
            show wp _ _ 199 57 [(1, vI z1285), (0, .ref r0)] [vI z1336] _ H1330 _
            have u1414 := RO_k a1351
            refine wp_of e199 c199_57 (rw_istore_n (pc' := 58) (z := z1336) (L' := [(2, vI z1336), (1, vI z1285), (0, .ref r0)]) rfl rfl rfl ?_)
            refine wp_of e199 c199_58 (rw_aload_n (pc' := 59) (v := .ref r0) rfl rfl rfl ?_)
            refine wp_of e199 c199_59 (xg_I (pc' := 62) lf_9_75 w1334 g0 sh_42 (by decide) (by decide) ty_42_9 rfl rfl (fun b1415 b1416 => ?_))
            refine wp_of e199 c199_62 (rw_iconst (pc' := 63) rfl ?_)
            refine wp_of e199 c199_63 (rw_icmp_ne (p1 := 67) (p2 := 66) (by decide) rfl ⟨Int.le_trans (by decide) b1415, Int.le_trans b1416 (by decide)⟩ ⟨by decide, by decide⟩ (fun c1417 => ?_) (fun c1417 => ?_))
            · exfalso
              omega
            · have o1418 : (xl5 B n q d) = (xh B n (xN B n ((xN B n ((xN B n q))))) 0 99, (xN B n ((xN B n ((xN B n q))))), (xN B n ((xN B n ((xN B n q)))))) := by
                unfold xl5 xst
                repeat first | rw [xs_0 (Int.le_antisymm (by omega -splitDisjunctions) (by omega -splitDisjunctions))] | rw [xs_1 (by omega -splitDisjunctions)] | rw [if_pos (Int.le_antisymm (by omega -splitDisjunctions) (by omega -splitDisjunctions))] | rw [if_pos (by omega -splitDisjunctions)] | rw [if_pos (And.intro (by omega -splitDisjunctions) (by omega -splitDisjunctions))] | rw [if_neg (by omega -splitDisjunctions)] | rw [xs_1 (by omega)] | rw [if_neg (by omega)] | rw [xs_0 (by omega)] | rw [if_pos (by omega)]
                first | done | rfl | assumption | (exfalso; omega -splitDisjunctions) | (refine Prod.ext ?_ (Prod.ext ?_ ?_) <;> (try dsimp only) <;> omega) | (exfalso; omega)
              have o1418a : ((xl5 B n q d)).1 = xh B n (xN B n ((xN B n ((xN B n q))))) 0 99 := by rw [o1418]
              have o1418b : ((xl5 B n q d)).2.1 = (xN B n ((xN B n ((xN B n q))))) := by rw [o1418]
              have o1418c : ((xl5 B n q d)).2.2 = (xN B n ((xN B n ((xN B n q))))) := by rw [o1418]
              have h1419 : FZ T H1330 rp N0 H0 := (FZ_fr w1320 grp f1335 rfl (FZ_fr w1283 grp f1321 rfl (FZ_fr w1268 grp f1284 rfl (FZ_fr hW grp f1269 rfl hFZ_rp))))
              exact wp_return e199 c199_66 rfl ⟨rfl, w1334, f1413, rfl, (Or.inr ⟨by omega, RO_eq a1351 (by omega) (by omega), h1419⟩)⟩
        · refine wp_of e199 c199_38 (rw_aload_n (pc' := 39) (v := .ref r0) rfl rfl rfl ?_)
          refine wp_of e199 c199_39 (rw_iconst (pc' := 40) rfl ?_)
          refine wp_of e199 c199_40 (xc_V (pc' := 43) (r := r0) (as := [vI 3]) (st := []) (lm_9_121) rfl rfl (Nat.le_of_ble_eq_true rfl) w1283 g0 sh_42 (by decide) rfl (by decide) (u_181_k (B := B) (n := n) (q := ((xN B n q))) w1283 g0 ⟨by decide, by decide⟩ (by omega) a1292) (fun R1420 T1421 H1422 p1423 => ?_))
          obtain ⟨e1424, w1426, f1427, e1425, p1428⟩ := p1423
          subst e1424
          subst e1425
          have f1430 := f1296.tr f1427 rfl
          show wp _ _ 199 43 [(1, vI z1285), (0, .ref r0)] [] _ H1422 _
          have u1431 := RO_k p1428
          refine wp_of e199 c199_43 (rw_aload_n (pc' := 44) (v := .ref r0) rfl rfl rfl ?_)
          refine wp_of e199 c199_44 (xc_V (pc' := 47) (r := r0) (as := []) (st := []) (lm_9_118) rfl rfl (Nat.le_of_ble_eq_true rfl) w1426 g0 sh_42 (by decide) rfl (by decide) (u_172_o (fo := 3) (po := (((xN B n q)))) w1426 g0 p1428) (fun R1432 T1433 H1434 p1435 => ?_))
          obtain ⟨e1436, e1438, e1437, p1439⟩ := p1435
          subst e1436
          subst e1437
          subst e1438
          show wp _ _ 199 47 [(1, vI z1285), (0, .ref r0)] [] _ H1422 _
          have u1441 := RO_k p1439
          refine wp_of e199 c199_47 (rw_aload_n (pc' := 48) (v := .ref r0) rfl rfl rfl ?_)
          refine wp_of e199 c199_48 (rw_ldc_wS (pc' := 51) (k := 89) rfl rfl rfl rfl ?_)
          refine wp_of e199 c199_51 (rw_iconst (pc' := 52) rfl ?_)
          refine wp_of e199 c199_52 (rw_bipush (pc' := 54) (z := 99) rfl (by decide) ?_)
          have k1442 : H1422 r0 5 = H r0 5 := ((f1427 r0 5 _ g0 rfl).trans ((f1284 r0 5 _ g0 rfl).trans (f1269 r0 5 _ g0 rfl)))
          have q1443 : H1422 r0 5 = (rb : Int) := k1442.trans qrb
          refine wp_of e199 c199_54 (xc_V (pc' := 57) (r := r0) (as := [.ref 89, vI 0, vI 99]) (st := []) (lm_9_216) rfl rfl (Nat.le_of_ble_eq_true rfl) w1426 g0 sh_42 (by decide) rfl (by decide) (u_182_o (fo := 3) (po := (((xN B n q)))) (kk := 307) w1426 g0 rfl ⟨by decide, by decide⟩ ⟨by decide, by decide⟩ q1443 grb (by decide +kernel) p1439) (fun R1444 T1445 H1446 p1447 => ?_))
          obtain ⟨e1448, e1450, z1451, e1449, b1452, p1453⟩ := p1447
          subst e1448
          subst e1449
          subst e1450
          obtain ⟨a1454, a1455⟩ := p1453
          show wp _ _ 199 57 [(1, vI z1285), (0, .ref r0)] [vI z1451] _ H1422 _
          have u1456 := RO_k a1455
          refine wp_of e199 c199_57 (rw_istore_n (pc' := 58) (z := z1451) (L' := [(2, vI z1451), (1, vI z1285), (0, .ref r0)]) rfl rfl rfl ?_)
          refine wp_of e199 c199_58 (rw_aload_n (pc' := 59) (v := .ref r0) rfl rfl rfl ?_)
          refine wp_of e199 c199_59 (xg_I (pc' := 62) lf_9_75 w1426 g0 sh_42 (by decide) (by decide) ty_42_9 rfl rfl (fun b1457 b1458 => ?_))
          refine wp_of e199 c199_62 (rw_iconst (pc' := 63) rfl ?_)
          refine wp_of e199 c199_63 (rw_icmp_ne (p1 := 67) (p2 := 66) (by decide) rfl ⟨Int.le_trans (by decide) b1457, Int.le_trans b1458 (by decide)⟩ ⟨by decide, by decide⟩ (fun c1459 => ?_) (fun c1459 => ?_))
          · exfalso
            omega
          · have o1460 : (xl5 B n q d) = (xsh B n (xN B n q) d, (xN B n q), (xN B n q)) := by
              unfold xl5 xst
              repeat first | rw [xs_0 (Int.le_antisymm (by omega -splitDisjunctions) (by omega -splitDisjunctions))] | rw [xs_1 (by omega -splitDisjunctions)] | rw [if_pos (Int.le_antisymm (by omega -splitDisjunctions) (by omega -splitDisjunctions))] | rw [if_pos (by omega -splitDisjunctions)] | rw [if_pos (And.intro (by omega -splitDisjunctions) (by omega -splitDisjunctions))] | rw [if_neg (by omega -splitDisjunctions)] | rw [xs_1 (by omega)] | rw [if_neg (by omega)] | rw [xs_0 (by omega)] | rw [if_pos (by omega)]
              first | done | rfl | assumption | (exfalso; omega -splitDisjunctions) | (refine Prod.ext ?_ (Prod.ext ?_ ?_) <;> (try dsimp only) <;> omega) | (exfalso; omega)
            have o1460a : ((xl5 B n q d)).1 = xsh B n (xN B n q) d := by rw [o1460]
            have o1460b : ((xl5 B n q d)).2.1 = (xN B n q) := by rw [o1460]
            have o1460c : ((xl5 B n q d)).2.2 = (xN B n q) := by rw [o1460]
            have h1461 : FZ T H1422 rp N0 H0 := (FZ_fr w1283 grp f1427 rfl (FZ_fr w1268 grp f1284 rfl (FZ_fr hW grp f1269 rfl hFZ_rp)))
            exact wp_return e199 c199_66 rfl ⟨rfl, w1426, f1430, rfl, (Or.inr ⟨by omega, RO_eq a1455 (by omega) (by omega), h1461⟩)⟩
    · have f1462 := f1275.tr f1284 rfl
      show wp _ _ 199 17 [(0, .ref r0)] [vI z1285] _ H1279 _
      have u1463 := RO_k a1295
      refine wp_of e199 c199_17 (rw_istore_n (pc' := 18) (z := z1285) (L' := [(1, vI z1285), (0, .ref r0)]) rfl rfl rfl ?_)
      refine wp_of e199 c199_18 (rw_aload_n (pc' := 19) (v := .ref r0) rfl rfl rfl ?_)
      refine wp_of e199 c199_19 (xg_I (pc' := 22) lf_9_75 w1283 g0 sh_42 (by decide) (by decide) ty_42_9 rfl rfl (fun b1464 b1465 => ?_))
      refine wp_of e199 c199_22 (rw_iconst (pc' := 23) rfl ?_)
      refine wp_of e199 c199_23 (rw_icmp_eq (p1 := 43) (p2 := 26) (by decide) rfl ⟨Int.le_trans (by decide) b1464, Int.le_trans b1465 (by decide)⟩ ⟨by decide, by decide⟩ (fun c1466 => ?_) (fun c1466 => ?_))
      · refine wp_of e199 c199_43 (rw_aload_n (pc' := 44) (v := .ref r0) rfl rfl rfl ?_)
        refine wp_of e199 c199_44 (xc_V (pc' := 47) (r := r0) (as := []) (st := []) (lm_9_118) rfl rfl (Nat.le_of_ble_eq_true rfl) w1283 g0 sh_42 (by decide) rfl (by decide) (u_172_o (fo := (xh B n ((xN B n q)) 0 23)) (po := (((xN B n q)))) w1283 g0 a1295) (fun R1467 T1468 H1469 p1470 => ?_))
        obtain ⟨e1471, e1473, e1472, p1474⟩ := p1470
        subst e1471
        subst e1472
        subst e1473
        show wp _ _ 199 47 [(1, vI z1285), (0, .ref r0)] [] _ H1279 _
        have u1476 := RO_k p1474
        refine wp_of e199 c199_47 (rw_aload_n (pc' := 48) (v := .ref r0) rfl rfl rfl ?_)
        refine wp_of e199 c199_48 (rw_ldc_wS (pc' := 51) (k := 89) rfl rfl rfl rfl ?_)
        refine wp_of e199 c199_51 (rw_iconst (pc' := 52) rfl ?_)
        refine wp_of e199 c199_52 (rw_bipush (pc' := 54) (z := 99) rfl (by decide) ?_)
        have k1477 : H1279 r0 5 = H r0 5 := ((f1284 r0 5 _ g0 rfl).trans (f1269 r0 5 _ g0 rfl))
        have q1478 : H1279 r0 5 = (rb : Int) := k1477.trans qrb
        refine wp_of e199 c199_54 (xc_V (pc' := 57) (r := r0) (as := [.ref 89, vI 0, vI 99]) (st := []) (lm_9_216) rfl rfl (Nat.le_of_ble_eq_true rfl) w1283 g0 sh_42 (by decide) rfl (by decide) (u_182_o (fo := (xh B n ((xN B n q)) 0 23)) (po := (((xN B n q)))) (kk := 307) w1283 g0 rfl ⟨by decide, by decide⟩ ⟨by decide, by decide⟩ q1478 grb (by decide +kernel) p1474) (fun R1479 T1480 H1481 p1482 => ?_))
        obtain ⟨e1483, e1485, z1486, e1484, b1487, p1488⟩ := p1482
        subst e1483
        subst e1484
        subst e1485
        obtain ⟨a1489, a1490⟩ := p1488
        show wp _ _ 199 57 [(1, vI z1285), (0, .ref r0)] [vI z1486] _ H1279 _
        have u1491 := RO_k a1490
        refine wp_of e199 c199_57 (rw_istore_n (pc' := 58) (z := z1486) (L' := [(2, vI z1486), (1, vI z1285), (0, .ref r0)]) rfl rfl rfl ?_)
        refine wp_of e199 c199_58 (rw_aload_n (pc' := 59) (v := .ref r0) rfl rfl rfl ?_)
        refine wp_of e199 c199_59 (xg_I (pc' := 62) lf_9_75 w1283 g0 sh_42 (by decide) (by decide) ty_42_9 rfl rfl (fun b1492 b1493 => ?_))
        refine wp_of e199 c199_62 (rw_iconst (pc' := 63) rfl ?_)
        refine wp_of e199 c199_63 (rw_icmp_ne (p1 := 67) (p2 := 66) (by decide) rfl ⟨Int.le_trans (by decide) b1492, Int.le_trans b1493 (by decide)⟩ ⟨by decide, by decide⟩ (fun c1494 => ?_) (fun c1494 => ?_))
        · exfalso
          omega
        · have o1495 : (xl5 B n q d) = (xsh B n (xN B n q) d, (xN B n q), (xN B n q)) := by
            unfold xl5 xst
            repeat first | rw [xs_0 (Int.le_antisymm (by omega -splitDisjunctions) (by omega -splitDisjunctions))] | rw [xs_1 (by omega -splitDisjunctions)] | rw [if_pos (Int.le_antisymm (by omega -splitDisjunctions) (by omega -splitDisjunctions))] | rw [if_pos (by omega -splitDisjunctions)] | rw [if_pos (And.intro (by omega -splitDisjunctions) (by omega -splitDisjunctions))] | rw [if_neg (by omega -splitDisjunctions)] | rw [xs_1 (by omega)] | rw [if_neg (by omega)] | rw [xs_0 (by omega)] | rw [if_pos (by omega)]
            first | done | rfl | assumption | (exfalso; omega -splitDisjunctions) | (refine Prod.ext ?_ (Prod.ext ?_ ?_) <;> (try dsimp only) <;> omega) | (exfalso; omega)
          have o1495a : ((xl5 B n q d)).1 = xsh B n (xN B n q) d := by rw [o1495]
          have o1495b : ((xl5 B n q d)).2.1 = (xN B n q) := by rw [o1495]
          have o1495c : ((xl5 B n q d)).2.2 = (xN B n q) := by rw [o1495]
          have h1496 : FZ T H1279 rp N0 H0 := (FZ_fr w1268 grp f1284 rfl (FZ_fr hW grp f1269 rfl hFZ_rp))
          exact wp_return e199 c199_66 rfl ⟨rfl, w1283, f1462, rfl, (Or.inr ⟨by omega, RO_eq a1490 (by omega) (by omega), h1496⟩)⟩
      · exfalso
        omega
  · have f1497 := f0.tr f1269 rfl
    show wp _ _ 199 10 [(0, .ref r0)] [] _ H1264 _
    have u1498 := RO_k a1274
    refine wp_of e199 c199_10 (rw_aload_n (pc' := 11) (v := .ref r0) rfl rfl rfl ?_)
    refine wp_of e199 c199_11 (rw_iconst (pc' := 12) rfl ?_)
    refine wp_of e199 c199_12 (rw_bipush (pc' := 14) (z := 23) rfl (by decide) ?_)
    refine wp_of e199 c199_14 (xc_V (pc' := 17) (r := r0) (as := [vI 0, vI 23]) (st := []) (lm_9_129) rfl rfl (Nat.le_of_ble_eq_true rfl) w1268 g0 sh_42 (by decide) rfl (by decide) (u_185_o (fo := 5) (po := q) w1268 g0 ⟨by decide, by decide⟩ ⟨by decide, by decide⟩ a1274) (fun R1499 T1500 H1501 p1502 => ?_))
    obtain ⟨e1503, e1505, z1506, e1504, b1507, p1508⟩ := p1502
    subst e1503
    subst e1504
    subst e1505
    obtain ⟨a1509, a1510⟩ := p1508
    show wp _ _ 199 17 [(0, .ref r0)] [vI z1506] _ H1264 _
    have u1511 := RO_k a1510
    refine wp_of e199 c199_17 (rw_istore_n (pc' := 18) (z := z1506) (L' := [(1, vI z1506), (0, .ref r0)]) rfl rfl rfl ?_)
    refine wp_of e199 c199_18 (rw_aload_n (pc' := 19) (v := .ref r0) rfl rfl rfl ?_)
    refine wp_of e199 c199_19 (xg_I (pc' := 22) lf_9_75 w1268 g0 sh_42 (by decide) (by decide) ty_42_9 rfl rfl (fun b1512 b1513 => ?_))
    refine wp_of e199 c199_22 (rw_iconst (pc' := 23) rfl ?_)
    refine wp_of e199 c199_23 (rw_icmp_eq (p1 := 43) (p2 := 26) (by decide) rfl ⟨Int.le_trans (by decide) b1512, Int.le_trans b1513 (by decide)⟩ ⟨by decide, by decide⟩ (fun c1514 => ?_) (fun c1514 => ?_))
    · refine wp_of e199 c199_43 (rw_aload_n (pc' := 44) (v := .ref r0) rfl rfl rfl ?_)
      refine wp_of e199 c199_44 (xc_V (pc' := 47) (r := r0) (as := []) (st := []) (lm_9_118) rfl rfl (Nat.le_of_ble_eq_true rfl) w1268 g0 sh_42 (by decide) rfl (by decide) (u_172_o (fo := 5) (po := q) w1268 g0 a1510) (fun R1515 T1516 H1517 p1518 => ?_))
      obtain ⟨e1519, e1521, e1520, p1522⟩ := p1518
      subst e1519
      subst e1520
      subst e1521
      show wp _ _ 199 47 [(1, vI z1506), (0, .ref r0)] [] _ H1264 _
      have u1524 := RO_k p1522
      refine wp_of e199 c199_47 (rw_aload_n (pc' := 48) (v := .ref r0) rfl rfl rfl ?_)
      refine wp_of e199 c199_48 (rw_ldc_wS (pc' := 51) (k := 89) rfl rfl rfl rfl ?_)
      refine wp_of e199 c199_51 (rw_iconst (pc' := 52) rfl ?_)
      refine wp_of e199 c199_52 (rw_bipush (pc' := 54) (z := 99) rfl (by decide) ?_)
      have k1525 : H1264 r0 5 = H r0 5 := (f1269 r0 5 _ g0 rfl)
      have q1526 : H1264 r0 5 = (rb : Int) := k1525.trans qrb
      refine wp_of e199 c199_54 (xc_V (pc' := 57) (r := r0) (as := [.ref 89, vI 0, vI 99]) (st := []) (lm_9_216) rfl rfl (Nat.le_of_ble_eq_true rfl) w1268 g0 sh_42 (by decide) rfl (by decide) (u_182_o (fo := 5) (po := q) (kk := 307) w1268 g0 rfl ⟨by decide, by decide⟩ ⟨by decide, by decide⟩ q1526 grb (by decide +kernel) p1522) (fun R1527 T1528 H1529 p1530 => ?_))
      obtain ⟨e1531, e1533, z1534, e1532, b1535, p1536⟩ := p1530
      subst e1531
      subst e1532
      subst e1533
      obtain ⟨a1537, a1538⟩ := p1536
      show wp _ _ 199 57 [(1, vI z1506), (0, .ref r0)] [vI z1534] _ H1264 _
      have u1539 := RO_k a1538
      refine wp_of e199 c199_57 (rw_istore_n (pc' := 58) (z := z1534) (L' := [(2, vI z1534), (1, vI z1506), (0, .ref r0)]) rfl rfl rfl ?_)
      refine wp_of e199 c199_58 (rw_aload_n (pc' := 59) (v := .ref r0) rfl rfl rfl ?_)
      refine wp_of e199 c199_59 (xg_I (pc' := 62) lf_9_75 w1268 g0 sh_42 (by decide) (by decide) ty_42_9 rfl rfl (fun b1540 b1541 => ?_))
      refine wp_of e199 c199_62 (rw_iconst (pc' := 63) rfl ?_)
      refine wp_of e199 c199_63 (rw_icmp_ne (p1 := 67) (p2 := 66) (by decide) rfl ⟨Int.le_trans (by decide) b1540, Int.le_trans b1541 (by decide)⟩ ⟨by decide, by decide⟩ (fun c1542 => ?_) (fun c1542 => ?_))
      · exfalso
        omega
      · have o1543 : (xl5 B n q d) = (5, q, q) := by
          unfold xl5 xst
          repeat first | rw [xs_0 (Int.le_antisymm (by omega -splitDisjunctions) (by omega -splitDisjunctions))] | rw [xs_1 (by omega -splitDisjunctions)] | rw [if_pos (Int.le_antisymm (by omega -splitDisjunctions) (by omega -splitDisjunctions))] | rw [if_pos (by omega -splitDisjunctions)] | rw [if_pos (And.intro (by omega -splitDisjunctions) (by omega -splitDisjunctions))] | rw [if_neg (by omega -splitDisjunctions)] | rw [xs_1 (by omega)] | rw [if_neg (by omega)] | rw [xs_0 (by omega)] | rw [if_pos (by omega)]
          first | done | rfl | assumption | (exfalso; omega -splitDisjunctions) | (refine Prod.ext ?_ (Prod.ext ?_ ?_) <;> (try dsimp only) <;> omega) | (exfalso; omega)
        have o1543a : ((xl5 B n q d)).1 = 5 := by rw [o1543]
        have o1543b : ((xl5 B n q d)).2.1 = q := by rw [o1543]
        have o1543c : ((xl5 B n q d)).2.2 = q := by rw [o1543]
        have h1544 : FZ T H1264 rp N0 H0 := (FZ_fr hW grp f1269 rfl hFZ_rp)
        exact wp_return e199 c199_66 rfl ⟨rfl, w1268, f1497, rfl, (Or.inr ⟨by omega, RO_eq a1538 (by omega) (by omega), h1544⟩)⟩
    · exfalso
      omega
/-! StrikeAwakeModel.readApart()V k -/
abbrev uq_196_k (r0 : Nat) (rp : Nat) (rb : Nat) (B : Nat → Int) (n : Int) (q : Int) (d : xD) (N0 : Nat) (H0 : wq_H) (T : wq_T) (H : wq_H) : Option Value → wq_T → wq_H → Prop := fun r T' H' => T = T' ∧ WT T H' ∧ wfr [(54, 4), (42, 8), (42, 9), (42, 10), (42, 11), (42, 12), (42, 13), (42, 14), (42, 15), (64, 999), (65, 999)] T H H' ∧ none = r ∧ ((((xl3 B n q d).1 = 0) ∧ ((xl3 B n q d).2.2 = (xN B n (xN B n (xN B n (xN B n q))))) ∧ (q ≤ (xN B n (xN B n (xN B n (xN B n q))))) ∧ RC T H' r0 B n (xN B n (xN B n (xN B n (xN B n q)))) ∧ DM T H' rp r0 (xdap B n (xN B n q) d) ∧ FZ T H' rp N0 H0) ∨ (((xl3 B n q d).1 ≠ 0) ∧ RO T H' r0 ((xl3 B n q d).1) ((xl3 B n q d).2.1) ∧ FZ T H' rp N0 H0))
set_option maxHeartbeats 4000000 in
theorem u_196_k_t28o {kt : Nat → Option mc_E} {T : wq_T} {H : wq_H} {r0 : Nat} {rp : Nat} {rb : Nat} {B : Nat → Int} {n : Int} {q : Int} {d : xD} {N0 : Nat} {H0 : wq_H} (hW : WT T H) (g0 : T.2.2.2 r0 = some 42) (qrp : H r0 4 = (rp : Int)) (grp : T.2.2.2 rp = some 54) (qrb : H r0 5 = (rb : Int)) (grb : T.2.2.2 rb = some 43) (p0 : xK B n q = 1) (hRC_r0 : RC T H r0 B n q) (hDM_rp : DM T H rp r0 d) (hFZ_rp : FZ T H rp N0 H0) : ∀ (v2576 : Int) (v2577 : Int) (H2578 : wq_H) (fo2582 : Int) (po2583 : Int), WT T H2578 → wfr [(42, 8), (42, 9), (42, 10), (42, 11), (42, 12), (42, 13), (42, 14), (42, 15)] T H H2578 → (0 ≤ v2576 ∧ v2576 ≤ 5) → (0 ≤ v2577 ∧ v2577 ≤ 5) → RO T H2578 r0 fo2582 po2583 → FZ T H2578 rp N0 H0 → ((xl3 B n q d).1 = fo2582) → ((xl3 B n q d).2.1 = po2583) → wp kt 5 196 28 [(0, .ref r0), (1, vI v2576), (2, vI v2577)] [] T H2578 (uq_196_k r0 rp rb B n q d N0 H0 T H) := by
  have f0 : wfr [(54, 4), (42, 8), (42, 9), (42, 10), (42, 11), (42, 12), (42, 13), (42, 14), (42, 15), (64, 999), (65, 999)] T H H := wfr.rf
  have u2557 := RC_k hRC_r0
  have u2558 := DM_k hDM_rp
  have h2559 : MA9 T H rp (d 1) := hDM_rp.2.2.2.1
  have h2560 : MA10 T H rp (d 2) := hDM_rp.2.2.2.2.1
  have h2561 : MA11 T H rp (d 3) := hDM_rp.2.2.2.2.2.1
  have h2562 : MA12 T H rp (d 4) := hDM_rp.2.2.2.2.2.2.1
  have h2563 : MA13 T H rp (d 5) := hDM_rp.2.2.2.2.2.2.2.1
  have h2564 : MA14 T H rp (d 6) := hDM_rp.2.2.2.2.2.2.2.2.1
  have h2565 : MA15 T H rp (d 7) := hDM_rp.2.2.2.2.2.2.2.2.2.1
  have h2566 : MA16 T H rp (d 8) := hDM_rp.2.2.2.2.2.2.2.2.2.2.1
  have h2567 : MA17 T H rp (d 9) := hDM_rp.2.2.2.2.2.2.2.2.2.2.2.1
  have h2568 : MA18 T H rp (d 10) := hDM_rp.2.2.2.2.2.2.2.2.2.2.2.2.1
  have h2569 : MA19 T H rp (d 11) := hDM_rp.2.2.2.2.2.2.2.2.2.2.2.2.2.1
  have h2570 : MA20 T H rp (d 12) := hDM_rp.2.2.2.2.2.2.2.2.2.2.2.2.2.2.1
  have h2571 : MA21 T H rp (d 13) := hDM_rp.2.2.2.2.2.2.2.2.2.2.2.2.2.2.2.1
  have h2572 : MA22 T H rp (d 14) := hDM_rp.2.2.2.2.2.2.2.2.2.2.2.2.2.2.2.2.1
  have h2573 : MA23 T H rp (d 15) := hDM_rp.2.2.2.2.2.2.2.2.2.2.2.2.2.2.2.2.2.1
  have h2574 : MA25 T H rp (d 17) := hDM_rp.2.2.2.2.2.2.2.2.2.2.2.2.2.2.2.2.2.2.1
  have h2575 : MA26 T H rp (d 16) := hDM_rp.2.2.2.2.2.2.2.2.2.2.2.2.2.2.2.2.2.2.2
  intro v2576 v2577 H2578 fo2582 po2583 w2579 f2580 b2584 b2585 h2586 h2587 x2588 x2589
  have f2590 : wfr [(54, 4), (42, 8), (42, 9), (42, 10), (42, 11), (42, 12), (42, 13), (42, 14), (42, 15), (64, 999), (65, 999)] T H H2578 := wfr.rf.tr f2580 rfl
  have u2591 := RO_k h2586
  have jn2594 : ∀ (v2593 : Int), (0 ≤ v2593 ∧ v2593 ≤ 1) → wp kt 5 196 39 [(3, vI v2593), (0, .ref r0), (1, vI v2576), (2, vI v2577)] [] T H2578 (uq_196_k r0 rp rb B n q d N0 H0 T H) := by
    intro v2593 b2597
    refine wp_of e196 c196_39 (rw_iconst (pc' := 40) rfl ?_)
    refine wp_of e196 c196_40 (rw_istore (pc' := 42) (z := 0) (L' := [(4, vI 0), (3, vI v2593), (0, .ref r0), (1, vI v2576), (2, vI v2577)]) rfl rfl rfl ?_)
    have lp2866 : ∀ (n2867 : Nat) (v2869 : Int) (v2870 : Int), (0 ≤ v2869 ∧ v2869 ≤ 3) → (0 ≤ v2870 ∧ v2870 ≤ 1) → (3 - v2869).toNat = n2867 → wp kt 5 196 42 [(4, vI v2869), (3, vI v2870), (0, .ref r0), (1, vI v2576), (2, vI v2577)] [] T H2578 (uq_196_k r0 rp rb B n q d N0 H0 T H) := by
      intro n2867
      induction n2867 using Nat.strongRecOn with
      | _ n2867 ih2868 =>
        intro v2869 v2870 b2873 b2874 m2875
        refine wp_of e196 c196_42 (rw_iload (pc' := 44) (z := v2869) rfl rfl ?_)
        refine wp_of e196 c196_44 (rw_aload_n (pc' := 45) (v := .ref r0) rfl rfl rfl ?_)
        have k2876 : H2578 r0 4 = H r0 4 := (f2580 r0 4 _ g0 rfl)
        have q2877 : H2578 r0 4 = (rp : Int) := k2876.trans qrp
        refine wp_of e196 c196_45 (xg_K (pc' := 48) lf_9_166 w2579 g0 sh_42 (by decide) (by decide) rfl q2877 rfl ?_)
        have k2878 : H2578 rp 4 = H rp 4 := (f2580 rp 4 _ grp rfl)
        refine wp_of e196 c196_48 (xg_I (pc' := 51) lf_9_276 w2579 grp sh_54 (by decide) (by decide) ty_54_4 rfl rfl (fun b2879 b2880 => ?_))
        refine wp_of e196 c196_51 (rw_icmp_ge (p1 := 126) (p2 := 54) (by decide) rfl ⟨Int.le_trans (by decide) b2873.1, Int.le_trans b2873.2 (by decide)⟩ ⟨Int.le_trans (by decide) b2879, Int.le_trans b2880 (by decide)⟩ (fun c2881 => ?_) (fun c2881 => ?_))
        · refine wp_of e196 c196_126 (rw_iload_n (pc' := 127) (z := v2870) rfl rfl ?_)
          refine wp_of e196 c196_127 (rw_if_eq (p1 := 135) (p2 := 130) (by decide) rfl ⟨Int.le_trans (by decide) b2874.1, Int.le_trans b2874.2 (by decide)⟩ (fun c2882 => ?_) (fun c2882 => ?_))
          · refine wp_of e196 c196_135 (rw_aload_n (pc' := 136) (v := .ref r0) rfl rfl rfl ?_)
            refine wp_of e196 c196_136 (xc_V (pc' := 139) (r := r0) (as := []) (st := []) (lm_9_118) rfl rfl (Nat.le_of_ble_eq_true rfl) w2579 g0 sh_42 (by decide) rfl (by decide) (u_172_o (fo := fo2582) (po := po2583) w2579 g0 h2586) (fun R2883 T2884 H2885 p2886 => ?_))
            obtain ⟨e2887, e2889, e2888, p2890⟩ := p2886
            subst e2887
            subst e2888
            subst e2889
            show wp _ _ 196 139 [(4, vI v2869), (3, vI v2870), (0, .ref r0), (1, vI v2576), (2, vI v2577)] [] _ H2578 _
            have u2892 := RO_k p2890
            refine wp_of e196 c196_139 (rw_aload_n (pc' := 140) (v := .ref r0) rfl rfl rfl ?_)
            refine wp_of e196 c196_140 (xg_I (pc' := 143) lf_9_75 w2579 g0 sh_42 (by decide) (by decide) ty_42_9 rfl rfl (fun b2893 b2894 => ?_))
            refine wp_of e196 c196_143 (rw_iconst (pc' := 144) rfl ?_)
            refine wp_of e196 c196_144 (rw_icmp_ne (p1 := 148) (p2 := 147) (by decide) rfl ⟨Int.le_trans (by decide) b2893, Int.le_trans b2894 (by decide)⟩ ⟨by decide, by decide⟩ (fun c2895 => ?_) (fun c2895 => ?_))
            · exfalso
              omega
            · exact wp_return e196 c196_147 rfl ⟨rfl, w2579, f2590, rfl, (Or.inr ⟨by omega, RO_eq p2890 (by omega) (by omega), h2587⟩)⟩
          · refine wp_of e196 c196_130 (rw_aload_n (pc' := 131) (v := .ref r0) rfl rfl rfl ?_)
            refine wp_of e196 c196_131 (rw_iconst (pc' := 132) rfl ?_)
            refine wp_of e196 c196_132 (xc_V (pc' := 135) (r := r0) (as := [vI 3]) (st := []) (lm_9_121) rfl rfl (Nat.le_of_ble_eq_true rfl) w2579 g0 sh_42 (by decide) rfl (by decide) (u_181_o (fo := fo2582) (po := po2583) w2579 g0 ⟨by decide, by decide⟩ h2586) (fun R2896 T2897 H2898 p2899 => ?_))
            obtain ⟨e2900, e2902, e2901, p2903⟩ := p2899
            subst e2900
            subst e2901
            subst e2902
            show wp _ _ 196 135 [(4, vI v2869), (3, vI v2870), (0, .ref r0), (1, vI v2576), (2, vI v2577)] [] _ H2578 _
            have u2905 := RO_k p2903
            refine wp_of e196 c196_135 (rw_aload_n (pc' := 136) (v := .ref r0) rfl rfl rfl ?_)
            refine wp_of e196 c196_136 (xc_V (pc' := 139) (r := r0) (as := []) (st := []) (lm_9_118) rfl rfl (Nat.le_of_ble_eq_true rfl) w2579 g0 sh_42 (by decide) rfl (by decide) (u_172_o (fo := fo2582) (po := po2583) w2579 g0 p2903) (fun R2906 T2907 H2908 p2909 => ?_))
            obtain ⟨e2910, e2912, e2911, p2913⟩ := p2909
            subst e2910
            subst e2911
            subst e2912
            show wp _ _ 196 139 [(4, vI v2869), (3, vI v2870), (0, .ref r0), (1, vI v2576), (2, vI v2577)] [] _ H2578 _
            have u2915 := RO_k p2913
            refine wp_of e196 c196_139 (rw_aload_n (pc' := 140) (v := .ref r0) rfl rfl rfl ?_)
            refine wp_of e196 c196_140 (xg_I (pc' := 143) lf_9_75 w2579 g0 sh_42 (by decide) (by decide) ty_42_9 rfl rfl (fun b2916 b2917 => ?_))
            refine wp_of e196 c196_143 (rw_iconst (pc' := 144) rfl ?_)
            refine wp_of e196 c196_144 (rw_icmp_ne (p1 := 148) (p2 := 147) (by decide) rfl ⟨Int.le_trans (by decide) b2916, Int.le_trans b2917 (by decide)⟩ ⟨by decide, by decide⟩ (fun c2918 => ?_) (fun c2918 => ?_))
            · exfalso
              omega
            · exact wp_return e196 c196_147 rfl ⟨rfl, w2579, f2590, rfl, (Or.inr ⟨by omega, RO_eq p2913 (by omega) (by omega), h2587⟩)⟩
        · have jn2948 : ∀ (v2947 : Int), (0 ≤ v2947 ∧ v2947 ≤ 1) → wp kt 5 196 120 [(3, vI v2947), (0, .ref r0), (1, vI v2576), (2, vI v2577), (4, vI v2869)] [] T H2578 (uq_196_k r0 rp rb B n q d N0 H0 T H) := by
            intro v2947 b2951
            refine wp_of e196 c196_120 (rw_iinc (pc' := 123) (z := v2869) (L' := [(4, vI (v2869 + 1)), (3, vI v2947), (0, .ref r0), (1, vI v2576), (2, vI v2577)]) rfl rfl rfl rfl ?_)
            refine wp_of e196 c196_123 (rw_goto (p1 := 42) (by decide) ?_)
            exact wp_lc (ks := [4, 3, 0, 1, 2]) (wl_c rfl (wl_c rfl (wl_c rfl (wl_c rfl (wl_c rfl wl_n))))) rfl (by decide) (ih2868 _ (by omega) (v2869 + 1) v2947 ⟨by omega, by omega⟩ ⟨by omega, by omega⟩ rfl)
          refine wp_of e196 c196_54 (rw_iload_n (pc' := 55) (z := v2870) rfl rfl ?_)
          refine wp_of e196 c196_55 (rw_if_ne (p1 := 114) (p2 := 58) (by decide) rfl ⟨Int.le_trans (by decide) b2874.1, Int.le_trans b2874.2 (by decide)⟩ (fun c2952 => ?_) (fun c2952 => ?_))
          · refine wp_of e196 c196_114 (rw_iconst (pc' := 115) rfl ?_)
            refine wp_of e196 c196_115 (rw_goto (p1 := 119) (by decide) ?_)
            refine wp_of e196 c196_119 (rw_istore_n (pc' := 120) (z := 1) (L' := [(3, vI 1), (4, vI v2869), (0, .ref r0), (1, vI v2576), (2, vI v2577)]) rfl rfl rfl ?_)
            have := xgg_s (d := d) (a := v2576) (b := v2577) (i := v2869) (by omega)
            exact wp_lc (ks := [3, 4, 0, 1, 2]) (wl_c rfl (wl_c rfl (wl_c rfl (wl_c rfl (wl_c rfl wl_n))))) rfl (by decide) (jn2948 1 ⟨by omega, by omega⟩)
          · refine wp_of e196 c196_58 (rw_aload_n (pc' := 59) (v := .ref r0) rfl rfl rfl ?_)
            refine wp_of e196 c196_59 (xg_K (pc' := 62) lf_9_166 w2579 g0 sh_42 (by decide) (by decide) rfl q2877 rfl ?_)
            refine wp_of e196 c196_62 (xg_R (pc' := 65) lf_9_282 w2579 grp sh_54 (by decide) (by decide) ty_54_18 rfl rfl (fun r2953 q2954 g2955 => ?_))
            refine wp_of e196 c196_65 (rw_iload (pc' := 67) (z := v2869) rfl rfl ?_)
            refine wp_of e196 c196_67 (xa_I (so := 0) (pc' := 68) w2579 g2955 sh_64 (by decide) (ty_64 _) (b2873.1) (by omega) rfl (fun b2956 b2957 => ?_))
            have h2958 : MA18 T H2578 rp (d 10) := (MA18_fr hW grp f2580 rfl h2568)
            have := MA_at h2958 q2954 (k := (v2869.toNat)) (by omega)
            refine wp_of e196 c196_68 (rw_iload_n (pc' := 69) (z := v2576) rfl rfl ?_)
            refine wp_of e196 c196_69 (rw_icmp_ne (p1 := 86) (p2 := 72) (by decide) rfl ⟨Int.le_trans (by decide) b2956, Int.le_trans b2957 (by decide)⟩ ⟨by omega, by omega⟩ (fun c2959 => ?_) (fun c2959 => ?_))
            · refine wp_of e196 c196_86 (rw_aload_n (pc' := 87) (v := .ref r0) rfl rfl rfl ?_)
              refine wp_of e196 c196_87 (xg_K (pc' := 90) lf_9_166 w2579 g0 sh_42 (by decide) (by decide) rfl q2877 rfl ?_)
              refine wp_of e196 c196_90 (xg_K (pc' := 93) lf_9_282 w2579 grp sh_54 (by decide) (by decide) rfl q2954 rfl ?_)
              refine wp_of e196 c196_93 (rw_iload (pc' := 95) (z := v2869) rfl rfl ?_)
              refine wp_of e196 c196_95 (xa_I (so := 0) (pc' := 96) w2579 g2955 sh_64 (by decide) (ty_64 _) (b2873.1) (by omega) rfl (fun b2960 b2961 => ?_))
              have := MA_at h2958 q2954 (k := (v2869.toNat)) (by omega)
              refine wp_of e196 c196_96 (rw_iload_n (pc' := 97) (z := v2577) rfl rfl ?_)
              refine wp_of e196 c196_97 (rw_icmp_ne (p1 := 118) (p2 := 100) (by decide) rfl ⟨Int.le_trans (by decide) b2960, Int.le_trans b2961 (by decide)⟩ ⟨by omega, by omega⟩ (fun c2962 => ?_) (fun c2962 => ?_))
              · refine wp_of e196 c196_118 (rw_iconst (pc' := 119) rfl ?_)
                refine wp_of e196 c196_119 (rw_istore_n (pc' := 120) (z := 0) (L' := [(3, vI 0), (4, vI v2869), (0, .ref r0), (1, vI v2576), (2, vI v2577)]) rfl rfl rfl ?_)
                have := xgg_s (d := d) (a := v2576) (b := v2577) (i := v2869) (by omega)
                exact wp_lc (ks := [3, 4, 0, 1, 2]) (wl_c rfl (wl_c rfl (wl_c rfl (wl_c rfl (wl_c rfl wl_n))))) rfl (by decide) (jn2948 0 ⟨by omega, by omega⟩)
              · refine wp_of e196 c196_100 (rw_aload_n (pc' := 101) (v := .ref r0) rfl rfl rfl ?_)
                refine wp_of e196 c196_101 (xg_K (pc' := 104) lf_9_166 w2579 g0 sh_42 (by decide) (by decide) rfl q2877 rfl ?_)
                refine wp_of e196 c196_104 (xg_R (pc' := 107) lf_9_285 w2579 grp sh_54 (by decide) (by decide) ty_54_19 rfl rfl (fun r2963 q2964 g2965 => ?_))
                refine wp_of e196 c196_107 (rw_iload (pc' := 109) (z := v2869) rfl rfl ?_)
                refine wp_of e196 c196_109 (xa_I (so := 0) (pc' := 110) w2579 g2965 sh_65 (by decide) (ty_65 _) (b2873.1) (by omega) rfl (fun b2966 b2967 => ?_))
                have h2968 : MA19 T H2578 rp (d 11) := (MA19_fr hW grp f2580 rfl h2569)
                have := MA_at h2968 q2964 (k := (v2869.toNat)) (by omega)
                refine wp_of e196 c196_110 (rw_iload_n (pc' := 111) (z := v2576) rfl rfl ?_)
                refine wp_of e196 c196_111 (rw_icmp_ne (p1 := 118) (p2 := 114) (by decide) rfl ⟨Int.le_trans (by decide) b2966, Int.le_trans b2967 (by decide)⟩ ⟨by omega, by omega⟩ (fun c2969 => ?_) (fun c2969 => ?_))
                · refine wp_of e196 c196_118 (rw_iconst (pc' := 119) rfl ?_)
                  refine wp_of e196 c196_119 (rw_istore_n (pc' := 120) (z := 0) (L' := [(3, vI 0), (4, vI v2869), (0, .ref r0), (1, vI v2576), (2, vI v2577)]) rfl rfl rfl ?_)
                  have := xgg_s (d := d) (a := v2576) (b := v2577) (i := v2869) (by omega)
                  exact wp_lc (ks := [3, 4, 0, 1, 2]) (wl_c rfl (wl_c rfl (wl_c rfl (wl_c rfl (wl_c rfl wl_n))))) rfl (by decide) (jn2948 0 ⟨by omega, by omega⟩)
                · refine wp_of e196 c196_114 (rw_iconst (pc' := 115) rfl ?_)
                  refine wp_of e196 c196_115 (rw_goto (p1 := 119) (by decide) ?_)
                  refine wp_of e196 c196_119 (rw_istore_n (pc' := 120) (z := 1) (L' := [(3, vI 1), (4, vI v2869), (0, .ref r0), (1, vI v2576), (2, vI v2577)]) rfl rfl rfl ?_)
                  have := xgg_s (d := d) (a := v2576) (b := v2577) (i := v2869) (by omega)
                  exact wp_lc (ks := [3, 4, 0, 1, 2]) (wl_c rfl (wl_c rfl (wl_c rfl (wl_c rfl (wl_c rfl wl_n))))) rfl (by decide) (jn2948 1 ⟨by omega, by omega⟩)
            · refine wp_of e196 c196_72 (rw_aload_n (pc' := 73) (v := .ref r0) rfl rfl rfl ?_)
              refine wp_of e196 c196_73 (xg_K (pc' := 76) lf_9_166 w2579 g0 sh_42 (by decide) (by decide) rfl q2877 rfl ?_)
              refine wp_of e196 c196_76 (xg_R (pc' := 79) lf_9_285 w2579 grp sh_54 (by decide) (by decide) ty_54_19 rfl rfl (fun r2970 q2971 g2972 => ?_))
              refine wp_of e196 c196_79 (rw_iload (pc' := 81) (z := v2869) rfl rfl ?_)
              refine wp_of e196 c196_81 (xa_I (so := 0) (pc' := 82) w2579 g2972 sh_65 (by decide) (ty_65 _) (b2873.1) (by omega) rfl (fun b2973 b2974 => ?_))
              have h2975 : MA19 T H2578 rp (d 11) := (MA19_fr hW grp f2580 rfl h2569)
              have := MA_at h2975 q2971 (k := (v2869.toNat)) (by omega)
              refine wp_of e196 c196_82 (rw_iload_n (pc' := 83) (z := v2577) rfl rfl ?_)
              refine wp_of e196 c196_83 (rw_icmp_eq (p1 := 114) (p2 := 86) (by decide) rfl ⟨Int.le_trans (by decide) b2973, Int.le_trans b2974 (by decide)⟩ ⟨by omega, by omega⟩ (fun c2976 => ?_) (fun c2976 => ?_))
              · refine wp_of e196 c196_114 (rw_iconst (pc' := 115) rfl ?_)
                refine wp_of e196 c196_115 (rw_goto (p1 := 119) (by decide) ?_)
                refine wp_of e196 c196_119 (rw_istore_n (pc' := 120) (z := 1) (L' := [(3, vI 1), (4, vI v2869), (0, .ref r0), (1, vI v2576), (2, vI v2577)]) rfl rfl rfl ?_)
                have := xgg_s (d := d) (a := v2576) (b := v2577) (i := v2869) (by omega)
                exact wp_lc (ks := [3, 4, 0, 1, 2]) (wl_c rfl (wl_c rfl (wl_c rfl (wl_c rfl (wl_c rfl wl_n))))) rfl (by decide) (jn2948 1 ⟨by omega, by omega⟩)
              · refine wp_of e196 c196_86 (rw_aload_n (pc' := 87) (v := .ref r0) rfl rfl rfl ?_)
                refine wp_of e196 c196_87 (xg_K (pc' := 90) lf_9_166 w2579 g0 sh_42 (by decide) (by decide) rfl q2877 rfl ?_)
                refine wp_of e196 c196_90 (xg_K (pc' := 93) lf_9_282 w2579 grp sh_54 (by decide) (by decide) rfl q2954 rfl ?_)
                refine wp_of e196 c196_93 (rw_iload (pc' := 95) (z := v2869) rfl rfl ?_)
                refine wp_of e196 c196_95 (xa_I (so := 0) (pc' := 96) w2579 g2955 sh_64 (by decide) (ty_64 _) (b2873.1) (by omega) rfl (fun b2977 b2978 => ?_))
                have := MA_at h2958 q2954 (k := (v2869.toNat)) (by omega)
                refine wp_of e196 c196_96 (rw_iload_n (pc' := 97) (z := v2577) rfl rfl ?_)
                refine wp_of e196 c196_97 (rw_icmp_ne (p1 := 118) (p2 := 100) (by decide) rfl ⟨Int.le_trans (by decide) b2977, Int.le_trans b2978 (by decide)⟩ ⟨by omega, by omega⟩ (fun c2979 => ?_) (fun c2979 => ?_))
                · refine wp_of e196 c196_118 (rw_iconst (pc' := 119) rfl ?_)
                  refine wp_of e196 c196_119 (rw_istore_n (pc' := 120) (z := 0) (L' := [(3, vI 0), (4, vI v2869), (0, .ref r0), (1, vI v2576), (2, vI v2577)]) rfl rfl rfl ?_)
                  have := xgg_s (d := d) (a := v2576) (b := v2577) (i := v2869) (by omega)
                  exact wp_lc (ks := [3, 4, 0, 1, 2]) (wl_c rfl (wl_c rfl (wl_c rfl (wl_c rfl (wl_c rfl wl_n))))) rfl (by decide) (jn2948 0 ⟨by omega, by omega⟩)
                · refine wp_of e196 c196_100 (rw_aload_n (pc' := 101) (v := .ref r0) rfl rfl rfl ?_)
                  refine wp_of e196 c196_101 (xg_K (pc' := 104) lf_9_166 w2579 g0 sh_42 (by decide) (by decide) rfl q2877 rfl ?_)
                  refine wp_of e196 c196_104 (xg_K (pc' := 107) lf_9_285 w2579 grp sh_54 (by decide) (by decide) rfl q2971 rfl ?_)
                  refine wp_of e196 c196_107 (rw_iload (pc' := 109) (z := v2869) rfl rfl ?_)
                  refine wp_of e196 c196_109 (xa_I (so := 0) (pc' := 110) w2579 g2972 sh_65 (by decide) (ty_65 _) (b2873.1) (by omega) rfl (fun b2980 b2981 => ?_))
                  have := MA_at h2975 q2971 (k := (v2869.toNat)) (by omega)
                  refine wp_of e196 c196_110 (rw_iload_n (pc' := 111) (z := v2576) rfl rfl ?_)
                  refine wp_of e196 c196_111 (rw_icmp_ne (p1 := 118) (p2 := 114) (by decide) rfl ⟨Int.le_trans (by decide) b2980, Int.le_trans b2981 (by decide)⟩ ⟨by omega, by omega⟩ (fun c2982 => ?_) (fun c2982 => ?_))
                  · refine wp_of e196 c196_118 (rw_iconst (pc' := 119) rfl ?_)
                    refine wp_of e196 c196_119 (rw_istore_n (pc' := 120) (z := 0) (L' := [(3, vI 0), (4, vI v2869), (0, .ref r0), (1, vI v2576), (2, vI v2577)]) rfl rfl rfl ?_)
                    have := xgg_s (d := d) (a := v2576) (b := v2577) (i := v2869) (by omega)
                    exact wp_lc (ks := [3, 4, 0, 1, 2]) (wl_c rfl (wl_c rfl (wl_c rfl (wl_c rfl (wl_c rfl wl_n))))) rfl (by decide) (jn2948 0 ⟨by omega, by omega⟩)
                  · refine wp_of e196 c196_114 (rw_iconst (pc' := 115) rfl ?_)
                    refine wp_of e196 c196_115 (rw_goto (p1 := 119) (by decide) ?_)
                    refine wp_of e196 c196_119 (rw_istore_n (pc' := 120) (z := 1) (L' := [(3, vI 1), (4, vI v2869), (0, .ref r0), (1, vI v2576), (2, vI v2577)]) rfl rfl rfl ?_)
                    have := xgg_s (d := d) (a := v2576) (b := v2577) (i := v2869) (by omega)
                    exact wp_lc (ks := [3, 4, 0, 1, 2]) (wl_c rfl (wl_c rfl (wl_c rfl (wl_c rfl (wl_c rfl wl_n))))) rfl (by decide) (jn2948 1 ⟨by omega, by omega⟩)
    exact wp_lc (ks := [4, 3, 0, 1, 2]) (wl_c rfl (wl_c rfl (wl_c rfl (wl_c rfl (wl_c rfl wl_n))))) rfl (by decide) (lp2866 _ 0 v2593 ⟨by decide, by decide⟩ ⟨by omega, by omega⟩ rfl)
  refine wp_of e196 c196_28 (rw_iload_n (pc' := 29) (z := v2576) rfl rfl ?_)
  refine wp_of e196 c196_29 (rw_iload_n (pc' := 30) (z := v2577) rfl rfl ?_)
  refine wp_of e196 c196_30 (rw_icmp_ne (p1 := 37) (p2 := 33) (by decide) rfl ⟨by omega, by omega⟩ ⟨by omega, by omega⟩ (fun c2983 => ?_) (fun c2983 => ?_))
  · refine wp_of e196 c196_37 (rw_iconst (pc' := 38) rfl ?_)
    refine wp_of e196 c196_38 (rw_istore_n (pc' := 39) (z := 0) (L' := [(3, vI 0), (0, .ref r0), (1, vI v2576), (2, vI v2577)]) rfl rfl rfl ?_)
    have := @xgg_0 d v2576 v2577
    exact wp_lc (ks := [3, 0, 1, 2]) (wl_c rfl (wl_c rfl (wl_c rfl (wl_c rfl wl_n)))) rfl (by decide) (jn2594 0 ⟨by omega, by omega⟩)
  · refine wp_of e196 c196_33 (rw_iconst (pc' := 34) rfl ?_)
    refine wp_of e196 c196_34 (rw_goto (p1 := 38) (by decide) ?_)
    refine wp_of e196 c196_38 (rw_istore_n (pc' := 39) (z := 1) (L' := [(3, vI 1), (0, .ref r0), (1, vI v2576), (2, vI v2577)]) rfl rfl rfl ?_)
    have := @xgg_0 d v2576 v2577
    exact wp_lc (ks := [3, 0, 1, 2]) (wl_c rfl (wl_c rfl (wl_c rfl (wl_c rfl wl_n)))) rfl (by decide) (jn2594 1 ⟨by omega, by omega⟩)

set_option maxHeartbeats 4000000 in
theorem u_196_k {kt : Nat → Option mc_E} {T : wq_T} {H : wq_H} {r0 : Nat} {rp : Nat} {rb : Nat} {B : Nat → Int} {n : Int} {q : Int} {d : xD} {N0 : Nat} {H0 : wq_H} (hW : WT T H) (g0 : T.2.2.2 r0 = some 42) (qrp : H r0 4 = (rp : Int)) (grp : T.2.2.2 rp = some 54) (qrb : H r0 5 = (rb : Int)) (grb : T.2.2.2 rb = some 43) (p0 : xK B n q = 1) (hRC_r0 : RC T H r0 B n q) (hDM_rp : DM T H rp r0 d) (hFZ_rp : FZ T H rp N0 H0) : wpc kt 6 196 [.ref r0] T H (uq_196_k r0 rp rb B n q d N0 H0 T H) := by
  refine wp_enter e196 (Nat.le_of_ble_eq_true rfl) rfl ?_
  have f0 : wfr [(54, 4), (42, 8), (42, 9), (42, 10), (42, 11), (42, 12), (42, 13), (42, 14), (42, 15), (64, 999), (65, 999)] T H H := wfr.rf
  show wp _ _ 196 0 [(0, .ref r0)] [] _ H _
  have u2538 := RC_k hRC_r0
  have u2539 := DM_k hDM_rp
  have h2540 : MA9 T H rp (d 1) := hDM_rp.2.2.2.1
  have h2541 : MA10 T H rp (d 2) := hDM_rp.2.2.2.2.1
  have h2542 : MA11 T H rp (d 3) := hDM_rp.2.2.2.2.2.1
  have h2543 : MA12 T H rp (d 4) := hDM_rp.2.2.2.2.2.2.1
  have h2544 : MA13 T H rp (d 5) := hDM_rp.2.2.2.2.2.2.2.1
  have h2545 : MA14 T H rp (d 6) := hDM_rp.2.2.2.2.2.2.2.2.1
  have h2546 : MA15 T H rp (d 7) := hDM_rp.2.2.2.2.2.2.2.2.2.1
  have h2547 : MA16 T H rp (d 8) := hDM_rp.2.2.2.2.2.2.2.2.2.2.1
  have h2548 : MA17 T H rp (d 9) := hDM_rp.2.2.2.2.2.2.2.2.2.2.2.1
  have h2549 : MA18 T H rp (d 10) := hDM_rp.2.2.2.2.2.2.2.2.2.2.2.2.1
  have h2550 : MA19 T H rp (d 11) := hDM_rp.2.2.2.2.2.2.2.2.2.2.2.2.2.1
  have h2551 : MA20 T H rp (d 12) := hDM_rp.2.2.2.2.2.2.2.2.2.2.2.2.2.2.1
  have h2552 : MA21 T H rp (d 13) := hDM_rp.2.2.2.2.2.2.2.2.2.2.2.2.2.2.2.1
  have h2553 : MA22 T H rp (d 14) := hDM_rp.2.2.2.2.2.2.2.2.2.2.2.2.2.2.2.2.1
  have h2554 : MA23 T H rp (d 15) := hDM_rp.2.2.2.2.2.2.2.2.2.2.2.2.2.2.2.2.2.1
  have h2555 : MA25 T H rp (d 17) := hDM_rp.2.2.2.2.2.2.2.2.2.2.2.2.2.2.2.2.2.2.1
  have h2556 : MA26 T H rp (d 16) := hDM_rp.2.2.2.2.2.2.2.2.2.2.2.2.2.2.2.2.2.2.2
  have f0s : wfr [(42, 8), (42, 9), (42, 10), (42, 11), (42, 12), (42, 13), (42, 14), (42, 15)] T H H := wfr.rf
  refine wp_of e196 c196_0 (rw_aload_n (pc' := 1) (v := .ref r0) rfl rfl rfl ?_)
  refine wp_of e196 c196_1 (rw_aload_n (pc' := 2) (v := .ref r0) rfl rfl rfl ?_)
  refine wp_of e196 c196_2 (xg_K (pc' := 5) lf_9_166 hW g0 sh_42 (by decide) (by decide) rfl qrp rfl ?_)
  refine wp_of e196 c196_5 (xg_I (pc' := 8) lf_9_276 hW grp sh_54 (by decide) (by decide) ty_54_4 rfl rfl (fun b2984 b2985 => ?_))
  refine wp_of e196 c196_8 (rw_iconst (pc' := 9) rfl ?_)
  refine wp_of e196 c196_9 (xc_V (pc' := 12) (r := r0) (as := [vI (H rp 4), vI 3]) (st := []) (lm_9_228) rfl rfl (Nat.le_of_ble_eq_true rfl) hW g0 sh_42 (by decide) rfl (by decide) (u_188_k (B := B) (n := n) (q := q) hW g0 ⟨Int.le_trans (by decide) b2984, Int.le_trans b2985 (by decide)⟩ ⟨by decide, by decide⟩ qrb grb (by omega) hRC_r0) (fun R2986 T2987 H2988 p2989 => ?_))
  obtain ⟨e2990, w2992, f2993, e2991, p2994⟩ := p2989
  subst e2990
  subst e2991
  rcases p2994 with ⟨a2995, a2996⟩ | ⟨a2997, a2998⟩
  · have f2999 := f0.tr f2993 rfl
    have f3000 := f0s.tr f2993 rfl
    show wp _ _ 196 12 [(0, .ref r0)] [] _ H2988 _
    have u3001 := RC_k a2996
    refine wp_of e196 c196_12 (rw_aload_n (pc' := 13) (v := .ref r0) rfl rfl rfl ?_)
    have k3002 : H2988 r0 4 = H r0 4 := (f2993 r0 4 _ g0 rfl)
    have q3003 : H2988 r0 4 = (rp : Int) := k3002.trans qrp
    have k3004 : H2988 r0 5 = H r0 5 := (f2993 r0 5 _ g0 rfl)
    have q3005 : H2988 r0 5 = (rb : Int) := k3004.trans qrb
    have h3006 : DM T H2988 rp r0 d := (DM_fr hW grp f2993 rfl hDM_rp)
    refine wp_of e196 c196_13 (xc_V (pc' := 16) (r := r0) (as := []) (st := []) (lm_9_273) rfl rfl (Nat.le_of_ble_eq_true rfl) w2992 g0 sh_42 (by decide) rfl (by decide) (u_194_k (B := B) (n := n) (q := ((xN B n q))) (d := d) w2992 g0 q3003 grp q3005 grb a2996 h3006) (fun R3007 T3008 H3009 p3010 => ?_))
    obtain ⟨e3011, w3013, f3014, z3015, e3012, b3016, p3017⟩ := p3010
    subst e3011
    subst e3012
    rcases p3017 with ⟨a3018, a3019, a3020, a3021, a3022⟩ | ⟨a3023, a3024, a3025⟩
    · have f3026 := f2999.tr f3014 rfl
      have f3027 := f3000.tr f3014 rfl
      show wp _ _ 196 16 [(0, .ref r0)] [vI z3015] _ H3009 _
      have u3028 := RC_k a3022
      refine wp_of e196 c196_16 (rw_istore_n (pc' := 17) (z := z3015) (L' := [(1, vI z3015), (0, .ref r0)]) rfl rfl rfl ?_)
      refine wp_of e196 c196_17 (rw_aload_n (pc' := 18) (v := .ref r0) rfl rfl rfl ?_)
      refine wp_of e196 c196_18 (rw_bipush (pc' := 20) (z := 44) rfl (by decide) ?_)
      have k3029 : H3009 r0 5 = H2988 r0 5 := (f3014 r0 5 _ g0 rfl)
      have q3030 : H3009 r0 5 = (rb : Int) := k3029.trans q3005
      refine wp_of e196 c196_20 (xc_V (pc' := 23) (r := r0) (as := [vI 44]) (st := []) (lm_9_279) rfl rfl (Nat.le_of_ble_eq_true rfl) w3013 g0 sh_42 (by decide) rfl (by decide) (u_197_k (B := B) (n := n) (q := ((xN B n ((xN B n q))))) (kd := 4) w3013 g0 ⟨by decide, by decide⟩ q3030 grb (by omega) a3022) (fun R3031 T3032 H3033 p3034 => ?_))
      obtain ⟨e3035, w3037, f3038, e3036, p3039⟩ := p3034
      subst e3035
      subst e3036
      rcases p3039 with ⟨a3040, a3041⟩ | ⟨a3042, a3043⟩
      · have f3044 := f3026.tr f3038 rfl
        have f3045 := f3027.tr f3038 rfl
        show wp _ _ 196 23 [(1, vI z3015), (0, .ref r0)] [] _ H3033 _
        have u3046 := RC_k a3041
        refine wp_of e196 c196_23 (rw_aload_n (pc' := 24) (v := .ref r0) rfl rfl rfl ?_)
        have k3047 : H3033 r0 4 = H2988 r0 4 := ((f3038 r0 4 _ g0 rfl).trans (f3014 r0 4 _ g0 rfl))
        have q3048 : H3033 r0 4 = (rp : Int) := k3047.trans q3003
        have h3049 : DM T H3033 rp r0 d := (DM_fr w3013 grp f3038 rfl (DM_fr w2992 grp f3014 rfl h3006))
        refine wp_of e196 c196_24 (xc_V (pc' := 27) (r := r0) (as := []) (st := []) (lm_9_176) rfl rfl (Nat.le_of_ble_eq_true rfl) w3037 g0 sh_42 (by decide) rfl (by decide) (u_195_k (B := B) (n := n) (q := ((xN B n ((xN B n ((xN B n q))))))) (d := d) w3037 g0 q3048 grp a3041 h3049) (fun R3050 T3051 H3052 p3053 => ?_))
        obtain ⟨e3054, w3056, f3057, z3058, e3055, b3059, p3060⟩ := p3053
        subst e3054
        subst e3055
        rcases p3060 with ⟨a3061, a3062, a3063, a3064, a3065, a3066⟩ | ⟨a3067, a3068, a3069⟩
        · have f3070 := f3044.tr f3057 rfl
          have f3071 := f3045.tr f3057 rfl
          show wp _ _ 196 27 [(1, vI z3015), (0, .ref r0)] [vI z3058] _ H3052 _
          have u3072 := RC_k a3066
          refine wp_of e196 c196_27 (rw_istore_n (pc' := 28) (z := z3058) (L' := [(2, vI z3058), (1, vI z3015), (0, .ref r0)]) rfl rfl rfl ?_)
          have jn3075 : ∀ (v3074 : Int), (0 ≤ v3074 ∧ v3074 ≤ 1) → (v3074 = xgg d z3015 z3058 0) → wp kt 5 196 39 [(3, vI v3074), (0, .ref r0), (1, vI z3015), (2, vI z3058)] [] T H3052 (uq_196_k r0 rp rb B n q d N0 H0 T H) := by
            intro v3074 b3078 x3079
            refine wp_of e196 c196_39 (rw_iconst (pc' := 40) rfl ?_)
            refine wp_of e196 c196_40 (rw_istore (pc' := 42) (z := 0) (L' := [(4, vI 0), (3, vI v3074), (0, .ref r0), (1, vI z3015), (2, vI z3058)]) rfl rfl rfl ?_)
            have k3357 : H3052 rp 4 = H rp 4 := ((f3057 rp 4 _ grp rfl).trans ((f3038 rp 4 _ grp rfl).trans ((f3014 rp 4 _ grp rfl).trans (f2993 rp 4 _ grp rfl))))
            have lp3352 : ∀ (n3353 : Nat) (v3355 : Int) (v3356 : Int), (0 ≤ v3355 ∧ v3355 ≤ 3) → (0 ≤ v3356 ∧ v3356 ≤ 1) → (v3356 = xgg d z3015 z3058 v3355) → (v3355 ≤ d 0 4) → (3 - v3355).toNat = n3353 → wp kt 5 196 42 [(4, vI v3355), (3, vI v3356), (0, .ref r0), (1, vI z3015), (2, vI z3058)] [] T H3052 (uq_196_k r0 rp rb B n q d N0 H0 T H) := by
              intro n3353
              induction n3353 using Nat.strongRecOn with
              | _ n3353 ih3354 =>
                intro v3355 v3356 b3360 b3361 x3362 x3363 m3364
                refine wp_of e196 c196_42 (rw_iload (pc' := 44) (z := v3355) rfl rfl ?_)
                refine wp_of e196 c196_44 (rw_aload_n (pc' := 45) (v := .ref r0) rfl rfl rfl ?_)
                have k3365 : H3052 r0 4 = H3033 r0 4 := (f3057 r0 4 _ g0 rfl)
                have q3366 : H3052 r0 4 = (rp : Int) := k3365.trans q3048
                refine wp_of e196 c196_45 (xg_K (pc' := 48) lf_9_166 w3056 g0 sh_42 (by decide) (by decide) rfl q3366 rfl ?_)
                refine wp_of e196 c196_48 (xg_I (pc' := 51) lf_9_276 w3056 grp sh_54 (by decide) (by decide) ty_54_4 rfl rfl (fun b3367 b3368 => ?_))
                refine wp_of e196 c196_51 (rw_icmp_ge (p1 := 126) (p2 := 54) (by decide) rfl ⟨Int.le_trans (by decide) b3360.1, Int.le_trans b3360.2 (by decide)⟩ ⟨Int.le_trans (by decide) b3367, Int.le_trans b3368 (by decide)⟩ (fun c3369 => ?_) (fun c3369 => ?_))
                · have _g := @xac_g d z3015 z3058 v3355 (by omega)
                  have _c : xac d (xwho B n (xN B n q) d) (xwho B n (xN B n (xN B n (xN B n q))) d) = xac d z3015 z3058 := by rw [show xwho B n (xN B n q) d = z3015 by omega, show xwho B n (xN B n (xN B n (xN B n q))) d = z3058 by omega]
                  refine wp_of e196 c196_126 (rw_iload_n (pc' := 127) (z := v3356) rfl rfl ?_)
                  refine wp_of e196 c196_127 (rw_if_eq (p1 := 135) (p2 := 130) (by decide) rfl ⟨Int.le_trans (by decide) b3361.1, Int.le_trans b3361.2 (by decide)⟩ (fun c3370 => ?_) (fun c3370 => ?_))
                  · refine wp_of e196 c196_135 (rw_aload_n (pc' := 136) (v := .ref r0) rfl rfl rfl ?_)
                    have k3371 : H3052 r0 5 = H3009 r0 5 := ((f3057 r0 5 _ g0 rfl).trans (f3038 r0 5 _ g0 rfl))
                    have q3372 : H3052 r0 5 = (rb : Int) := k3371.trans q3030
                    have u3373 := RC_a a3066
                    have h3374 : TM T H3052 rb B := RC_tm a3066 q3372
                    refine wp_of e196 c196_136 (xc_V (pc' := 139) (r := r0) (as := []) (st := []) (lm_9_118) rfl rfl (Nat.le_of_ble_eq_true rfl) w3056 g0 sh_42 (by decide) rfl (by decide) (u_172_k (B := B) (n := n) (a := (xE B n ((xN B n ((xN B n ((xN B n q)))))))) (q := (xN B n ((xN B n ((xN B n ((xN B n q)))))))) w3056 g0 q3372 grb (by omega) (by omega) (by omega) (by omega) (by omega) (rfl) h3374) (fun R3375 T3376 H3377 p3378 => ?_))
                    obtain ⟨e3379, w3381, f3382, e3380, p3383⟩ := p3378
                    subst e3379
                    subst e3380
                    have f3385 := f3070.tr f3382 rfl
                    have f3386 := f3071.tr f3382 rfl
                    show wp _ _ 196 139 [(4, vI v3355), (3, vI v3356), (0, .ref r0), (1, vI z3015), (2, vI z3058)] [] _ H3377 _
                    have u3387 := RC_k p3383
                    refine wp_of e196 c196_139 (rw_aload_n (pc' := 140) (v := .ref r0) rfl rfl rfl ?_)
                    refine wp_of e196 c196_140 (xg_I (pc' := 143) lf_9_75 w3381 g0 sh_42 (by decide) (by decide) ty_42_9 rfl rfl (fun b3388 b3389 => ?_))
                    refine wp_of e196 c196_143 (rw_iconst (pc' := 144) rfl ?_)
                    refine wp_of e196 c196_144 (rw_icmp_ne (p1 := 148) (p2 := 147) (by decide) rfl ⟨Int.le_trans (by decide) b3388, Int.le_trans b3389 (by decide)⟩ ⟨by decide, by decide⟩ (fun c3390 => ?_) (fun c3390 => ?_))
                    · refine wp_of e196 c196_148 (rw_aload_n (pc' := 149) (v := .ref r0) rfl rfl rfl ?_)
                      have k3391 : H3377 r0 4 = H3052 r0 4 := (f3382 r0 4 _ g0 rfl)
                      have q3392 : H3377 r0 4 = (rp : Int) := k3391.trans q3366
                      refine wp_of e196 c196_149 (xg_K (pc' := 152) lf_9_166 w3381 g0 sh_42 (by decide) (by decide) rfl q3392 rfl ?_)
                      refine wp_of e196 c196_152 (xg_R (pc' := 155) lf_9_282 w3381 grp sh_54 (by decide) (by decide) ty_54_18 rfl rfl (fun r3393 q3394 g3395 => ?_))
                      refine wp_of e196 c196_155 (rw_aload_n (pc' := 156) (v := .ref r0) rfl rfl rfl ?_)
                      refine wp_of e196 c196_156 (xg_K (pc' := 159) lf_9_166 w3381 g0 sh_42 (by decide) (by decide) rfl q3392 rfl ?_)
                      have k3396 : H3377 rp 4 = H3052 rp 4 := (f3382 rp 4 _ grp rfl)
                      refine wp_of e196 c196_159 (xg_I (pc' := 162) lf_9_276 w3381 grp sh_54 (by decide) (by decide) ty_54_4 rfl rfl (fun b3397 b3398 => ?_))
                      refine wp_of e196 c196_162 (rw_iload_n (pc' := 163) (z := z3015) rfl rfl ?_)
                      have h3399 : MA18 T H3377 rp (d 10) := (MA18_fr w3056 grp f3382 rfl (MA18_fr w3037 grp f3057 rfl (MA18_fr w3013 grp f3038 rfl (MA18_fr w2992 grp f3014 rfl (MA18_fr hW grp f2993 rfl h2549)))))
                      have h3400 : FZ T H3377 rp N0 H0 := (FZ_fr w3056 grp f3382 rfl (FZ_fr w3037 grp f3057 rfl (FZ_fr w3013 grp f3038 rfl (FZ_fr w2992 grp f3014 rfl (FZ_fr hW grp f2993 rfl hFZ_rp)))))
                      refine wp_of e196 c196_163 (xs_I (pc' := 164) w3381 g3395 (by decide) sh_64 (by decide) (ty_64 _) (b3016.1) (b3016.2) ⟨Int.le_trans (by decide) b3016.1, Int.le_trans b3016.2 (by decide)⟩ (b3397) (by omega) rfl (fun H3401 e3402 w3403 => ?_))
                      have f3404 := f3385.put' e3402 g3395 rfl
                      have h3405 : MA18 T H3401 rp (xdap B n (xN B n q) d 10) := MA_put h3399 q3394 grp g3395 (by decide) e3402 ((xdap_c (k := ((H3377 rp 4).toNat)) (by omega)).1.trans (by omega)) (xdap_c (k := ((H3377 rp 4).toNat)) (by omega)).2
                      have h3406 : FZ T H3401 rp N0 H0 := FZ_st h3400 q3394 (by decide) (by decide) grp g3395 (by decide) e3402
                      refine wp_of e196 c196_164 (rw_aload_n (pc' := 165) (v := .ref r0) rfl rfl rfl ?_)
                      have k3407 : H3401 r0 4 = H3377 r0 4 := (wq_u_t e3402 g3395 g0 rfl 4)
                      have q3408 : H3401 r0 4 = (rp : Int) := k3407.trans q3392
                      refine wp_of e196 c196_165 (xg_K (pc' := 168) lf_9_166 w3403 g0 sh_42 (by decide) (by decide) rfl q3408 rfl ?_)
                      refine wp_of e196 c196_168 (xg_R (pc' := 171) lf_9_285 w3403 grp sh_54 (by decide) (by decide) ty_54_19 rfl rfl (fun r3409 q3410 g3411 => ?_))
                      refine wp_of e196 c196_171 (rw_aload_n (pc' := 172) (v := .ref r0) rfl rfl rfl ?_)
                      refine wp_of e196 c196_172 (xg_K (pc' := 175) lf_9_166 w3403 g0 sh_42 (by decide) (by decide) rfl q3408 rfl ?_)
                      have k3412 : H3401 rp 4 = H3377 rp 4 := (wq_u_t e3402 g3395 grp rfl 4)
                      refine wp_of e196 c196_175 (xg_I (pc' := 178) lf_9_276 w3403 grp sh_54 (by decide) (by decide) ty_54_4 rfl rfl (fun b3413 b3414 => ?_))
                      refine wp_of e196 c196_178 (rw_iload_n (pc' := 179) (z := z3058) rfl rfl ?_)
                      have h3415 : MA19 T H3401 rp (d 11) := (MA19_fr w3381 grp ((wfr.rf (l := [(64, 999)])).put' e3402 g3395 rfl) rfl (MA19_fr w3056 grp f3382 rfl (MA19_fr w3037 grp f3057 rfl (MA19_fr w3013 grp f3038 rfl (MA19_fr w2992 grp f3014 rfl (MA19_fr hW grp f2993 rfl h2550))))))
                      refine wp_of e196 c196_179 (xs_I (pc' := 180) w3403 g3411 (by decide) sh_65 (by decide) (ty_65 _) (b3059.1) (b3059.2) ⟨Int.le_trans (by decide) b3059.1, Int.le_trans b3059.2 (by decide)⟩ (b3413) (by omega) rfl (fun H3416 e3417 w3418 => ?_))
                      have f3419 := f3404.put' e3417 g3411 rfl
                      have h3420 : MA19 T H3416 rp (xdap B n (xN B n q) d 11) := MA_put h3415 q3410 grp g3411 (by decide) e3417 ((xdap_e (k := ((H3401 rp 4).toNat)) (by omega)).1.trans (by omega)) (xdap_e (k := ((H3401 rp 4).toNat)) (by omega)).2
                      have h3421 : FZ T H3416 rp N0 H0 := FZ_st h3406 q3410 (by decide) (by decide) grp g3411 (by decide) e3417
                      refine wp_of e196 c196_180 (rw_aload_n (pc' := 181) (v := .ref r0) rfl rfl rfl ?_)
                      have k3422 : H3416 r0 4 = H3401 r0 4 := (wq_u_t e3417 g3411 g0 rfl 4)
                      have q3423 : H3416 r0 4 = (rp : Int) := k3422.trans q3408
                      refine wp_of e196 c196_181 (xg_K (pc' := 184) lf_9_166 w3418 g0 sh_42 (by decide) (by decide) rfl q3423 rfl ?_)
                      refine wp_of e196 c196_184 (rw_dup (pc' := 185) rfl rfl ?_)
                      have k3424 : H3416 rp 4 = H3401 rp 4 := (wq_u_t e3417 g3411 grp rfl 4)
                      refine wp_of e196 c196_185 (xg_I (pc' := 188) lf_9_276 w3418 grp sh_54 (by decide) (by decide) ty_54_4 rfl rfl (fun b3425 b3426 => ?_))
                      refine wp_of e196 c196_188 (rw_iconst (pc' := 189) rfl ?_)
                      refine wp_of e196 c196_189 (rw_iadd (pc' := 190) rfl ?_)
                      refine wp_of e196 c196_190 (xp_I (pc' := 193) lf_9_276 w3418 grp sh_54 (by decide) (by decide) ty_54_4 rfl rfl (by omega) (by omega) ⟨by omega, by omega⟩ rfl (fun H3427 e3428 w3429 => ?_))
                      have f3430 := f3419.put' e3428 grp rfl
                      have k3431 : H3427 rp 4 = (H3416 rp 4) + 1 := wq_u_s e3428
                      have h3432 : FZ T H3427 rp N0 H0 := FZ_put h3421 (by decide) e3428
                      have k3433 : H3427 rp 0 = H rp 0 := ((wq_u_j e3428 rfl).trans ((wq_u_t e3417 g3411 grp rfl 0).trans ((wq_u_t e3402 g3395 grp rfl 0).trans ((f3382 rp 0 _ grp rfl).trans ((f3057 rp 0 _ grp rfl).trans ((f3038 rp 0 _ grp rfl).trans ((f3014 rp 0 _ grp rfl).trans (f2993 rp 0 _ grp rfl))))))))
                      have k3434 : H3427 rp 1 = H rp 1 := ((wq_u_j e3428 rfl).trans ((wq_u_t e3417 g3411 grp rfl 1).trans ((wq_u_t e3402 g3395 grp rfl 1).trans ((f3382 rp 1 _ grp rfl).trans ((f3057 rp 1 _ grp rfl).trans ((f3038 rp 1 _ grp rfl).trans ((f3014 rp 1 _ grp rfl).trans (f2993 rp 1 _ grp rfl))))))))
                      have k3435 : H3427 rp 2 = H rp 2 := ((wq_u_j e3428 rfl).trans ((wq_u_t e3417 g3411 grp rfl 2).trans ((wq_u_t e3402 g3395 grp rfl 2).trans ((f3382 rp 2 _ grp rfl).trans ((f3057 rp 2 _ grp rfl).trans ((f3038 rp 2 _ grp rfl).trans ((f3014 rp 2 _ grp rfl).trans (f2993 rp 2 _ grp rfl))))))))
                      have k3436 : H3427 rp 3 = H rp 3 := ((wq_u_j e3428 rfl).trans ((wq_u_t e3417 g3411 grp rfl 3).trans ((wq_u_t e3402 g3395 grp rfl 3).trans ((f3382 rp 3 _ grp rfl).trans ((f3057 rp 3 _ grp rfl).trans ((f3038 rp 3 _ grp rfl).trans ((f3014 rp 3 _ grp rfl).trans (f2993 rp 3 _ grp rfl))))))))
                      have k3437 : H3427 rp 5 = H rp 5 := ((wq_u_j e3428 rfl).trans ((wq_u_t e3417 g3411 grp rfl 5).trans ((wq_u_t e3402 g3395 grp rfl 5).trans ((f3382 rp 5 _ grp rfl).trans ((f3057 rp 5 _ grp rfl).trans ((f3038 rp 5 _ grp rfl).trans ((f3014 rp 5 _ grp rfl).trans (f2993 rp 5 _ grp rfl))))))))
                      have k3438 : H3427 rp 6 = H rp 6 := ((wq_u_j e3428 rfl).trans ((wq_u_t e3417 g3411 grp rfl 6).trans ((wq_u_t e3402 g3395 grp rfl 6).trans ((f3382 rp 6 _ grp rfl).trans ((f3057 rp 6 _ grp rfl).trans ((f3038 rp 6 _ grp rfl).trans ((f3014 rp 6 _ grp rfl).trans (f2993 rp 6 _ grp rfl))))))))
                      have k3439 : H3427 rp 7 = H rp 7 := ((wq_u_j e3428 rfl).trans ((wq_u_t e3417 g3411 grp rfl 7).trans ((wq_u_t e3402 g3395 grp rfl 7).trans ((f3382 rp 7 _ grp rfl).trans ((f3057 rp 7 _ grp rfl).trans ((f3038 rp 7 _ grp rfl).trans ((f3014 rp 7 _ grp rfl).trans (f2993 rp 7 _ grp rfl))))))))
                      have k3440 : H3427 rp 8 = H rp 8 := ((wq_u_j e3428 rfl).trans ((wq_u_t e3417 g3411 grp rfl 8).trans ((wq_u_t e3402 g3395 grp rfl 8).trans ((f3382 rp 8 _ grp rfl).trans ((f3057 rp 8 _ grp rfl).trans ((f3038 rp 8 _ grp rfl).trans ((f3014 rp 8 _ grp rfl).trans (f2993 rp 8 _ grp rfl))))))))
                      have k3441 : H3427 r0 16 = H r0 16 := ((wq_u_t e3428 grp g0 rfl 16).trans ((wq_u_t e3417 g3411 g0 rfl 16).trans ((wq_u_t e3402 g3395 g0 rfl 16).trans ((f3382 r0 16 _ g0 rfl).trans ((f3057 r0 16 _ g0 rfl).trans ((f3038 r0 16 _ g0 rfl).trans ((f3014 r0 16 _ g0 rfl).trans (f2993 r0 16 _ g0 rfl))))))))
                      have o3442 : (xl3 B n q d) = (0, (xN B n q), (xN B n ((xN B n ((xN B n ((xN B n q)))))))) := by
                        unfold xl3 xap
                        repeat first | rw [xs_0 (Int.le_antisymm (by omega -splitDisjunctions) (by omega -splitDisjunctions))] | rw [xs_1 (by omega -splitDisjunctions)] | rw [if_pos (Int.le_antisymm (by omega -splitDisjunctions) (by omega -splitDisjunctions))] | rw [if_pos (by omega -splitDisjunctions)] | rw [if_pos (And.intro (by omega -splitDisjunctions) (by omega -splitDisjunctions))] | rw [if_neg (by omega -splitDisjunctions)] | rw [xs_1 (by omega)] | rw [if_neg (by omega)] | rw [xs_0 (by omega)] | rw [if_pos (by omega)]
                        first | done | rfl | assumption | (exfalso; omega -splitDisjunctions) | (refine Prod.ext ?_ (Prod.ext ?_ ?_) <;> (try dsimp only) <;> omega) | (exfalso; omega)
                      have o3442a : ((xl3 B n q d)).1 = 0 := by rw [o3442]
                      have o3442b : ((xl3 B n q d)).2.1 = (xN B n q) := by rw [o3442]
                      have o3442c : ((xl3 B n q d)).2.2 = (xN B n ((xN B n ((xN B n ((xN B n q))))))) := by rw [o3442]
                      have _l := @xdap_v B n (xN B n q) d
                      have h3443 : RC T H3427 r0 B n (xN B n ((xN B n ((xN B n ((xN B n q))))))) := (RC_fr w3418 g0 ((wfr.rf (l := [(54, 4)])).put' e3428 grp rfl) rfl (RC_fr w3403 g0 ((wfr.rf (l := [(65, 999)])).put' e3417 g3411 rfl) rfl (RC_fr w3381 g0 ((wfr.rf (l := [(64, 999)])).put' e3402 g3395 rfl) rfl p3383)))
                      have h3444 : MA9 T H3427 rp (d 1) := (MA9_fr w3418 grp ((wfr.rf (l := [(54, 4)])).put' e3428 grp rfl) rfl (MA9_fr w3403 grp ((wfr.rf (l := [(65, 999)])).put' e3417 g3411 rfl) rfl (MA9_fr w3381 grp ((wfr.rf (l := [(64, 999)])).put' e3402 g3395 rfl) rfl (MA9_fr w3056 grp f3382 rfl (MA9_fr w3037 grp f3057 rfl (MA9_fr w3013 grp f3038 rfl (MA9_fr w2992 grp f3014 rfl (MA9_fr hW grp f2993 rfl h2540))))))))
                      have h3445 : MA10 T H3427 rp (d 2) := (MA10_fr w3418 grp ((wfr.rf (l := [(54, 4)])).put' e3428 grp rfl) rfl (MA10_fr w3403 grp ((wfr.rf (l := [(65, 999)])).put' e3417 g3411 rfl) rfl (MA10_fr w3381 grp ((wfr.rf (l := [(64, 999)])).put' e3402 g3395 rfl) rfl (MA10_fr w3056 grp f3382 rfl (MA10_fr w3037 grp f3057 rfl (MA10_fr w3013 grp f3038 rfl (MA10_fr w2992 grp f3014 rfl (MA10_fr hW grp f2993 rfl h2541))))))))
                      have h3446 : MA11 T H3427 rp (d 3) := (MA11_fr w3418 grp ((wfr.rf (l := [(54, 4)])).put' e3428 grp rfl) rfl (MA11_fr w3403 grp ((wfr.rf (l := [(65, 999)])).put' e3417 g3411 rfl) rfl (MA11_fr w3381 grp ((wfr.rf (l := [(64, 999)])).put' e3402 g3395 rfl) rfl (MA11_fr w3056 grp f3382 rfl (MA11_fr w3037 grp f3057 rfl (MA11_fr w3013 grp f3038 rfl (MA11_fr w2992 grp f3014 rfl (MA11_fr hW grp f2993 rfl h2542))))))))
                      have h3447 : MA12 T H3427 rp (d 4) := (MA12_fr w3418 grp ((wfr.rf (l := [(54, 4)])).put' e3428 grp rfl) rfl (MA12_fr w3403 grp ((wfr.rf (l := [(65, 999)])).put' e3417 g3411 rfl) rfl (MA12_fr w3381 grp ((wfr.rf (l := [(64, 999)])).put' e3402 g3395 rfl) rfl (MA12_fr w3056 grp f3382 rfl (MA12_fr w3037 grp f3057 rfl (MA12_fr w3013 grp f3038 rfl (MA12_fr w2992 grp f3014 rfl (MA12_fr hW grp f2993 rfl h2543))))))))
                      have h3448 : MA13 T H3427 rp (d 5) := (MA13_fr w3418 grp ((wfr.rf (l := [(54, 4)])).put' e3428 grp rfl) rfl (MA13_fr w3403 grp ((wfr.rf (l := [(65, 999)])).put' e3417 g3411 rfl) rfl (MA13_fr w3381 grp ((wfr.rf (l := [(64, 999)])).put' e3402 g3395 rfl) rfl (MA13_fr w3056 grp f3382 rfl (MA13_fr w3037 grp f3057 rfl (MA13_fr w3013 grp f3038 rfl (MA13_fr w2992 grp f3014 rfl (MA13_fr hW grp f2993 rfl h2544))))))))
                      have h3449 : MA14 T H3427 rp (d 6) := (MA14_fr w3418 grp ((wfr.rf (l := [(54, 4)])).put' e3428 grp rfl) rfl (MA14_fr w3403 grp ((wfr.rf (l := [(65, 999)])).put' e3417 g3411 rfl) rfl (MA14_fr w3381 grp ((wfr.rf (l := [(64, 999)])).put' e3402 g3395 rfl) rfl (MA14_fr w3056 grp f3382 rfl (MA14_fr w3037 grp f3057 rfl (MA14_fr w3013 grp f3038 rfl (MA14_fr w2992 grp f3014 rfl (MA14_fr hW grp f2993 rfl h2545))))))))
                      have h3450 : MA15 T H3427 rp (d 7) := (MA15_fr w3418 grp ((wfr.rf (l := [(54, 4)])).put' e3428 grp rfl) rfl (MA15_fr w3403 grp ((wfr.rf (l := [(65, 999)])).put' e3417 g3411 rfl) rfl (MA15_fr w3381 grp ((wfr.rf (l := [(64, 999)])).put' e3402 g3395 rfl) rfl (MA15_fr w3056 grp f3382 rfl (MA15_fr w3037 grp f3057 rfl (MA15_fr w3013 grp f3038 rfl (MA15_fr w2992 grp f3014 rfl (MA15_fr hW grp f2993 rfl h2546))))))))
                      have h3451 : MA16 T H3427 rp (d 8) := (MA16_fr w3418 grp ((wfr.rf (l := [(54, 4)])).put' e3428 grp rfl) rfl (MA16_fr w3403 grp ((wfr.rf (l := [(65, 999)])).put' e3417 g3411 rfl) rfl (MA16_fr w3381 grp ((wfr.rf (l := [(64, 999)])).put' e3402 g3395 rfl) rfl (MA16_fr w3056 grp f3382 rfl (MA16_fr w3037 grp f3057 rfl (MA16_fr w3013 grp f3038 rfl (MA16_fr w2992 grp f3014 rfl (MA16_fr hW grp f2993 rfl h2547))))))))
                      have h3452 : MA17 T H3427 rp (d 9) := (MA17_fr w3418 grp ((wfr.rf (l := [(54, 4)])).put' e3428 grp rfl) rfl (MA17_fr w3403 grp ((wfr.rf (l := [(65, 999)])).put' e3417 g3411 rfl) rfl (MA17_fr w3381 grp ((wfr.rf (l := [(64, 999)])).put' e3402 g3395 rfl) rfl (MA17_fr w3056 grp f3382 rfl (MA17_fr w3037 grp f3057 rfl (MA17_fr w3013 grp f3038 rfl (MA17_fr w2992 grp f3014 rfl (MA17_fr hW grp f2993 rfl h2548))))))))
                      have h3453 : MA18 T H3427 rp (xdap B n (xN B n q) d 10) := (MA18_fr w3418 grp ((wfr.rf (l := [(54, 4)])).put' e3428 grp rfl) rfl (MA18_fr w3403 grp ((wfr.rf (l := [(65, 999)])).put' e3417 g3411 rfl) rfl h3405))
                      have h3454 : MA19 T H3427 rp (xdap B n (xN B n q) d 11) := (MA19_fr w3418 grp ((wfr.rf (l := [(54, 4)])).put' e3428 grp rfl) rfl h3420)
                      have h3455 : MA20 T H3427 rp (d 12) := (MA20_fr w3418 grp ((wfr.rf (l := [(54, 4)])).put' e3428 grp rfl) rfl (MA20_fr w3403 grp ((wfr.rf (l := [(65, 999)])).put' e3417 g3411 rfl) rfl (MA20_fr w3381 grp ((wfr.rf (l := [(64, 999)])).put' e3402 g3395 rfl) rfl (MA20_fr w3056 grp f3382 rfl (MA20_fr w3037 grp f3057 rfl (MA20_fr w3013 grp f3038 rfl (MA20_fr w2992 grp f3014 rfl (MA20_fr hW grp f2993 rfl h2551))))))))
                      have h3456 : MA21 T H3427 rp (d 13) := (MA21_fr w3418 grp ((wfr.rf (l := [(54, 4)])).put' e3428 grp rfl) rfl (MA21_fr w3403 grp ((wfr.rf (l := [(65, 999)])).put' e3417 g3411 rfl) rfl (MA21_fr w3381 grp ((wfr.rf (l := [(64, 999)])).put' e3402 g3395 rfl) rfl (MA21_fr w3056 grp f3382 rfl (MA21_fr w3037 grp f3057 rfl (MA21_fr w3013 grp f3038 rfl (MA21_fr w2992 grp f3014 rfl (MA21_fr hW grp f2993 rfl h2552))))))))
                      have h3457 : MA22 T H3427 rp (d 14) := (MA22_fr w3418 grp ((wfr.rf (l := [(54, 4)])).put' e3428 grp rfl) rfl (MA22_fr w3403 grp ((wfr.rf (l := [(65, 999)])).put' e3417 g3411 rfl) rfl (MA22_fr w3381 grp ((wfr.rf (l := [(64, 999)])).put' e3402 g3395 rfl) rfl (MA22_fr w3056 grp f3382 rfl (MA22_fr w3037 grp f3057 rfl (MA22_fr w3013 grp f3038 rfl (MA22_fr w2992 grp f3014 rfl (MA22_fr hW grp f2993 rfl h2553))))))))
                      have h3458 : MA23 T H3427 rp (d 15) := (MA23_fr w3418 grp ((wfr.rf (l := [(54, 4)])).put' e3428 grp rfl) rfl (MA23_fr w3403 grp ((wfr.rf (l := [(65, 999)])).put' e3417 g3411 rfl) rfl (MA23_fr w3381 grp ((wfr.rf (l := [(64, 999)])).put' e3402 g3395 rfl) rfl (MA23_fr w3056 grp f3382 rfl (MA23_fr w3037 grp f3057 rfl (MA23_fr w3013 grp f3038 rfl (MA23_fr w2992 grp f3014 rfl (MA23_fr hW grp f2993 rfl h2554))))))))
                      have h3459 : MA25 T H3427 rp (d 17) := (MA25_fr w3418 grp ((wfr.rf (l := [(54, 4)])).put' e3428 grp rfl) rfl (MA25_fr w3403 grp ((wfr.rf (l := [(65, 999)])).put' e3417 g3411 rfl) rfl (MA25_fr w3381 grp ((wfr.rf (l := [(64, 999)])).put' e3402 g3395 rfl) rfl (MA25_fr w3056 grp f3382 rfl (MA25_fr w3037 grp f3057 rfl (MA25_fr w3013 grp f3038 rfl (MA25_fr w2992 grp f3014 rfl (MA25_fr hW grp f2993 rfl h2555))))))))
                      have h3460 : MA26 T H3427 rp (d 16) := (MA26_fr w3418 grp ((wfr.rf (l := [(54, 4)])).put' e3428 grp rfl) rfl (MA26_fr w3403 grp ((wfr.rf (l := [(65, 999)])).put' e3417 g3411 rfl) rfl (MA26_fr w3381 grp ((wfr.rf (l := [(64, 999)])).put' e3402 g3395 rfl) rfl (MA26_fr w3056 grp f3382 rfl (MA26_fr w3037 grp f3057 rfl (MA26_fr w3013 grp f3038 rfl (MA26_fr w2992 grp f3014 rfl (MA26_fr hW grp f2993 rfl h2556))))))))
                      exact wp_return e196 c196_193 rfl ⟨rfl, w3429, f3430, rfl, (Or.inl ⟨by omega, by omega, by omega, h3443, DM_mk hDM_rp.1 ⟨by omega, by omega, by omega, by omega, by omega, by omega, by omega, by omega, by omega, by omega, by omega, by omega⟩ (xdP_cg hDM_rp.2.2.1 (fun i h1 h2 => by unfold xdap; rw [wq_u_row (by omega), wq_u_row (by omega), wq_u_row (by omega)])) h3444 h3445 h3446 h3447 h3448 h3449 h3450 h3451 h3452 h3453 h3454 h3455 h3456 h3457 h3458 h3459 h3460 ⟨(by unfold xdap; rw [wq_u_row (by decide), wq_u_row (by decide), wq_u_row (by decide)]), (by unfold xdap; rw [wq_u_row (by decide), wq_u_row (by decide), wq_u_row (by decide)]), (by unfold xdap; rw [wq_u_row (by decide), wq_u_row (by decide), wq_u_row (by decide)]), (by unfold xdap; rw [wq_u_row (by decide), wq_u_row (by decide), wq_u_row (by decide)]), (by unfold xdap; rw [wq_u_row (by decide), wq_u_row (by decide), wq_u_row (by decide)]), (by unfold xdap; rw [wq_u_row (by decide), wq_u_row (by decide), wq_u_row (by decide)]), (by unfold xdap; rw [wq_u_row (by decide), wq_u_row (by decide), wq_u_row (by decide)]), (by unfold xdap; rw [wq_u_row (by decide), wq_u_row (by decide), wq_u_row (by decide)]), (by unfold xdap; rw [wq_u_row (by decide), wq_u_row (by decide), wq_u_row (by decide)]), rfl, rfl, (by unfold xdap; rw [wq_u_row (by decide), wq_u_row (by decide), wq_u_row (by decide)]), (by unfold xdap; rw [wq_u_row (by decide), wq_u_row (by decide), wq_u_row (by decide)]), (by unfold xdap; rw [wq_u_row (by decide), wq_u_row (by decide), wq_u_row (by decide)]), (by unfold xdap; rw [wq_u_row (by decide), wq_u_row (by decide), wq_u_row (by decide)]), (by unfold xdap; rw [wq_u_row (by decide), wq_u_row (by decide), wq_u_row (by decide)]), (by unfold xdap; rw [wq_u_row (by decide), wq_u_row (by decide), wq_u_row (by decide)])⟩, h3432⟩)⟩
                    · exfalso
                      omega
                  · refine wp_of e196 c196_130 (rw_aload_n (pc' := 131) (v := .ref r0) rfl rfl rfl ?_)
                    refine wp_of e196 c196_131 (rw_iconst (pc' := 132) rfl ?_)
                    refine wp_of e196 c196_132 (xc_V (pc' := 135) (r := r0) (as := [vI 3]) (st := []) (lm_9_121) rfl rfl (Nat.le_of_ble_eq_true rfl) w3056 g0 sh_42 (by decide) rfl (by decide) (u_181_k (B := B) (n := n) (q := ((xN B n ((xN B n ((xN B n q))))))) w3056 g0 ⟨by decide, by decide⟩ (by omega) a3066) (fun R3461 T3462 H3463 p3464 => ?_))
                    obtain ⟨e3465, w3467, f3468, e3466, p3469⟩ := p3464
                    subst e3465
                    subst e3466
                    have f3471 := f3070.tr f3468 rfl
                    have f3472 := f3071.tr f3468 rfl
                    show wp _ _ 196 135 [(4, vI v3355), (3, vI v3356), (0, .ref r0), (1, vI z3015), (2, vI z3058)] [] _ H3463 _
                    have u3473 := RO_k p3469
                    refine wp_of e196 c196_135 (rw_aload_n (pc' := 136) (v := .ref r0) rfl rfl rfl ?_)
                    refine wp_of e196 c196_136 (xc_V (pc' := 139) (r := r0) (as := []) (st := []) (lm_9_118) rfl rfl (Nat.le_of_ble_eq_true rfl) w3467 g0 sh_42 (by decide) rfl (by decide) (u_172_o (fo := 3) (po := (((xN B n ((xN B n ((xN B n q)))))))) w3467 g0 p3469) (fun R3474 T3475 H3476 p3477 => ?_))
                    obtain ⟨e3478, e3480, e3479, p3481⟩ := p3477
                    subst e3478
                    subst e3479
                    subst e3480
                    show wp _ _ 196 139 [(4, vI v3355), (3, vI v3356), (0, .ref r0), (1, vI z3015), (2, vI z3058)] [] _ H3463 _
                    have u3483 := RO_k p3481
                    refine wp_of e196 c196_139 (rw_aload_n (pc' := 140) (v := .ref r0) rfl rfl rfl ?_)
                    refine wp_of e196 c196_140 (xg_I (pc' := 143) lf_9_75 w3467 g0 sh_42 (by decide) (by decide) ty_42_9 rfl rfl (fun b3484 b3485 => ?_))
                    refine wp_of e196 c196_143 (rw_iconst (pc' := 144) rfl ?_)
                    refine wp_of e196 c196_144 (rw_icmp_ne (p1 := 148) (p2 := 147) (by decide) rfl ⟨Int.le_trans (by decide) b3484, Int.le_trans b3485 (by decide)⟩ ⟨by decide, by decide⟩ (fun c3486 => ?_) (fun c3486 => ?_))
                    · exfalso
                      omega
                    · have o3487 : (xl3 B n q d) = (xac d (xwho B n (xN B n q) d) (xwho B n (xN B n (xN B n (xN B n q))) d), (xN B n (xN B n (xN B n q))), (xN B n (xN B n (xN B n q)))) := by
                        unfold xl3 xap
                        repeat first | rw [xs_0 (Int.le_antisymm (by omega -splitDisjunctions) (by omega -splitDisjunctions))] | rw [xs_1 (by omega -splitDisjunctions)] | rw [if_pos (Int.le_antisymm (by omega -splitDisjunctions) (by omega -splitDisjunctions))] | rw [if_pos (by omega -splitDisjunctions)] | rw [if_pos (And.intro (by omega -splitDisjunctions) (by omega -splitDisjunctions))] | rw [if_neg (by omega -splitDisjunctions)] | rw [xs_1 (by omega)] | rw [if_neg (by omega)] | rw [xs_0 (by omega)] | rw [if_pos (by omega)]
                        first | done | rfl | assumption | (exfalso; omega -splitDisjunctions) | (refine Prod.ext ?_ (Prod.ext ?_ ?_) <;> (try dsimp only) <;> omega) | (exfalso; omega)
                      have o3487a : ((xl3 B n q d)).1 = xac d (xwho B n (xN B n q) d) (xwho B n (xN B n (xN B n (xN B n q))) d) := by rw [o3487]
                      have o3487b : ((xl3 B n q d)).2.1 = (xN B n (xN B n (xN B n q))) := by rw [o3487]
                      have o3487c : ((xl3 B n q d)).2.2 = (xN B n (xN B n (xN B n q))) := by rw [o3487]
                      have h3488 : FZ T H3463 rp N0 H0 := (FZ_fr w3056 grp f3468 rfl (FZ_fr w3037 grp f3057 rfl (FZ_fr w3013 grp f3038 rfl (FZ_fr w2992 grp f3014 rfl (FZ_fr hW grp f2993 rfl hFZ_rp)))))
                      exact wp_return e196 c196_147 rfl ⟨rfl, w3467, f3471, rfl, (Or.inr ⟨by omega, RO_eq p3481 (by omega) (by omega), h3488⟩)⟩
                · have jn3518 : ∀ (v3517 : Int), (0 ≤ v3517 ∧ v3517 ≤ 1) → (v3517 = xgg d z3015 z3058 (v3355 + 1)) → wp kt 5 196 120 [(3, vI v3517), (0, .ref r0), (1, vI z3015), (2, vI z3058), (4, vI v3355)] [] T H3052 (uq_196_k r0 rp rb B n q d N0 H0 T H) := by
                    intro v3517 b3521 x3522
                    refine wp_of e196 c196_120 (rw_iinc (pc' := 123) (z := v3355) (L' := [(4, vI (v3355 + 1)), (3, vI v3517), (0, .ref r0), (1, vI z3015), (2, vI z3058)]) rfl rfl rfl rfl ?_)
                    refine wp_of e196 c196_123 (rw_goto (p1 := 42) (by decide) ?_)
                    exact wp_lc (ks := [4, 3, 0, 1, 2]) (wl_c rfl (wl_c rfl (wl_c rfl (wl_c rfl (wl_c rfl wl_n))))) rfl (by decide) (ih3354 _ (by omega) (v3355 + 1) v3517 ⟨by omega, by omega⟩ ⟨by omega, by omega⟩ (by omega) (by omega) rfl)
                  refine wp_of e196 c196_54 (rw_iload_n (pc' := 55) (z := v3356) rfl rfl ?_)
                  refine wp_of e196 c196_55 (rw_if_ne (p1 := 114) (p2 := 58) (by decide) rfl ⟨Int.le_trans (by decide) b3361.1, Int.le_trans b3361.2 (by decide)⟩ (fun c3523 => ?_) (fun c3523 => ?_))
                  · refine wp_of e196 c196_114 (rw_iconst (pc' := 115) rfl ?_)
                    refine wp_of e196 c196_115 (rw_goto (p1 := 119) (by decide) ?_)
                    refine wp_of e196 c196_119 (rw_istore_n (pc' := 120) (z := 1) (L' := [(3, vI 1), (4, vI v3355), (0, .ref r0), (1, vI z3015), (2, vI z3058)]) rfl rfl rfl ?_)
                    have := xgg_s (d := d) (a := z3015) (b := z3058) (i := v3355) (by omega)
                    exact wp_lc (ks := [3, 4, 0, 1, 2]) (wl_c rfl (wl_c rfl (wl_c rfl (wl_c rfl (wl_c rfl wl_n))))) rfl (by decide) (jn3518 1 ⟨by omega, by omega⟩ (by omega))
                  · refine wp_of e196 c196_58 (rw_aload_n (pc' := 59) (v := .ref r0) rfl rfl rfl ?_)
                    refine wp_of e196 c196_59 (xg_K (pc' := 62) lf_9_166 w3056 g0 sh_42 (by decide) (by decide) rfl q3366 rfl ?_)
                    refine wp_of e196 c196_62 (xg_R (pc' := 65) lf_9_282 w3056 grp sh_54 (by decide) (by decide) ty_54_18 rfl rfl (fun r3524 q3525 g3526 => ?_))
                    refine wp_of e196 c196_65 (rw_iload (pc' := 67) (z := v3355) rfl rfl ?_)
                    refine wp_of e196 c196_67 (xa_I (so := 0) (pc' := 68) w3056 g3526 sh_64 (by decide) (ty_64 _) (b3360.1) (by omega) rfl (fun b3527 b3528 => ?_))
                    have h3529 : MA18 T H3052 rp (d 10) := (MA18_fr w3037 grp f3057 rfl (MA18_fr w3013 grp f3038 rfl (MA18_fr w2992 grp f3014 rfl (MA18_fr hW grp f2993 rfl h2549))))
                    have := MA_at h3529 q3525 (k := (v3355.toNat)) (by omega)
                    refine wp_of e196 c196_68 (rw_iload_n (pc' := 69) (z := z3015) rfl rfl ?_)
                    refine wp_of e196 c196_69 (rw_icmp_ne (p1 := 86) (p2 := 72) (by decide) rfl ⟨Int.le_trans (by decide) b3527, Int.le_trans b3528 (by decide)⟩ ⟨Int.le_trans (by decide) b3016.1, Int.le_trans b3016.2 (by decide)⟩ (fun c3530 => ?_) (fun c3530 => ?_))
                    · refine wp_of e196 c196_86 (rw_aload_n (pc' := 87) (v := .ref r0) rfl rfl rfl ?_)
                      refine wp_of e196 c196_87 (xg_K (pc' := 90) lf_9_166 w3056 g0 sh_42 (by decide) (by decide) rfl q3366 rfl ?_)
                      refine wp_of e196 c196_90 (xg_K (pc' := 93) lf_9_282 w3056 grp sh_54 (by decide) (by decide) rfl q3525 rfl ?_)
                      refine wp_of e196 c196_93 (rw_iload (pc' := 95) (z := v3355) rfl rfl ?_)
                      refine wp_of e196 c196_95 (xa_I (so := 0) (pc' := 96) w3056 g3526 sh_64 (by decide) (ty_64 _) (b3360.1) (by omega) rfl (fun b3531 b3532 => ?_))
                      have := MA_at h3529 q3525 (k := (v3355.toNat)) (by omega)
                      refine wp_of e196 c196_96 (rw_iload_n (pc' := 97) (z := z3058) rfl rfl ?_)
                      refine wp_of e196 c196_97 (rw_icmp_ne (p1 := 118) (p2 := 100) (by decide) rfl ⟨Int.le_trans (by decide) b3531, Int.le_trans b3532 (by decide)⟩ ⟨Int.le_trans (by decide) b3059.1, Int.le_trans b3059.2 (by decide)⟩ (fun c3533 => ?_) (fun c3533 => ?_))
                      · refine wp_of e196 c196_118 (rw_iconst (pc' := 119) rfl ?_)
                        refine wp_of e196 c196_119 (rw_istore_n (pc' := 120) (z := 0) (L' := [(3, vI 0), (4, vI v3355), (0, .ref r0), (1, vI z3015), (2, vI z3058)]) rfl rfl rfl ?_)
                        have := xgg_s (d := d) (a := z3015) (b := z3058) (i := v3355) (by omega)
                        exact wp_lc (ks := [3, 4, 0, 1, 2]) (wl_c rfl (wl_c rfl (wl_c rfl (wl_c rfl (wl_c rfl wl_n))))) rfl (by decide) (jn3518 0 ⟨by omega, by omega⟩ (by omega))
                      · refine wp_of e196 c196_100 (rw_aload_n (pc' := 101) (v := .ref r0) rfl rfl rfl ?_)
                        refine wp_of e196 c196_101 (xg_K (pc' := 104) lf_9_166 w3056 g0 sh_42 (by decide) (by decide) rfl q3366 rfl ?_)
                        refine wp_of e196 c196_104 (xg_R (pc' := 107) lf_9_285 w3056 grp sh_54 (by decide) (by decide) ty_54_19 rfl rfl (fun r3534 q3535 g3536 => ?_))
                        refine wp_of e196 c196_107 (rw_iload (pc' := 109) (z := v3355) rfl rfl ?_)
                        refine wp_of e196 c196_109 (xa_I (so := 0) (pc' := 110) w3056 g3536 sh_65 (by decide) (ty_65 _) (b3360.1) (by omega) rfl (fun b3537 b3538 => ?_))
                        have h3539 : MA19 T H3052 rp (d 11) := (MA19_fr w3037 grp f3057 rfl (MA19_fr w3013 grp f3038 rfl (MA19_fr w2992 grp f3014 rfl (MA19_fr hW grp f2993 rfl h2550))))
                        have := MA_at h3539 q3535 (k := (v3355.toNat)) (by omega)
                        refine wp_of e196 c196_110 (rw_iload_n (pc' := 111) (z := z3015) rfl rfl ?_)
                        refine wp_of e196 c196_111 (rw_icmp_ne (p1 := 118) (p2 := 114) (by decide) rfl ⟨Int.le_trans (by decide) b3537, Int.le_trans b3538 (by decide)⟩ ⟨Int.le_trans (by decide) b3016.1, Int.le_trans b3016.2 (by decide)⟩ (fun c3540 => ?_) (fun c3540 => ?_))
                        · refine wp_of e196 c196_118 (rw_iconst (pc' := 119) rfl ?_)
                          refine wp_of e196 c196_119 (rw_istore_n (pc' := 120) (z := 0) (L' := [(3, vI 0), (4, vI v3355), (0, .ref r0), (1, vI z3015), (2, vI z3058)]) rfl rfl rfl ?_)
                          have := xgg_s (d := d) (a := z3015) (b := z3058) (i := v3355) (by omega)
                          exact wp_lc (ks := [3, 4, 0, 1, 2]) (wl_c rfl (wl_c rfl (wl_c rfl (wl_c rfl (wl_c rfl wl_n))))) rfl (by decide) (jn3518 0 ⟨by omega, by omega⟩ (by omega))
                        · refine wp_of e196 c196_114 (rw_iconst (pc' := 115) rfl ?_)
                          refine wp_of e196 c196_115 (rw_goto (p1 := 119) (by decide) ?_)
                          refine wp_of e196 c196_119 (rw_istore_n (pc' := 120) (z := 1) (L' := [(3, vI 1), (4, vI v3355), (0, .ref r0), (1, vI z3015), (2, vI z3058)]) rfl rfl rfl ?_)
                          have := xgg_s (d := d) (a := z3015) (b := z3058) (i := v3355) (by omega)
                          exact wp_lc (ks := [3, 4, 0, 1, 2]) (wl_c rfl (wl_c rfl (wl_c rfl (wl_c rfl (wl_c rfl wl_n))))) rfl (by decide) (jn3518 1 ⟨by omega, by omega⟩ (by omega))
                    · refine wp_of e196 c196_72 (rw_aload_n (pc' := 73) (v := .ref r0) rfl rfl rfl ?_)
                      refine wp_of e196 c196_73 (xg_K (pc' := 76) lf_9_166 w3056 g0 sh_42 (by decide) (by decide) rfl q3366 rfl ?_)
                      refine wp_of e196 c196_76 (xg_R (pc' := 79) lf_9_285 w3056 grp sh_54 (by decide) (by decide) ty_54_19 rfl rfl (fun r3541 q3542 g3543 => ?_))
                      refine wp_of e196 c196_79 (rw_iload (pc' := 81) (z := v3355) rfl rfl ?_)
                      refine wp_of e196 c196_81 (xa_I (so := 0) (pc' := 82) w3056 g3543 sh_65 (by decide) (ty_65 _) (b3360.1) (by omega) rfl (fun b3544 b3545 => ?_))
                      have h3546 : MA19 T H3052 rp (d 11) := (MA19_fr w3037 grp f3057 rfl (MA19_fr w3013 grp f3038 rfl (MA19_fr w2992 grp f3014 rfl (MA19_fr hW grp f2993 rfl h2550))))
                      have := MA_at h3546 q3542 (k := (v3355.toNat)) (by omega)
                      refine wp_of e196 c196_82 (rw_iload_n (pc' := 83) (z := z3058) rfl rfl ?_)
                      refine wp_of e196 c196_83 (rw_icmp_eq (p1 := 114) (p2 := 86) (by decide) rfl ⟨Int.le_trans (by decide) b3544, Int.le_trans b3545 (by decide)⟩ ⟨Int.le_trans (by decide) b3059.1, Int.le_trans b3059.2 (by decide)⟩ (fun c3547 => ?_) (fun c3547 => ?_))
                      · refine wp_of e196 c196_114 (rw_iconst (pc' := 115) rfl ?_)
                        refine wp_of e196 c196_115 (rw_goto (p1 := 119) (by decide) ?_)
                        refine wp_of e196 c196_119 (rw_istore_n (pc' := 120) (z := 1) (L' := [(3, vI 1), (4, vI v3355), (0, .ref r0), (1, vI z3015), (2, vI z3058)]) rfl rfl rfl ?_)
                        have := xgg_s (d := d) (a := z3015) (b := z3058) (i := v3355) (by omega)
                        exact wp_lc (ks := [3, 4, 0, 1, 2]) (wl_c rfl (wl_c rfl (wl_c rfl (wl_c rfl (wl_c rfl wl_n))))) rfl (by decide) (jn3518 1 ⟨by omega, by omega⟩ (by omega))
                      · refine wp_of e196 c196_86 (rw_aload_n (pc' := 87) (v := .ref r0) rfl rfl rfl ?_)
                        refine wp_of e196 c196_87 (xg_K (pc' := 90) lf_9_166 w3056 g0 sh_42 (by decide) (by decide) rfl q3366 rfl ?_)
                        refine wp_of e196 c196_90 (xg_K (pc' := 93) lf_9_282 w3056 grp sh_54 (by decide) (by decide) rfl q3525 rfl ?_)
                        refine wp_of e196 c196_93 (rw_iload (pc' := 95) (z := v3355) rfl rfl ?_)
                        refine wp_of e196 c196_95 (xa_I (so := 0) (pc' := 96) w3056 g3526 sh_64 (by decide) (ty_64 _) (b3360.1) (by omega) rfl (fun b3548 b3549 => ?_))
                        have := MA_at h3529 q3525 (k := (v3355.toNat)) (by omega)
                        refine wp_of e196 c196_96 (rw_iload_n (pc' := 97) (z := z3058) rfl rfl ?_)
                        refine wp_of e196 c196_97 (rw_icmp_ne (p1 := 118) (p2 := 100) (by decide) rfl ⟨Int.le_trans (by decide) b3548, Int.le_trans b3549 (by decide)⟩ ⟨Int.le_trans (by decide) b3059.1, Int.le_trans b3059.2 (by decide)⟩ (fun c3550 => ?_) (fun c3550 => ?_))
                        · refine wp_of e196 c196_118 (rw_iconst (pc' := 119) rfl ?_)
                          refine wp_of e196 c196_119 (rw_istore_n (pc' := 120) (z := 0) (L' := [(3, vI 0), (4, vI v3355), (0, .ref r0), (1, vI z3015), (2, vI z3058)]) rfl rfl rfl ?_)
                          have := xgg_s (d := d) (a := z3015) (b := z3058) (i := v3355) (by omega)
                          exact wp_lc (ks := [3, 4, 0, 1, 2]) (wl_c rfl (wl_c rfl (wl_c rfl (wl_c rfl (wl_c rfl wl_n))))) rfl (by decide) (jn3518 0 ⟨by omega, by omega⟩ (by omega))
                        · refine wp_of e196 c196_100 (rw_aload_n (pc' := 101) (v := .ref r0) rfl rfl rfl ?_)
                          refine wp_of e196 c196_101 (xg_K (pc' := 104) lf_9_166 w3056 g0 sh_42 (by decide) (by decide) rfl q3366 rfl ?_)
                          refine wp_of e196 c196_104 (xg_K (pc' := 107) lf_9_285 w3056 grp sh_54 (by decide) (by decide) rfl q3542 rfl ?_)
                          refine wp_of e196 c196_107 (rw_iload (pc' := 109) (z := v3355) rfl rfl ?_)
                          refine wp_of e196 c196_109 (xa_I (so := 0) (pc' := 110) w3056 g3543 sh_65 (by decide) (ty_65 _) (b3360.1) (by omega) rfl (fun b3551 b3552 => ?_))
                          have := MA_at h3546 q3542 (k := (v3355.toNat)) (by omega)
                          refine wp_of e196 c196_110 (rw_iload_n (pc' := 111) (z := z3015) rfl rfl ?_)
                          refine wp_of e196 c196_111 (rw_icmp_ne (p1 := 118) (p2 := 114) (by decide) rfl ⟨Int.le_trans (by decide) b3551, Int.le_trans b3552 (by decide)⟩ ⟨Int.le_trans (by decide) b3016.1, Int.le_trans b3016.2 (by decide)⟩ (fun c3553 => ?_) (fun c3553 => ?_))
                          · refine wp_of e196 c196_118 (rw_iconst (pc' := 119) rfl ?_)
                            refine wp_of e196 c196_119 (rw_istore_n (pc' := 120) (z := 0) (L' := [(3, vI 0), (4, vI v3355), (0, .ref r0), (1, vI z3015), (2, vI z3058)]) rfl rfl rfl ?_)
                            have := xgg_s (d := d) (a := z3015) (b := z3058) (i := v3355) (by omega)
                            exact wp_lc (ks := [3, 4, 0, 1, 2]) (wl_c rfl (wl_c rfl (wl_c rfl (wl_c rfl (wl_c rfl wl_n))))) rfl (by decide) (jn3518 0 ⟨by omega, by omega⟩ (by omega))
                          · refine wp_of e196 c196_114 (rw_iconst (pc' := 115) rfl ?_)
                            refine wp_of e196 c196_115 (rw_goto (p1 := 119) (by decide) ?_)
                            refine wp_of e196 c196_119 (rw_istore_n (pc' := 120) (z := 1) (L' := [(3, vI 1), (4, vI v3355), (0, .ref r0), (1, vI z3015), (2, vI z3058)]) rfl rfl rfl ?_)
                            have := xgg_s (d := d) (a := z3015) (b := z3058) (i := v3355) (by omega)
                            exact wp_lc (ks := [3, 4, 0, 1, 2]) (wl_c rfl (wl_c rfl (wl_c rfl (wl_c rfl (wl_c rfl wl_n))))) rfl (by decide) (jn3518 1 ⟨by omega, by omega⟩ (by omega))
            have := @xgg_0 d z3015 z3058
            exact wp_lc (ks := [4, 3, 0, 1, 2]) (wl_c rfl (wl_c rfl (wl_c rfl (wl_c rfl (wl_c rfl wl_n))))) rfl (by decide) (lp3352 _ 0 v3074 ⟨by decide, by decide⟩ ⟨by omega, by omega⟩ (by omega) (by omega) rfl)
          refine wp_of e196 c196_28 (rw_iload_n (pc' := 29) (z := z3015) rfl rfl ?_)
          refine wp_of e196 c196_29 (rw_iload_n (pc' := 30) (z := z3058) rfl rfl ?_)
          refine wp_of e196 c196_30 (rw_icmp_ne (p1 := 37) (p2 := 33) (by decide) rfl ⟨Int.le_trans (by decide) b3016.1, Int.le_trans b3016.2 (by decide)⟩ ⟨Int.le_trans (by decide) b3059.1, Int.le_trans b3059.2 (by decide)⟩ (fun c3554 => ?_) (fun c3554 => ?_))
          · refine wp_of e196 c196_37 (rw_iconst (pc' := 38) rfl ?_)
            refine wp_of e196 c196_38 (rw_istore_n (pc' := 39) (z := 0) (L' := [(3, vI 0), (2, vI z3058), (1, vI z3015), (0, .ref r0)]) rfl rfl rfl ?_)
            have := @xgg_0 d z3015 z3058
            exact wp_lc (ks := [3, 2, 1, 0]) (wl_c rfl (wl_c rfl (wl_c rfl (wl_c rfl wl_n)))) rfl (by decide) (jn3075 0 ⟨by omega, by omega⟩ (by omega))
          · refine wp_of e196 c196_33 (rw_iconst (pc' := 34) rfl ?_)
            refine wp_of e196 c196_34 (rw_goto (p1 := 38) (by decide) ?_)
            refine wp_of e196 c196_38 (rw_istore_n (pc' := 39) (z := 1) (L' := [(3, vI 1), (2, vI z3058), (1, vI z3015), (0, .ref r0)]) rfl rfl rfl ?_)
            have := @xgg_0 d z3015 z3058
            exact wp_lc (ks := [3, 2, 1, 0]) (wl_c rfl (wl_c rfl (wl_c rfl (wl_c rfl wl_n)))) rfl (by decide) (jn3075 1 ⟨by omega, by omega⟩ (by omega))
        · have f3555 := f3044.tr f3057 rfl
          have f3556 := f3045.tr f3057 rfl
          show wp _ _ 196 27 [(1, vI z3015), (0, .ref r0)] [vI z3058] _ H3052 _
          have u3557 := RO_k a3069
          refine wp_of e196 c196_27 (rw_istore_n (pc' := 28) (z := z3058) (L' := [(2, vI z3058), (1, vI z3015), (0, .ref r0)]) rfl rfl rfl ?_)
          have o3558 : (xl3 B n q d) = (xkn B n ((xN B n ((xN B n ((xN B n q)))))) d, ((xN B n ((xN B n ((xN B n q)))))), ((xN B n ((xN B n ((xN B n q))))))) := by
            unfold xl3 xap
            repeat first | rw [xs_0 (Int.le_antisymm (by omega -splitDisjunctions) (by omega -splitDisjunctions))] | rw [xs_1 (by omega -splitDisjunctions)] | rw [if_pos (Int.le_antisymm (by omega -splitDisjunctions) (by omega -splitDisjunctions))] | rw [if_pos (by omega -splitDisjunctions)] | rw [if_pos (And.intro (by omega -splitDisjunctions) (by omega -splitDisjunctions))] | rw [if_neg (by omega -splitDisjunctions)] | rw [xs_1 (by omega)] | rw [if_neg (by omega)] | rw [xs_0 (by omega)] | rw [if_pos (by omega)]
            first | done | rfl | assumption | (exfalso; omega -splitDisjunctions) | (refine Prod.ext ?_ (Prod.ext ?_ ?_) <;> (try dsimp only) <;> omega) | (exfalso; omega)
          have o3558a : ((xl3 B n q d)).1 = xkn B n ((xN B n ((xN B n ((xN B n q)))))) d := by rw [o3558]
          have o3558b : ((xl3 B n q d)).2.1 = ((xN B n ((xN B n ((xN B n q)))))) := by rw [o3558]
          have o3558c : ((xl3 B n q d)).2.2 = ((xN B n ((xN B n ((xN B n q)))))) := by rw [o3558]
          have h3559 : FZ T H3052 rp N0 H0 := (FZ_fr w3037 grp f3057 rfl (FZ_fr w3013 grp f3038 rfl (FZ_fr w2992 grp f3014 rfl (FZ_fr hW grp f2993 rfl hFZ_rp))))
          exact wp_lc (ks := [2, 1, 0]) (wl_c rfl (wl_c rfl (wl_c rfl wl_n))) rfl (by decide) (u_196_k_t28o hW g0 qrp grp qrb grb p0 hRC_r0 hDM_rp hFZ_rp z3015 z3058 H3052 (xkn B n ((xN B n ((xN B n ((xN B n q)))))) d) (((xN B n ((xN B n ((xN B n q))))))) w3056 f3556 ⟨by omega, by omega⟩ ⟨by omega, by omega⟩ a3069 h3559 (by omega) (by omega))
      · have f3560 := f3026.tr f3038 rfl
        have f3561 := f3027.tr f3038 rfl
        show wp _ _ 196 23 [(1, vI z3015), (0, .ref r0)] [] _ H3033 _
        have u3562 := RO_k a3043
        refine wp_of e196 c196_23 (rw_aload_n (pc' := 24) (v := .ref r0) rfl rfl rfl ?_)
        have k3563 : H3033 r0 4 = H2988 r0 4 := ((f3038 r0 4 _ g0 rfl).trans (f3014 r0 4 _ g0 rfl))
        have q3564 : H3033 r0 4 = (rp : Int) := k3563.trans q3003
        refine wp_of e196 c196_24 (xc_V (pc' := 27) (r := r0) (as := []) (st := []) (lm_9_176) rfl rfl (Nat.le_of_ble_eq_true rfl) w3037 g0 sh_42 (by decide) rfl (by decide) (u_195_o (fo := (xk B n ((xN B n ((xN B n q)))) 4)) (po := (((xN B n ((xN B n q)))))) w3037 g0 q3564 grp a3043) (fun R3565 T3566 H3567 p3568 => ?_))
        obtain ⟨e3569, e3571, z3572, e3570, b3573, p3574⟩ := p3568
        subst e3569
        subst e3570
        subst e3571
        obtain ⟨a3575, a3576⟩ := p3574
        show wp _ _ 196 27 [(1, vI z3015), (0, .ref r0)] [vI z3572] _ H3033 _
        have u3577 := RO_k a3576
        refine wp_of e196 c196_27 (rw_istore_n (pc' := 28) (z := z3572) (L' := [(2, vI z3572), (1, vI z3015), (0, .ref r0)]) rfl rfl rfl ?_)
        have o3578 : (xl3 B n q d) = (xk B n ((xN B n ((xN B n q)))) 4, ((xN B n ((xN B n q)))), ((xN B n ((xN B n q))))) := by
          unfold xl3 xap
          repeat first | rw [xs_0 (Int.le_antisymm (by omega -splitDisjunctions) (by omega -splitDisjunctions))] | rw [xs_1 (by omega -splitDisjunctions)] | rw [if_pos (Int.le_antisymm (by omega -splitDisjunctions) (by omega -splitDisjunctions))] | rw [if_pos (by omega -splitDisjunctions)] | rw [if_pos (And.intro (by omega -splitDisjunctions) (by omega -splitDisjunctions))] | rw [if_neg (by omega -splitDisjunctions)] | rw [xs_1 (by omega)] | rw [if_neg (by omega)] | rw [xs_0 (by omega)] | rw [if_pos (by omega)]
          first | done | rfl | assumption | (exfalso; omega -splitDisjunctions) | (refine Prod.ext ?_ (Prod.ext ?_ ?_) <;> (try dsimp only) <;> omega) | (exfalso; omega)
        have o3578a : ((xl3 B n q d)).1 = xk B n ((xN B n ((xN B n q)))) 4 := by rw [o3578]
        have o3578b : ((xl3 B n q d)).2.1 = ((xN B n ((xN B n q)))) := by rw [o3578]
        have o3578c : ((xl3 B n q d)).2.2 = ((xN B n ((xN B n q)))) := by rw [o3578]
        have h3579 : FZ T H3033 rp N0 H0 := (FZ_fr w3013 grp f3038 rfl (FZ_fr w2992 grp f3014 rfl (FZ_fr hW grp f2993 rfl hFZ_rp)))
        exact wp_lc (ks := [2, 1, 0]) (wl_c rfl (wl_c rfl (wl_c rfl wl_n))) rfl (by decide) (u_196_k_t28o hW g0 qrp grp qrb grb p0 hRC_r0 hDM_rp hFZ_rp z3015 z3572 H3033 (xk B n ((xN B n ((xN B n q)))) 4) (((xN B n ((xN B n q))))) w3037 f3561 ⟨by omega, by omega⟩ ⟨by omega, by omega⟩ a3576 h3579 (by omega) (by omega))
    · have f3580 := f2999.tr f3014 rfl
      have f3581 := f3000.tr f3014 rfl
      show wp _ _ 196 16 [(0, .ref r0)] [vI z3015] _ H3009 _
      have u3582 := RO_k a3025
      refine wp_of e196 c196_16 (rw_istore_n (pc' := 17) (z := z3015) (L' := [(1, vI z3015), (0, .ref r0)]) rfl rfl rfl ?_)
      refine wp_of e196 c196_17 (rw_aload_n (pc' := 18) (v := .ref r0) rfl rfl rfl ?_)
      refine wp_of e196 c196_18 (rw_bipush (pc' := 20) (z := 44) rfl (by decide) ?_)
      have k3583 : H3009 r0 5 = H2988 r0 5 := (f3014 r0 5 _ g0 rfl)
      have q3584 : H3009 r0 5 = (rb : Int) := k3583.trans q3005
      refine wp_of e196 c196_20 (xc_V (pc' := 23) (r := r0) (as := [vI 44]) (st := []) (lm_9_279) rfl rfl (Nat.le_of_ble_eq_true rfl) w3013 g0 sh_42 (by decide) rfl (by decide) (u_197_o (fo := (xkn B n ((xN B n q)) d)) (po := (((xN B n q)))) w3013 g0 ⟨by decide, by decide⟩ q3584 grb a3025) (fun R3585 T3586 H3587 p3588 => ?_))
      obtain ⟨e3589, e3591, e3590, p3592⟩ := p3588
      subst e3589
      subst e3590
      subst e3591
      show wp _ _ 196 23 [(1, vI z3015), (0, .ref r0)] [] _ H3009 _
      have u3594 := RO_k p3592
      refine wp_of e196 c196_23 (rw_aload_n (pc' := 24) (v := .ref r0) rfl rfl rfl ?_)
      have k3595 : H3009 r0 4 = H2988 r0 4 := (f3014 r0 4 _ g0 rfl)
      have q3596 : H3009 r0 4 = (rp : Int) := k3595.trans q3003
      refine wp_of e196 c196_24 (xc_V (pc' := 27) (r := r0) (as := []) (st := []) (lm_9_176) rfl rfl (Nat.le_of_ble_eq_true rfl) w3013 g0 sh_42 (by decide) rfl (by decide) (u_195_o (fo := (xkn B n ((xN B n q)) d)) (po := (((xN B n q)))) w3013 g0 q3596 grp p3592) (fun R3597 T3598 H3599 p3600 => ?_))
      obtain ⟨e3601, e3603, z3604, e3602, b3605, p3606⟩ := p3600
      subst e3601
      subst e3602
      subst e3603
      obtain ⟨a3607, a3608⟩ := p3606
      show wp _ _ 196 27 [(1, vI z3015), (0, .ref r0)] [vI z3604] _ H3009 _
      have u3609 := RO_k a3608
      refine wp_of e196 c196_27 (rw_istore_n (pc' := 28) (z := z3604) (L' := [(2, vI z3604), (1, vI z3015), (0, .ref r0)]) rfl rfl rfl ?_)
      have o3610 : (xl3 B n q d) = (xkn B n ((xN B n q)) d, ((xN B n q)), ((xN B n q))) := by
        unfold xl3 xap
        repeat first | rw [xs_0 (Int.le_antisymm (by omega -splitDisjunctions) (by omega -splitDisjunctions))] | rw [xs_1 (by omega -splitDisjunctions)] | rw [if_pos (Int.le_antisymm (by omega -splitDisjunctions) (by omega -splitDisjunctions))] | rw [if_pos (by omega -splitDisjunctions)] | rw [if_pos (And.intro (by omega -splitDisjunctions) (by omega -splitDisjunctions))] | rw [if_neg (by omega -splitDisjunctions)] | rw [xs_1 (by omega)] | rw [if_neg (by omega)] | rw [xs_0 (by omega)] | rw [if_pos (by omega)]
        first | done | rfl | assumption | (exfalso; omega -splitDisjunctions) | (refine Prod.ext ?_ (Prod.ext ?_ ?_) <;> (try dsimp only) <;> omega) | (exfalso; omega)
      have o3610a : ((xl3 B n q d)).1 = xkn B n ((xN B n q)) d := by rw [o3610]
      have o3610b : ((xl3 B n q d)).2.1 = ((xN B n q)) := by rw [o3610]
      have o3610c : ((xl3 B n q d)).2.2 = ((xN B n q)) := by rw [o3610]
      have h3611 : FZ T H3009 rp N0 H0 := (FZ_fr w2992 grp f3014 rfl (FZ_fr hW grp f2993 rfl hFZ_rp))
      exact wp_lc (ks := [2, 1, 0]) (wl_c rfl (wl_c rfl (wl_c rfl wl_n))) rfl (by decide) (u_196_k_t28o hW g0 qrp grp qrb grb p0 hRC_r0 hDM_rp hFZ_rp z3015 z3604 H3009 (xkn B n ((xN B n q)) d) (((xN B n q))) w3013 f3581 ⟨by omega, by omega⟩ ⟨by omega, by omega⟩ a3608 h3611 (by omega) (by omega))
  · have f3612 := f0.tr f2993 rfl
    have f3613 := f0s.tr f2993 rfl
    show wp _ _ 196 12 [(0, .ref r0)] [] _ H2988 _
    have u3614 := RO_k a2998
    refine wp_of e196 c196_12 (rw_aload_n (pc' := 13) (v := .ref r0) rfl rfl rfl ?_)
    have k3615 : H2988 r0 4 = H r0 4 := (f2993 r0 4 _ g0 rfl)
    have q3616 : H2988 r0 4 = (rp : Int) := k3615.trans qrp
    have k3617 : H2988 r0 5 = H r0 5 := (f2993 r0 5 _ g0 rfl)
    have q3618 : H2988 r0 5 = (rb : Int) := k3617.trans qrb
    refine wp_of e196 c196_13 (xc_V (pc' := 16) (r := r0) (as := []) (st := []) (lm_9_273) rfl rfl (Nat.le_of_ble_eq_true rfl) w2992 g0 sh_42 (by decide) rfl (by decide) (u_194_o (fo := 5) (po := q) w2992 g0 q3616 grp q3618 grb a2998) (fun R3619 T3620 H3621 p3622 => ?_))
    obtain ⟨e3623, e3625, z3626, e3624, b3627, p3628⟩ := p3622
    subst e3623
    subst e3624
    subst e3625
    obtain ⟨a3629, a3630⟩ := p3628
    show wp _ _ 196 16 [(0, .ref r0)] [vI z3626] _ H2988 _
    have u3631 := RO_k a3630
    refine wp_of e196 c196_16 (rw_istore_n (pc' := 17) (z := z3626) (L' := [(1, vI z3626), (0, .ref r0)]) rfl rfl rfl ?_)
    refine wp_of e196 c196_17 (rw_aload_n (pc' := 18) (v := .ref r0) rfl rfl rfl ?_)
    refine wp_of e196 c196_18 (rw_bipush (pc' := 20) (z := 44) rfl (by decide) ?_)
    refine wp_of e196 c196_20 (xc_V (pc' := 23) (r := r0) (as := [vI 44]) (st := []) (lm_9_279) rfl rfl (Nat.le_of_ble_eq_true rfl) w2992 g0 sh_42 (by decide) rfl (by decide) (u_197_o (fo := 5) (po := q) w2992 g0 ⟨by decide, by decide⟩ q3618 grb a3630) (fun R3632 T3633 H3634 p3635 => ?_))
    obtain ⟨e3636, e3638, e3637, p3639⟩ := p3635
    subst e3636
    subst e3637
    subst e3638
    show wp _ _ 196 23 [(1, vI z3626), (0, .ref r0)] [] _ H2988 _
    have u3641 := RO_k p3639
    refine wp_of e196 c196_23 (rw_aload_n (pc' := 24) (v := .ref r0) rfl rfl rfl ?_)
    refine wp_of e196 c196_24 (xc_V (pc' := 27) (r := r0) (as := []) (st := []) (lm_9_176) rfl rfl (Nat.le_of_ble_eq_true rfl) w2992 g0 sh_42 (by decide) rfl (by decide) (u_195_o (fo := 5) (po := q) w2992 g0 q3616 grp p3639) (fun R3642 T3643 H3644 p3645 => ?_))
    obtain ⟨e3646, e3648, z3649, e3647, b3650, p3651⟩ := p3645
    subst e3646
    subst e3647
    subst e3648
    obtain ⟨a3652, a3653⟩ := p3651
    show wp _ _ 196 27 [(1, vI z3626), (0, .ref r0)] [vI z3649] _ H2988 _
    have u3654 := RO_k a3653
    refine wp_of e196 c196_27 (rw_istore_n (pc' := 28) (z := z3649) (L' := [(2, vI z3649), (1, vI z3626), (0, .ref r0)]) rfl rfl rfl ?_)
    have o3655 : (xl3 B n q d) = (5, q, q) := by
      unfold xl3 xap
      repeat first | rw [xs_0 (Int.le_antisymm (by omega -splitDisjunctions) (by omega -splitDisjunctions))] | rw [xs_1 (by omega -splitDisjunctions)] | rw [if_pos (Int.le_antisymm (by omega -splitDisjunctions) (by omega -splitDisjunctions))] | rw [if_pos (by omega -splitDisjunctions)] | rw [if_pos (And.intro (by omega -splitDisjunctions) (by omega -splitDisjunctions))] | rw [if_neg (by omega -splitDisjunctions)] | rw [xs_1 (by omega)] | rw [if_neg (by omega)] | rw [xs_0 (by omega)] | rw [if_pos (by omega)]
      first | done | rfl | assumption | (exfalso; omega -splitDisjunctions) | (refine Prod.ext ?_ (Prod.ext ?_ ?_) <;> (try dsimp only) <;> omega) | (exfalso; omega)
    have o3655a : ((xl3 B n q d)).1 = 5 := by rw [o3655]
    have o3655b : ((xl3 B n q d)).2.1 = q := by rw [o3655]
    have o3655c : ((xl3 B n q d)).2.2 = q := by rw [o3655]
    have h3656 : FZ T H2988 rp N0 H0 := (FZ_fr hW grp f2993 rfl hFZ_rp)
    exact wp_lc (ks := [2, 1, 0]) (wl_c rfl (wl_c rfl (wl_c rfl wl_n))) rfl (by decide) (u_196_k_t28o hW g0 qrp grp qrb grb p0 hRC_r0 hDM_rp hFZ_rp z3626 z3649 H2988 5 q w2992 f3613 ⟨by omega, by omega⟩ ⟨by omega, by omega⟩ a3653 h3656 (by omega) (by omega))
