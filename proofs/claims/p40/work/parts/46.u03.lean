/-! what methods do (own work, written by wip/gen3/sx3.py) -/
/-! StrikeAwakeModel.readStruck()V k -/
abbrev uq_199_k (r0 : Nat) (rp : Nat) (rb : Nat) (B : Nat → Int) (n : Int) (q : Int) (d : xD) (N0 : Nat) (H0 : wq_H) (T : wq_T) (H : wq_H) : Option Value → wq_T → wq_H → Prop := fun r T' H' => T = T' ∧ WT T H' ∧ wfr [(42, 8), (42, 9), (42, 10), (42, 11), (42, 12), (42, 13), (42, 14), (42, 15), (42, 16), (67, 999)] T H H' ∧ none = r ∧ ((((xl5 B n q d).1 = 0) ∧ ((xl5 B n q d).2.2 = (xN B n (xN B n (xN B n (xN B n q))))) ∧ (q ≤ (xN B n (xN B n (xN B n (xN B n q))))) ∧ RC T H' r0 B n (xN B n (xN B n (xN B n (xN B n q)))) ∧ DM T H' rp r0 (xdst B n (xN B n q) d) ∧ FZ T H' rp N0 H0) ∨ (((xl5 B n q d).1 ≠ 0) ∧ RO T H' r0 ((xl5 B n q d).1) ((xl5 B n q d).2.1) ∧ FZ T H' rp N0 H0))
set_option maxHeartbeats 4000000 in
theorem u_199_k {kt : Nat → Option mc_E} {T : wq_T} {H : wq_H} {r0 : Nat} {rp : Nat} {rb : Nat} {B : Nat → Int} {n : Int} {q : Int} {d : xD} {N0 : Nat} {H0 : wq_H} (hW : WT T H) (g0 : T.2.2.2 r0 = some 42) (qrp : H r0 4 = (rp : Int)) (grp : T.2.2.2 rp = some 54) (qrb : H r0 5 = (rb : Int)) (grb : T.2.2.2 rb = some 43) (p0 : xK B n q = 1) (hRC_r0 : RC T H r0 B n q) (hDM_rp : DM T H rp r0 d) (hFZ_rp : FZ T H rp N0 H0) : wpc kt 5 199 [.ref r0] T H (uq_199_k r0 rp rb B n q d N0 H0 T H) := by
  refine wp_enter e199 (Nat.le_of_ble_eq_true rfl) rfl ?_
  have f0 : wfr [(42, 8), (42, 9), (42, 10), (42, 11), (42, 12), (42, 13), (42, 14), (42, 15), (42, 16), (67, 999)] T H H := wfr.rf
  show wp _ _ 199 0 [(0, .ref r0)] [] _ H _
  have u1241 := RC_k hRC_r0
  have u1242 := DM_k hDM_rp
  have h1243 : MA9 T H rp (d 1) := hDM_rp.2.2.2.1
  have h1244 : MA10 T H rp (d 2) := hDM_rp.2.2.2.2.1
  have h1245 : MA11 T H rp (d 3) := hDM_rp.2.2.2.2.2.1
  have h1246 : MA12 T H rp (d 4) := hDM_rp.2.2.2.2.2.2.1
  have h1247 : MA13 T H rp (d 5) := hDM_rp.2.2.2.2.2.2.2.1
  have h1248 : MA14 T H rp (d 6) := hDM_rp.2.2.2.2.2.2.2.2.1
  have h1249 : MA15 T H rp (d 7) := hDM_rp.2.2.2.2.2.2.2.2.2.1
  have h1250 : MA16 T H rp (d 8) := hDM_rp.2.2.2.2.2.2.2.2.2.2.1
  have h1251 : MA17 T H rp (d 9) := hDM_rp.2.2.2.2.2.2.2.2.2.2.2.1
  have h1252 : MA18 T H rp (d 10) := hDM_rp.2.2.2.2.2.2.2.2.2.2.2.2.1
  have h1253 : MA19 T H rp (d 11) := hDM_rp.2.2.2.2.2.2.2.2.2.2.2.2.2.1
  have h1254 : MA20 T H rp (d 12) := hDM_rp.2.2.2.2.2.2.2.2.2.2.2.2.2.2.1
  have h1255 : MA21 T H rp (d 13) := hDM_rp.2.2.2.2.2.2.2.2.2.2.2.2.2.2.2.1
  have h1256 : MA22 T H rp (d 14) := hDM_rp.2.2.2.2.2.2.2.2.2.2.2.2.2.2.2.2.1
  have h1257 : MA23 T H rp (d 15) := hDM_rp.2.2.2.2.2.2.2.2.2.2.2.2.2.2.2.2.2.1
  have h1258 : MA25 T H rp (d 17) := hDM_rp.2.2.2.2.2.2.2.2.2.2.2.2.2.2.2.2.2.2.1
  have h1259 : MA26 T H rp (d 16) := hDM_rp.2.2.2.2.2.2.2.2.2.2.2.2.2.2.2.2.2.2.2
  refine wp_of e199 c199_0 (rw_aload_n (pc' := 1) (v := .ref r0) rfl rfl rfl ?_)
  refine wp_of e199 c199_1 (rw_aload_n (pc' := 2) (v := .ref r0) rfl rfl rfl ?_)
  refine wp_of e199 c199_2 (xg_I (pc' := 5) lf_9_293 hW g0 sh_42 (by decide) (by decide) ty_42_16 rfl rfl (fun b1260 b1261 => ?_))
  refine wp_of e199 c199_5 (rw_bipush (pc' := 7) (z := 24) rfl (by decide) ?_)
  refine wp_of e199 c199_7 (xc_V (pc' := 10) (r := r0) (as := [vI (H r0 16), vI 24]) (st := []) (lm_9_228) rfl rfl (Nat.le_of_ble_eq_true rfl) hW g0 sh_42 (by decide) rfl (by decide) (u_188_k (B := B) (n := n) (q := q) hW g0 ⟨Int.le_trans (by decide) b1260, Int.le_trans b1261 (by decide)⟩ ⟨by decide, by decide⟩ qrb grb (by omega) hRC_r0) (fun R1262 T1263 H1264 p1265 => ?_))
  obtain ⟨e1266, w1268, f1269, e1267, p1270⟩ := p1265
  subst e1266
  subst e1267
  rcases p1270 with ⟨a1271, a1272⟩ | ⟨a1273, a1274⟩
  · have f1275 := f0.tr f1269 rfl
    show wp _ _ 199 10 [(0, .ref r0)] [] _ H1264 _
    have u1276 := RC_k a1272
    have _h := @xsh_b B n (xN B n q) d
    have _hb := @xh_b B n (xN B n q) 0 23
    have _vb := @xV_b2 B n (xN B n q)
    refine wp_of e199 c199_10 (rw_aload_n (pc' := 11) (v := .ref r0) rfl rfl rfl ?_)
    refine wp_of e199 c199_11 (rw_iconst (pc' := 12) rfl ?_)
    refine wp_of e199 c199_12 (rw_bipush (pc' := 14) (z := 23) rfl (by decide) ?_)
    refine wp_of e199 c199_14 (xc_V (pc' := 17) (r := r0) (as := [vI 0, vI 23]) (st := []) (lm_9_129) rfl rfl (Nat.le_of_ble_eq_true rfl) w1268 g0 sh_42 (by decide) rfl (by decide) (u_185_k (B := B) (n := n) (q := ((xN B n q))) (lo := 0) (hi := 23) w1268 g0 ⟨by decide, by decide⟩ ⟨by decide, by decide⟩ (by omega) (by omega) a1272) (fun R1277 T1278 H1279 p1280 => ?_))
    obtain ⟨e1281, w1283, f1284, z1285, e1282, b1286, p1287⟩ := p1280
    subst e1281
    subst e1282
    rcases p1287 with ⟨a1288, a1289, a1290, a1291, a1292⟩ | ⟨a1293, a1294, a1295⟩
    · have f1296 := f1275.tr f1284 rfl
      show wp _ _ 199 17 [(0, .ref r0)] [vI z1285] _ H1279 _
      have u1297 := RC_k a1292
      refine wp_of e199 c199_17 (rw_istore_n (pc' := 18) (z := z1285) (L' := [(1, vI z1285), (0, .ref r0)]) rfl rfl rfl ?_)
      refine wp_of e199 c199_18 (rw_aload_n (pc' := 19) (v := .ref r0) rfl rfl rfl ?_)
      refine wp_of e199 c199_19 (xg_I (pc' := 22) lf_9_75 w1283 g0 sh_42 (by decide) (by decide) ty_42_9 rfl rfl (fun b1298 b1299 => ?_))
      refine wp_of e199 c199_22 (rw_iconst (pc' := 23) rfl ?_)
      refine wp_of e199 c199_23 (rw_icmp_eq (p1 := 43) (p2 := 26) (by decide) rfl ⟨Int.le_trans (by decide) b1298, Int.le_trans b1299 (by decide)⟩ ⟨by decide, by decide⟩ (fun c1300 => ?_) (fun c1300 => ?_))
      · exfalso
        omega
      · refine wp_of e199 c199_26 (rw_aload_n (pc' := 27) (v := .ref r0) rfl rfl rfl ?_)
        have k1301 : H1279 r0 4 = H r0 4 := ((f1284 r0 4 _ g0 rfl).trans (f1269 r0 4 _ g0 rfl))
        have q1302 : H1279 r0 4 = (rp : Int) := k1301.trans qrp
        refine wp_of e199 c199_27 (xg_K (pc' := 30) lf_9_166 w1283 g0 sh_42 (by decide) (by decide) rfl q1302 rfl ?_)
        refine wp_of e199 c199_30 (xg_R (pc' := 33) lf_9_296 w1283 grp sh_54 (by decide) (by decide) ty_54_21 rfl rfl (fun r1303 q1304 g1305 => ?_))
        refine wp_of e199 c199_33 (rw_iload_n (pc' := 34) (z := z1285) rfl rfl ?_)
        refine wp_of e199 c199_34 (xa_I (so := 0) (pc' := 35) w1283 g1305 sh_67 (by decide) (ty_67 _) (b1286.1) (by omega) rfl (fun b1306 b1307 => ?_))
        have h1308 : MA21 T H1279 rp (d 13) := (MA21_fr w1268 grp f1284 rfl (MA21_fr hW grp f1269 rfl h1255))
        have := MA_at h1308 q1304 (k := (z1285.toNat)) (by omega)
        have _c : d 13 (z1285.toNat) = d 13 (xV B n (xN B n q)).toNat := by rw [show z1285 = xV B n (xN B n q) by omega]
        refine wp_of e199 c199_35 (rw_if_le (p1 := 43) (p2 := 38) (by decide) rfl ⟨b1306, b1307⟩ (fun c1309 => ?_) (fun c1309 => ?_))
        · refine wp_of e199 c199_43 (rw_aload_n (pc' := 44) (v := .ref r0) rfl rfl rfl ?_)
          have k1310 : H1279 r0 5 = H r0 5 := ((f1284 r0 5 _ g0 rfl).trans (f1269 r0 5 _ g0 rfl))
          have q1311 : H1279 r0 5 = (rb : Int) := k1310.trans qrb
          have u1312 := RC_a a1292
          have h1313 : TM T H1279 rb B := RC_tm a1292 q1311
          refine wp_of e199 c199_44 (xc_V (pc' := 47) (r := r0) (as := []) (st := []) (lm_9_118) rfl rfl (Nat.le_of_ble_eq_true rfl) w1283 g0 sh_42 (by decide) rfl (by decide) (u_172_k (B := B) (n := n) (a := (xE B n ((xN B n q)))) (q := (xN B n ((xN B n q)))) w1283 g0 q1311 grb (by omega) (by omega) (by omega) (by omega) (by omega) (rfl) h1313) (fun R1314 T1315 H1316 p1317 => ?_))
          obtain ⟨e1318, w1320, f1321, e1319, p1322⟩ := p1317
          subst e1318
          subst e1319
          have f1324 := f1296.tr f1321 rfl
          show wp _ _ 199 47 [(1, vI z1285), (0, .ref r0)] [] _ H1316 _
          have u1325 := RC_k p1322
          refine wp_of e199 c199_47 (rw_aload_n (pc' := 48) (v := .ref r0) rfl rfl rfl ?_)
          refine wp_of e199 c199_48 (rw_ldc_wS (pc' := 51) (k := 89) rfl rfl rfl rfl ?_)
          refine wp_of e199 c199_51 (rw_iconst (pc' := 52) rfl ?_)
          refine wp_of e199 c199_52 (rw_bipush (pc' := 54) (z := 99) rfl (by decide) ?_)
          have k1326 : H1316 r0 5 = H1279 r0 5 := (f1321 r0 5 _ g0 rfl)
          have q1327 : H1316 r0 5 = (rb : Int) := k1326.trans q1311
          refine wp_of e199 c199_54 (xc_V (pc' := 57) (r := r0) (as := [.ref 89, vI 0, vI 99]) (st := []) (lm_9_216) rfl rfl (Nat.le_of_ble_eq_true rfl) w1320 g0 sh_42 (by decide) rfl (by decide) (u_182_k (B := B) (n := n) (q := ((xN B n ((xN B n q))))) (kk := 307) (lo := 0) (hi := 99) w1320 g0 rfl ⟨by decide, by decide⟩ ⟨by decide, by decide⟩ q1327 grb (by decide +kernel) (by omega) (by omega) p1322) (fun R1328 T1329 H1330 p1331 => ?_))
          obtain ⟨e1332, w1334, f1335, z1336, e1333, b1337, p1338⟩ := p1331
          subst e1332
          subst e1333
          rcases p1338 with ⟨a1339, a1340, a1341, a1342, a1343, a1344⟩ | ⟨a1345, a1346, a1347⟩ | ⟨a1348, a1349, a1350, a1351⟩
          · have f1352 := f1324.tr f1335 rfl
            show wp _ _ 199 57 [(1, vI z1285), (0, .ref r0)] [vI z1336] _ H1330 _
            have u1353 := RC_k a1344
            refine wp_of e199 c199_57 (rw_istore_n (pc' := 58) (z := z1336) (L' := [(2, vI z1336), (1, vI z1285), (0, .ref r0)]) rfl rfl rfl ?_)
            refine wp_of e199 c199_58 (rw_aload_n (pc' := 59) (v := .ref r0) rfl rfl rfl ?_)
            refine wp_of e199 c199_59 (xg_I (pc' := 62) lf_9_75 w1334 g0 sh_42 (by decide) (by decide) ty_42_9 rfl rfl (fun b1354 b1355 => ?_))
            refine wp_of e199 c199_62 (rw_iconst (pc' := 63) rfl ?_)
            refine wp_of e199 c199_63 (rw_icmp_ne (p1 := 67) (p2 := 66) (by decide) rfl ⟨Int.le_trans (by decide) b1354, Int.le_trans b1355 (by decide)⟩ ⟨by decide, by decide⟩ (fun c1356 => ?_) (fun c1356 => ?_))
            · refine wp_of e199 c199_67 (rw_aload_n (pc' := 68) (v := .ref r0) rfl rfl rfl ?_)
              have k1357 : H1330 r0 4 = H1279 r0 4 := ((f1335 r0 4 _ g0 rfl).trans (f1321 r0 4 _ g0 rfl))
              have q1358 : H1330 r0 4 = (rp : Int) := k1357.trans q1302
              refine wp_of e199 c199_68 (xg_K (pc' := 71) lf_9_166 w1334 g0 sh_42 (by decide) (by decide) rfl q1358 rfl ?_)
              have k1359 : H1330 rp 21 = H1279 rp 21 := ((f1335 rp 21 _ grp rfl).trans (f1321 rp 21 _ grp rfl))
              have q1360 : H1330 rp 21 = (r1303 : Int) := k1359.trans q1304
              refine wp_of e199 c199_71 (xg_K (pc' := 74) lf_9_296 w1334 grp sh_54 (by decide) (by decide) rfl q1360 rfl ?_)
              refine wp_of e199 c199_74 (rw_iload_n (pc' := 75) (z := z1285) rfl rfl ?_)
              refine wp_of e199 c199_75 (rw_iload_n (pc' := 76) (z := z1336) rfl rfl ?_)
              refine wp_of e199 c199_76 (rw_iconst (pc' := 77) rfl ?_)
              refine wp_of e199 c199_77 (rw_iadd (pc' := 78) rfl ?_)
              have h1361 : MA21 T H1330 rp (d 13) := (MA21_fr w1320 grp f1335 rfl (MA21_fr w1283 grp f1321 rfl h1308))
              have h1362 : FZ T H1330 rp N0 H0 := (FZ_fr w1320 grp f1335 rfl (FZ_fr w1283 grp f1321 rfl (FZ_fr w1268 grp f1284 rfl (FZ_fr hW grp f1269 rfl hFZ_rp))))
              refine wp_of e199 c199_78 (xs_I (pc' := 79) w1334 g1305 (by decide) sh_67 (by decide) (ty_67 _) (by omega) (by omega) ⟨by omega, by omega⟩ (b1286.1) (by omega) rfl (fun H1363 e1364 w1365 => ?_))
              have f1366 := f1352.put' e1364 g1305 rfl
              have h1367 : MA21 T H1363 rp (xdst B n (xN B n q) d 13) := MA_put h1361 q1360 grp g1305 (by decide) e1364 ((xdst_c (k := (z1285.toNat)) (by omega)).1.trans (by omega)) (xdst_c (k := (z1285.toNat)) (by omega)).2
              have h1368 : FZ T H1363 rp N0 H0 := FZ_st h1362 q1360 (by decide) (by decide) grp g1305 (by decide) e1364
              refine wp_of e199 c199_79 (rw_aload_n (pc' := 80) (v := .ref r0) rfl rfl rfl ?_)
              refine wp_of e199 c199_80 (rw_dup (pc' := 81) rfl rfl ?_)
              have k1369 : H1363 r0 16 = H r0 16 := ((wq_u_t e1364 g1305 g0 rfl 16).trans ((f1335 r0 16 _ g0 rfl).trans ((f1321 r0 16 _ g0 rfl).trans ((f1284 r0 16 _ g0 rfl).trans (f1269 r0 16 _ g0 rfl)))))
              refine wp_of e199 c199_81 (xg_I (pc' := 84) lf_9_293 w1365 g0 sh_42 (by decide) (by decide) ty_42_16 rfl rfl (fun b1370 b1371 => ?_))
              refine wp_of e199 c199_84 (rw_iconst (pc' := 85) rfl ?_)
              refine wp_of e199 c199_85 (rw_iadd (pc' := 86) rfl ?_)
              refine wp_of e199 c199_86 (xp_I (pc' := 89) lf_9_293 w1365 g0 sh_42 (by decide) (by decide) ty_42_16 rfl rfl (by omega) (by omega) ⟨by omega, by omega⟩ rfl (fun H1372 e1373 w1374 => ?_))
              have f1375 := f1366.put' e1373 g0 rfl
              have k1376 : H1372 r0 16 = (H1363 r0 16) + 1 := wq_u_s e1373
              have k1377 : H1372 rp 0 = H rp 0 := ((wq_u_t e1373 g0 grp rfl 0).trans ((wq_u_t e1364 g1305 grp rfl 0).trans ((f1335 rp 0 _ grp rfl).trans ((f1321 rp 0 _ grp rfl).trans ((f1284 rp 0 _ grp rfl).trans (f1269 rp 0 _ grp rfl))))))
              have k1378 : H1372 rp 1 = H rp 1 := ((wq_u_t e1373 g0 grp rfl 1).trans ((wq_u_t e1364 g1305 grp rfl 1).trans ((f1335 rp 1 _ grp rfl).trans ((f1321 rp 1 _ grp rfl).trans ((f1284 rp 1 _ grp rfl).trans (f1269 rp 1 _ grp rfl))))))
              have k1379 : H1372 rp 2 = H rp 2 := ((wq_u_t e1373 g0 grp rfl 2).trans ((wq_u_t e1364 g1305 grp rfl 2).trans ((f1335 rp 2 _ grp rfl).trans ((f1321 rp 2 _ grp rfl).trans ((f1284 rp 2 _ grp rfl).trans (f1269 rp 2 _ grp rfl))))))
              have k1380 : H1372 rp 3 = H rp 3 := ((wq_u_t e1373 g0 grp rfl 3).trans ((wq_u_t e1364 g1305 grp rfl 3).trans ((f1335 rp 3 _ grp rfl).trans ((f1321 rp 3 _ grp rfl).trans ((f1284 rp 3 _ grp rfl).trans (f1269 rp 3 _ grp rfl))))))
              have k1381 : H1372 rp 4 = H rp 4 := ((wq_u_t e1373 g0 grp rfl 4).trans ((wq_u_t e1364 g1305 grp rfl 4).trans ((f1335 rp 4 _ grp rfl).trans ((f1321 rp 4 _ grp rfl).trans ((f1284 rp 4 _ grp rfl).trans (f1269 rp 4 _ grp rfl))))))
              have k1382 : H1372 rp 5 = H rp 5 := ((wq_u_t e1373 g0 grp rfl 5).trans ((wq_u_t e1364 g1305 grp rfl 5).trans ((f1335 rp 5 _ grp rfl).trans ((f1321 rp 5 _ grp rfl).trans ((f1284 rp 5 _ grp rfl).trans (f1269 rp 5 _ grp rfl))))))
              have k1383 : H1372 rp 6 = H rp 6 := ((wq_u_t e1373 g0 grp rfl 6).trans ((wq_u_t e1364 g1305 grp rfl 6).trans ((f1335 rp 6 _ grp rfl).trans ((f1321 rp 6 _ grp rfl).trans ((f1284 rp 6 _ grp rfl).trans (f1269 rp 6 _ grp rfl))))))
              have k1384 : H1372 rp 7 = H rp 7 := ((wq_u_t e1373 g0 grp rfl 7).trans ((wq_u_t e1364 g1305 grp rfl 7).trans ((f1335 rp 7 _ grp rfl).trans ((f1321 rp 7 _ grp rfl).trans ((f1284 rp 7 _ grp rfl).trans (f1269 rp 7 _ grp rfl))))))
              have k1385 : H1372 rp 8 = H rp 8 := ((wq_u_t e1373 g0 grp rfl 8).trans ((wq_u_t e1364 g1305 grp rfl 8).trans ((f1335 rp 8 _ grp rfl).trans ((f1321 rp 8 _ grp rfl).trans ((f1284 rp 8 _ grp rfl).trans (f1269 rp 8 _ grp rfl))))))
              have o1386 : (xl5 B n q d) = (0, (xN B n q), (xN B n (xN B n ((xN B n ((xN B n q))))))) := by
                unfold xl5 xst
                repeat first | rw [xs_0 (by omega -splitDisjunctions)] | rw [xs_1 (by omega -splitDisjunctions)] | rw [if_pos (by omega -splitDisjunctions)] | rw [if_neg (by omega -splitDisjunctions)] | rw [xs_0 (by omega)] | rw [xs_1 (by omega)] | rw [if_pos (by omega)] | rw [if_neg (by omega)]
                first | done | rfl | assumption | (exfalso; omega -splitDisjunctions) | (refine Prod.ext ?_ (Prod.ext ?_ ?_) <;> (try dsimp only) <;> omega) | (exfalso; omega)
              have o1386a : ((xl5 B n q d)).1 = 0 := by rw [o1386]
              have o1386b : ((xl5 B n q d)).2.1 = (xN B n q) := by rw [o1386]
              have o1386c : ((xl5 B n q d)).2.2 = (xN B n (xN B n ((xN B n ((xN B n q)))))) := by rw [o1386]
              have _l := @xdst_v B n (xN B n q) d (by omega) (by omega) (by omega)
              have h1387 : RC T H1372 r0 B n (xN B n (xN B n ((xN B n ((xN B n q)))))) := (RC_fr w1365 g0 ((wfr.rf (l := [(42, 16)])).put' e1373 g0 rfl) rfl (RC_fr w1334 g0 ((wfr.rf (l := [(67, 999)])).put' e1364 g1305 rfl) rfl a1344))
              have h1388 : MA9 T H1372 rp (d 1) := (MA9_fr w1365 grp ((wfr.rf (l := [(42, 16)])).put' e1373 g0 rfl) rfl (MA9_fr w1334 grp ((wfr.rf (l := [(67, 999)])).put' e1364 g1305 rfl) rfl (MA9_fr w1320 grp f1335 rfl (MA9_fr w1283 grp f1321 rfl (MA9_fr w1268 grp f1284 rfl (MA9_fr hW grp f1269 rfl h1243))))))
              have h1389 : MA10 T H1372 rp (d 2) := (MA10_fr w1365 grp ((wfr.rf (l := [(42, 16)])).put' e1373 g0 rfl) rfl (MA10_fr w1334 grp ((wfr.rf (l := [(67, 999)])).put' e1364 g1305 rfl) rfl (MA10_fr w1320 grp f1335 rfl (MA10_fr w1283 grp f1321 rfl (MA10_fr w1268 grp f1284 rfl (MA10_fr hW grp f1269 rfl h1244))))))
              have h1390 : MA11 T H1372 rp (d 3) := (MA11_fr w1365 grp ((wfr.rf (l := [(42, 16)])).put' e1373 g0 rfl) rfl (MA11_fr w1334 grp ((wfr.rf (l := [(67, 999)])).put' e1364 g1305 rfl) rfl (MA11_fr w1320 grp f1335 rfl (MA11_fr w1283 grp f1321 rfl (MA11_fr w1268 grp f1284 rfl (MA11_fr hW grp f1269 rfl h1245))))))
              have h1391 : MA12 T H1372 rp (d 4) := (MA12_fr w1365 grp ((wfr.rf (l := [(42, 16)])).put' e1373 g0 rfl) rfl (MA12_fr w1334 grp ((wfr.rf (l := [(67, 999)])).put' e1364 g1305 rfl) rfl (MA12_fr w1320 grp f1335 rfl (MA12_fr w1283 grp f1321 rfl (MA12_fr w1268 grp f1284 rfl (MA12_fr hW grp f1269 rfl h1246))))))
              have h1392 : MA13 T H1372 rp (d 5) := (MA13_fr w1365 grp ((wfr.rf (l := [(42, 16)])).put' e1373 g0 rfl) rfl (MA13_fr w1334 grp ((wfr.rf (l := [(67, 999)])).put' e1364 g1305 rfl) rfl (MA13_fr w1320 grp f1335 rfl (MA13_fr w1283 grp f1321 rfl (MA13_fr w1268 grp f1284 rfl (MA13_fr hW grp f1269 rfl h1247))))))
              have h1393 : MA14 T H1372 rp (d 6) := (MA14_fr w1365 grp ((wfr.rf (l := [(42, 16)])).put' e1373 g0 rfl) rfl (MA14_fr w1334 grp ((wfr.rf (l := [(67, 999)])).put' e1364 g1305 rfl) rfl (MA14_fr w1320 grp f1335 rfl (MA14_fr w1283 grp f1321 rfl (MA14_fr w1268 grp f1284 rfl (MA14_fr hW grp f1269 rfl h1248))))))
              have h1394 : MA15 T H1372 rp (d 7) := (MA15_fr w1365 grp ((wfr.rf (l := [(42, 16)])).put' e1373 g0 rfl) rfl (MA15_fr w1334 grp ((wfr.rf (l := [(67, 999)])).put' e1364 g1305 rfl) rfl (MA15_fr w1320 grp f1335 rfl (MA15_fr w1283 grp f1321 rfl (MA15_fr w1268 grp f1284 rfl (MA15_fr hW grp f1269 rfl h1249))))))
              have h1395 : MA16 T H1372 rp (d 8) := (MA16_fr w1365 grp ((wfr.rf (l := [(42, 16)])).put' e1373 g0 rfl) rfl (MA16_fr w1334 grp ((wfr.rf (l := [(67, 999)])).put' e1364 g1305 rfl) rfl (MA16_fr w1320 grp f1335 rfl (MA16_fr w1283 grp f1321 rfl (MA16_fr w1268 grp f1284 rfl (MA16_fr hW grp f1269 rfl h1250))))))
              have h1396 : MA17 T H1372 rp (d 9) := (MA17_fr w1365 grp ((wfr.rf (l := [(42, 16)])).put' e1373 g0 rfl) rfl (MA17_fr w1334 grp ((wfr.rf (l := [(67, 999)])).put' e1364 g1305 rfl) rfl (MA17_fr w1320 grp f1335 rfl (MA17_fr w1283 grp f1321 rfl (MA17_fr w1268 grp f1284 rfl (MA17_fr hW grp f1269 rfl h1251))))))
              have h1397 : MA18 T H1372 rp (d 10) := (MA18_fr w1365 grp ((wfr.rf (l := [(42, 16)])).put' e1373 g0 rfl) rfl (MA18_fr w1334 grp ((wfr.rf (l := [(67, 999)])).put' e1364 g1305 rfl) rfl (MA18_fr w1320 grp f1335 rfl (MA18_fr w1283 grp f1321 rfl (MA18_fr w1268 grp f1284 rfl (MA18_fr hW grp f1269 rfl h1252))))))
              have h1398 : MA19 T H1372 rp (d 11) := (MA19_fr w1365 grp ((wfr.rf (l := [(42, 16)])).put' e1373 g0 rfl) rfl (MA19_fr w1334 grp ((wfr.rf (l := [(67, 999)])).put' e1364 g1305 rfl) rfl (MA19_fr w1320 grp f1335 rfl (MA19_fr w1283 grp f1321 rfl (MA19_fr w1268 grp f1284 rfl (MA19_fr hW grp f1269 rfl h1253))))))
              have h1399 : MA20 T H1372 rp (d 12) := (MA20_fr w1365 grp ((wfr.rf (l := [(42, 16)])).put' e1373 g0 rfl) rfl (MA20_fr w1334 grp ((wfr.rf (l := [(67, 999)])).put' e1364 g1305 rfl) rfl (MA20_fr w1320 grp f1335 rfl (MA20_fr w1283 grp f1321 rfl (MA20_fr w1268 grp f1284 rfl (MA20_fr hW grp f1269 rfl h1254))))))
              have h1400 : MA21 T H1372 rp (xdst B n (xN B n q) d 13) := (MA21_fr w1365 grp ((wfr.rf (l := [(42, 16)])).put' e1373 g0 rfl) rfl h1367)
              have h1401 : MA22 T H1372 rp (d 14) := (MA22_fr w1365 grp ((wfr.rf (l := [(42, 16)])).put' e1373 g0 rfl) rfl (MA22_fr w1334 grp ((wfr.rf (l := [(67, 999)])).put' e1364 g1305 rfl) rfl (MA22_fr w1320 grp f1335 rfl (MA22_fr w1283 grp f1321 rfl (MA22_fr w1268 grp f1284 rfl (MA22_fr hW grp f1269 rfl h1256))))))
              have h1402 : MA23 T H1372 rp (d 15) := (MA23_fr w1365 grp ((wfr.rf (l := [(42, 16)])).put' e1373 g0 rfl) rfl (MA23_fr w1334 grp ((wfr.rf (l := [(67, 999)])).put' e1364 g1305 rfl) rfl (MA23_fr w1320 grp f1335 rfl (MA23_fr w1283 grp f1321 rfl (MA23_fr w1268 grp f1284 rfl (MA23_fr hW grp f1269 rfl h1257))))))
              have h1403 : MA25 T H1372 rp (d 17) := (MA25_fr w1365 grp ((wfr.rf (l := [(42, 16)])).put' e1373 g0 rfl) rfl (MA25_fr w1334 grp ((wfr.rf (l := [(67, 999)])).put' e1364 g1305 rfl) rfl (MA25_fr w1320 grp f1335 rfl (MA25_fr w1283 grp f1321 rfl (MA25_fr w1268 grp f1284 rfl (MA25_fr hW grp f1269 rfl h1258))))))
              have h1404 : MA26 T H1372 rp (d 16) := (MA26_fr w1365 grp ((wfr.rf (l := [(42, 16)])).put' e1373 g0 rfl) rfl (MA26_fr w1334 grp ((wfr.rf (l := [(67, 999)])).put' e1364 g1305 rfl) rfl (MA26_fr w1320 grp f1335 rfl (MA26_fr w1283 grp f1321 rfl (MA26_fr w1268 grp f1284 rfl (MA26_fr hW grp f1269 rfl h1259))))))
              have h1405 : FZ T H1372 rp N0 H0 := (FZ_fr w1365 grp ((wfr.rf (l := [(42, 16)])).put' e1373 g0 rfl) rfl h1368)
              exact wp_return e199 c199_89 rfl ⟨rfl, w1374, f1375, rfl, (Or.inl ⟨by omega, by omega, by omega, h1387, DM_mk hDM_rp.1 ⟨by omega, by omega, by omega, by omega, by omega, by omega, by omega, by omega, by omega, by omega, by omega, by omega⟩ (xdP_cg hDM_rp.2.2.1 (fun i h1 h2 => by unfold xdst; rw [wq_u_row (by omega)])) h1388 h1389 h1390 h1391 h1392 h1393 h1394 h1395 h1396 h1397 h1398 h1399 h1400 h1401 h1402 h1403 h1404 ⟨(by unfold xdst; rw [wq_u_row (by decide)]), (by unfold xdst; rw [wq_u_row (by decide)]), (by unfold xdst; rw [wq_u_row (by decide)]), (by unfold xdst; rw [wq_u_row (by decide)]), (by unfold xdst; rw [wq_u_row (by decide)]), (by unfold xdst; rw [wq_u_row (by decide)]), (by unfold xdst; rw [wq_u_row (by decide)]), (by unfold xdst; rw [wq_u_row (by decide)]), (by unfold xdst; rw [wq_u_row (by decide)]), (by unfold xdst; rw [wq_u_row (by decide)]), (by unfold xdst; rw [wq_u_row (by decide)]), (by unfold xdst; rw [wq_u_row (by decide)]), rfl, (by unfold xdst; rw [wq_u_row (by decide)]), (by unfold xdst; rw [wq_u_row (by decide)]), (by unfold xdst; rw [wq_u_row (by decide)]), (by unfold xdst; rw [wq_u_row (by decide)])⟩, h1405⟩)⟩
            · exfalso
              omega
          · have f1406 := f1324.tr f1335 rfl
            show wp _ _ 199 57 [(1, vI z1285), (0, .ref r0)] [vI z1336] _ H1330 _
            have u1407 := RO_k a1347
            refine wp_of e199 c199_57 (rw_istore_n (pc' := 58) (z := z1336) (L' := [(2, vI z1336), (1, vI z1285), (0, .ref r0)]) rfl rfl rfl ?_)
            refine wp_of e199 c199_58 (rw_aload_n (pc' := 59) (v := .ref r0) rfl rfl rfl ?_)
            refine wp_of e199 c199_59 (xg_I (pc' := 62) lf_9_75 w1334 g0 sh_42 (by decide) (by decide) ty_42_9 rfl rfl (fun b1408 b1409 => ?_))
            refine wp_of e199 c199_62 (rw_iconst (pc' := 63) rfl ?_)
            refine wp_of e199 c199_63 (rw_icmp_ne (p1 := 67) (p2 := 66) (by decide) rfl ⟨Int.le_trans (by decide) b1408, Int.le_trans b1409 (by decide)⟩ ⟨by decide, by decide⟩ (fun c1410 => ?_) (fun c1410 => ?_))
            · exfalso
              omega
            · have o1411 : (xl5 B n q d) = (xw B n ((xN B n ((xN B n q)))) 307, ((xN B n ((xN B n q)))), ((xN B n ((xN B n q))))) := by
                unfold xl5 xst
                repeat first | rw [xs_0 (by omega -splitDisjunctions)] | rw [xs_1 (by omega -splitDisjunctions)] | rw [if_pos (by omega -splitDisjunctions)] | rw [if_neg (by omega -splitDisjunctions)] | rw [xs_0 (by omega)] | rw [xs_1 (by omega)] | rw [if_pos (by omega)] | rw [if_neg (by omega)]
                first | done | rfl | assumption | (exfalso; omega -splitDisjunctions) | (refine Prod.ext ?_ (Prod.ext ?_ ?_) <;> (try dsimp only) <;> omega) | (exfalso; omega)
              have o1411a : ((xl5 B n q d)).1 = xw B n ((xN B n ((xN B n q)))) 307 := by rw [o1411]
              have o1411b : ((xl5 B n q d)).2.1 = ((xN B n ((xN B n q)))) := by rw [o1411]
              have o1411c : ((xl5 B n q d)).2.2 = ((xN B n ((xN B n q)))) := by rw [o1411]
              have h1412 : FZ T H1330 rp N0 H0 := (FZ_fr w1320 grp f1335 rfl (FZ_fr w1283 grp f1321 rfl (FZ_fr w1268 grp f1284 rfl (FZ_fr hW grp f1269 rfl hFZ_rp))))
              exact wp_return e199 c199_66 rfl ⟨rfl, w1334, f1406, rfl, (Or.inr ⟨by omega, RO_eq a1347 (by omega) (by omega), h1412⟩)⟩
          · have f1413 := f1324.tr f1335 rfl
            show wp _ _ 199 57 [(1, vI z1285), (0, .ref r0)] [vI z1336] _ H1330 _
            have u1414 := RO_k a1351
            refine wp_of e199 c199_57 (rw_istore_n (pc' := 58) (z := z1336) (L' := [(2, vI z1336), (1, vI z1285), (0, .ref r0)]) rfl rfl rfl ?_)
            refine wp_of e199 c199_58 (rw_aload_n (pc' := 59) (v := .ref r0) rfl rfl rfl ?_)
            refine wp_of e199 c199_59 (xg_I (pc' := 62) lf_9_75 w1334 g0 sh_42 (by decide) (by decide) ty_42_9 rfl rfl (fun b1415 b1416 => ?_))
            refine wp_of e199 c199_62 (rw_iconst (pc' := 63) rfl ?_)
            refine wp_of e199 c199_63 (rw_icmp_ne (p1 := 67) (p2 := 66) (by decide) rfl ⟨Int.le_trans (by decide) b1415, Int.le_trans b1416 (by decide)⟩ ⟨by decide, by decide⟩ (fun c1417 => ?_) (fun c1417 => ?_))
            · exfalso
              omega
            · have o1418 : (xl5 B n q d) = (xh B n (xN B n ((xN B n ((xN B n q))))) 0 99, (xN B n ((xN B n ((xN B n q))))), (xN B n ((xN B n ((xN B n q)))))) := by
                unfold xl5 xst
                repeat first | rw [xs_0 (by omega -splitDisjunctions)] | rw [xs_1 (by omega -splitDisjunctions)] | rw [if_pos (by omega -splitDisjunctions)] | rw [if_neg (by omega -splitDisjunctions)] | rw [xs_0 (by omega)] | rw [xs_1 (by omega)] | rw [if_pos (by omega)] | rw [if_neg (by omega)]
                first | done | rfl | assumption | (exfalso; omega -splitDisjunctions) | (refine Prod.ext ?_ (Prod.ext ?_ ?_) <;> (try dsimp only) <;> omega) | (exfalso; omega)
              have o1418a : ((xl5 B n q d)).1 = xh B n (xN B n ((xN B n ((xN B n q))))) 0 99 := by rw [o1418]
              have o1418b : ((xl5 B n q d)).2.1 = (xN B n ((xN B n ((xN B n q))))) := by rw [o1418]
              have o1418c : ((xl5 B n q d)).2.2 = (xN B n ((xN B n ((xN B n q))))) := by rw [o1418]
              have h1419 : FZ T H1330 rp N0 H0 := (FZ_fr w1320 grp f1335 rfl (FZ_fr w1283 grp f1321 rfl (FZ_fr w1268 grp f1284 rfl (FZ_fr hW grp f1269 rfl hFZ_rp))))
              exact wp_return e199 c199_66 rfl ⟨rfl, w1334, f1413, rfl, (Or.inr ⟨by omega, RO_eq a1351 (by omega) (by omega), h1419⟩)⟩
        · refine wp_of e199 c199_38 (rw_aload_n (pc' := 39) (v := .ref r0) rfl rfl rfl ?_)
          refine wp_of e199 c199_39 (rw_iconst (pc' := 40) rfl ?_)
          refine wp_of e199 c199_40 (xc_V (pc' := 43) (r := r0) (as := [vI 3]) (st := []) (lm_9_121) rfl rfl (Nat.le_of_ble_eq_true rfl) w1283 g0 sh_42 (by decide) rfl (by decide) (u_181_k (B := B) (n := n) (q := ((xN B n q))) w1283 g0 ⟨by decide, by decide⟩ (by omega) a1292) (fun R1420 T1421 H1422 p1423 => ?_))
          obtain ⟨e1424, w1426, f1427, e1425, p1428⟩ := p1423
          subst e1424
          subst e1425
          have f1430 := f1296.tr f1427 rfl
          show wp _ _ 199 43 [(1, vI z1285), (0, .ref r0)] [] _ H1422 _
          have u1431 := RO_k p1428
          refine wp_of e199 c199_43 (rw_aload_n (pc' := 44) (v := .ref r0) rfl rfl rfl ?_)
          refine wp_of e199 c199_44 (xc_V (pc' := 47) (r := r0) (as := []) (st := []) (lm_9_118) rfl rfl (Nat.le_of_ble_eq_true rfl) w1426 g0 sh_42 (by decide) rfl (by decide) (u_172_o (fo := 3) (po := (((xN B n q)))) w1426 g0 p1428) (fun R1432 T1433 H1434 p1435 => ?_))
          obtain ⟨e1436, e1438, e1437, p1439⟩ := p1435
          subst e1436
          subst e1437
          subst e1438
          show wp _ _ 199 47 [(1, vI z1285), (0, .ref r0)] [] _ H1422 _
          have u1441 := RO_k p1439
          refine wp_of e199 c199_47 (rw_aload_n (pc' := 48) (v := .ref r0) rfl rfl rfl ?_)
          refine wp_of e199 c199_48 (rw_ldc_wS (pc' := 51) (k := 89) rfl rfl rfl rfl ?_)
          refine wp_of e199 c199_51 (rw_iconst (pc' := 52) rfl ?_)
          refine wp_of e199 c199_52 (rw_bipush (pc' := 54) (z := 99) rfl (by decide) ?_)
          have k1442 : H1422 r0 5 = H r0 5 := ((f1427 r0 5 _ g0 rfl).trans ((f1284 r0 5 _ g0 rfl).trans (f1269 r0 5 _ g0 rfl)))
          have q1443 : H1422 r0 5 = (rb : Int) := k1442.trans qrb
          refine wp_of e199 c199_54 (xc_V (pc' := 57) (r := r0) (as := [.ref 89, vI 0, vI 99]) (st := []) (lm_9_216) rfl rfl (Nat.le_of_ble_eq_true rfl) w1426 g0 sh_42 (by decide) rfl (by decide) (u_182_o (fo := 3) (po := (((xN B n q)))) (kk := 307) w1426 g0 rfl ⟨by decide, by decide⟩ ⟨by decide, by decide⟩ q1443 grb (by decide +kernel) p1439) (fun R1444 T1445 H1446 p1447 => ?_))
          obtain ⟨e1448, e1450, z1451, e1449, b1452, p1453⟩ := p1447
          subst e1448
          subst e1449
          subst e1450
          obtain ⟨a1454, a1455⟩ := p1453
          show wp _ _ 199 57 [(1, vI z1285), (0, .ref r0)] [vI z1451] _ H1422 _
          have u1456 := RO_k a1455
          refine wp_of e199 c199_57 (rw_istore_n (pc' := 58) (z := z1451) (L' := [(2, vI z1451), (1, vI z1285), (0, .ref r0)]) rfl rfl rfl ?_)
          refine wp_of e199 c199_58 (rw_aload_n (pc' := 59) (v := .ref r0) rfl rfl rfl ?_)
          refine wp_of e199 c199_59 (xg_I (pc' := 62) lf_9_75 w1426 g0 sh_42 (by decide) (by decide) ty_42_9 rfl rfl (fun b1457 b1458 => ?_))
          refine wp_of e199 c199_62 (rw_iconst (pc' := 63) rfl ?_)
          refine wp_of e199 c199_63 (rw_icmp_ne (p1 := 67) (p2 := 66) (by decide) rfl ⟨Int.le_trans (by decide) b1457, Int.le_trans b1458 (by decide)⟩ ⟨by decide, by decide⟩ (fun c1459 => ?_) (fun c1459 => ?_))
          · exfalso
            omega
          · have o1460 : (xl5 B n q d) = (xsh B n (xN B n q) d, (xN B n q), (xN B n q)) := by
              unfold xl5 xst
              repeat first | rw [xs_0 (by omega -splitDisjunctions)] | rw [xs_1 (by omega -splitDisjunctions)] | rw [if_pos (by omega -splitDisjunctions)] | rw [if_neg (by omega -splitDisjunctions)] | rw [xs_0 (by omega)] | rw [xs_1 (by omega)] | rw [if_pos (by omega)] | rw [if_neg (by omega)]
              first | done | rfl | assumption | (exfalso; omega -splitDisjunctions) | (refine Prod.ext ?_ (Prod.ext ?_ ?_) <;> (try dsimp only) <;> omega) | (exfalso; omega)
            have o1460a : ((xl5 B n q d)).1 = xsh B n (xN B n q) d := by rw [o1460]
            have o1460b : ((xl5 B n q d)).2.1 = (xN B n q) := by rw [o1460]
            have o1460c : ((xl5 B n q d)).2.2 = (xN B n q) := by rw [o1460]
            have h1461 : FZ T H1422 rp N0 H0 := (FZ_fr w1283 grp f1427 rfl (FZ_fr w1268 grp f1284 rfl (FZ_fr hW grp f1269 rfl hFZ_rp)))
            exact wp_return e199 c199_66 rfl ⟨rfl, w1426, f1430, rfl, (Or.inr ⟨by omega, RO_eq a1455 (by omega) (by omega), h1461⟩)⟩
    · have f1462 := f1275.tr f1284 rfl
      show wp _ _ 199 17 [(0, .ref r0)] [vI z1285] _ H1279 _
      have u1463 := RO_k a1295
      refine wp_of e199 c199_17 (rw_istore_n (pc' := 18) (z := z1285) (L' := [(1, vI z1285), (0, .ref r0)]) rfl rfl rfl ?_)
      refine wp_of e199 c199_18 (rw_aload_n (pc' := 19) (v := .ref r0) rfl rfl rfl ?_)
      refine wp_of e199 c199_19 (xg_I (pc' := 22) lf_9_75 w1283 g0 sh_42 (by decide) (by decide) ty_42_9 rfl rfl (fun b1464 b1465 => ?_))
      refine wp_of e199 c199_22 (rw_iconst (pc' := 23) rfl ?_)
      refine wp_of e199 c199_23 (rw_icmp_eq (p1 := 43) (p2 := 26) (by decide) rfl ⟨Int.le_trans (by decide) b1464, Int.le_trans b1465 (by decide)⟩ ⟨by decide, by decide⟩ (fun c1466 => ?_) (fun c1466 => ?_))
      · refine wp_of e199 c199_43 (rw_aload_n (pc' := 44) (v := .ref r0) rfl rfl rfl ?_)
        refine wp_of e199 c199_44 (xc_V (pc' := 47) (r := r0) (as := []) (st := []) (lm_9_118) rfl rfl (Nat.le_of_ble_eq_true rfl) w1283 g0 sh_42 (by decide) rfl (by decide) (u_172_o (fo := (xh B n ((xN B n q)) 0 23)) (po := (((xN B n q)))) w1283 g0 a1295) (fun R1467 T1468 H1469 p1470 => ?_))
        obtain ⟨e1471, e1473, e1472, p1474⟩ := p1470
        subst e1471
        subst e1472
        subst e1473
        show wp _ _ 199 47 [(1, vI z1285), (0, .ref r0)] [] _ H1279 _
        have u1476 := RO_k p1474
        refine wp_of e199 c199_47 (rw_aload_n (pc' := 48) (v := .ref r0) rfl rfl rfl ?_)
        refine wp_of e199 c199_48 (rw_ldc_wS (pc' := 51) (k := 89) rfl rfl rfl rfl ?_)
        refine wp_of e199 c199_51 (rw_iconst (pc' := 52) rfl ?_)
        refine wp_of e199 c199_52 (rw_bipush (pc' := 54) (z := 99) rfl (by decide) ?_)
        have k1477 : H1279 r0 5 = H r0 5 := ((f1284 r0 5 _ g0 rfl).trans (f1269 r0 5 _ g0 rfl))
        have q1478 : H1279 r0 5 = (rb : Int) := k1477.trans qrb
        refine wp_of e199 c199_54 (xc_V (pc' := 57) (r := r0) (as := [.ref 89, vI 0, vI 99]) (st := []) (lm_9_216) rfl rfl (Nat.le_of_ble_eq_true rfl) w1283 g0 sh_42 (by decide) rfl (by decide) (u_182_o (fo := (xh B n ((xN B n q)) 0 23)) (po := (((xN B n q)))) (kk := 307) w1283 g0 rfl ⟨by decide, by decide⟩ ⟨by decide, by decide⟩ q1478 grb (by decide +kernel) p1474) (fun R1479 T1480 H1481 p1482 => ?_))
        obtain ⟨e1483, e1485, z1486, e1484, b1487, p1488⟩ := p1482
        subst e1483
        subst e1484
        subst e1485
        obtain ⟨a1489, a1490⟩ := p1488
        show wp _ _ 199 57 [(1, vI z1285), (0, .ref r0)] [vI z1486] _ H1279 _
        have u1491 := RO_k a1490
        refine wp_of e199 c199_57 (rw_istore_n (pc' := 58) (z := z1486) (L' := [(2, vI z1486), (1, vI z1285), (0, .ref r0)]) rfl rfl rfl ?_)
        refine wp_of e199 c199_58 (rw_aload_n (pc' := 59) (v := .ref r0) rfl rfl rfl ?_)
        refine wp_of e199 c199_59 (xg_I (pc' := 62) lf_9_75 w1283 g0 sh_42 (by decide) (by decide) ty_42_9 rfl rfl (fun b1492 b1493 => ?_))
        refine wp_of e199 c199_62 (rw_iconst (pc' := 63) rfl ?_)
        refine wp_of e199 c199_63 (rw_icmp_ne (p1 := 67) (p2 := 66) (by decide) rfl ⟨Int.le_trans (by decide) b1492, Int.le_trans b1493 (by decide)⟩ ⟨by decide, by decide⟩ (fun c1494 => ?_) (fun c1494 => ?_))
        · exfalso
          omega
        · have o1495 : (xl5 B n q d) = (xsh B n (xN B n q) d, (xN B n q), (xN B n q)) := by
            unfold xl5 xst
            repeat first | rw [xs_0 (by omega -splitDisjunctions)] | rw [xs_1 (by omega -splitDisjunctions)] | rw [if_pos (by omega -splitDisjunctions)] | rw [if_neg (by omega -splitDisjunctions)] | rw [xs_0 (by omega)] | rw [xs_1 (by omega)] | rw [if_pos (by omega)] | rw [if_neg (by omega)]
            first | done | rfl | assumption | (exfalso; omega -splitDisjunctions) | (refine Prod.ext ?_ (Prod.ext ?_ ?_) <;> (try dsimp only) <;> omega) | (exfalso; omega)
          have o1495a : ((xl5 B n q d)).1 = xsh B n (xN B n q) d := by rw [o1495]
          have o1495b : ((xl5 B n q d)).2.1 = (xN B n q) := by rw [o1495]
          have o1495c : ((xl5 B n q d)).2.2 = (xN B n q) := by rw [o1495]
          have h1496 : FZ T H1279 rp N0 H0 := (FZ_fr w1268 grp f1284 rfl (FZ_fr hW grp f1269 rfl hFZ_rp))
          exact wp_return e199 c199_66 rfl ⟨rfl, w1283, f1462, rfl, (Or.inr ⟨by omega, RO_eq a1490 (by omega) (by omega), h1496⟩)⟩
      · exfalso
        omega
  · have f1497 := f0.tr f1269 rfl
    show wp _ _ 199 10 [(0, .ref r0)] [] _ H1264 _
    have u1498 := RO_k a1274
    refine wp_of e199 c199_10 (rw_aload_n (pc' := 11) (v := .ref r0) rfl rfl rfl ?_)
    refine wp_of e199 c199_11 (rw_iconst (pc' := 12) rfl ?_)
    refine wp_of e199 c199_12 (rw_bipush (pc' := 14) (z := 23) rfl (by decide) ?_)
    refine wp_of e199 c199_14 (xc_V (pc' := 17) (r := r0) (as := [vI 0, vI 23]) (st := []) (lm_9_129) rfl rfl (Nat.le_of_ble_eq_true rfl) w1268 g0 sh_42 (by decide) rfl (by decide) (u_185_o (fo := 5) (po := q) w1268 g0 ⟨by decide, by decide⟩ ⟨by decide, by decide⟩ a1274) (fun R1499 T1500 H1501 p1502 => ?_))
    obtain ⟨e1503, e1505, z1506, e1504, b1507, p1508⟩ := p1502
    subst e1503
    subst e1504
    subst e1505
    obtain ⟨a1509, a1510⟩ := p1508
    show wp _ _ 199 17 [(0, .ref r0)] [vI z1506] _ H1264 _
    have u1511 := RO_k a1510
    refine wp_of e199 c199_17 (rw_istore_n (pc' := 18) (z := z1506) (L' := [(1, vI z1506), (0, .ref r0)]) rfl rfl rfl ?_)
    refine wp_of e199 c199_18 (rw_aload_n (pc' := 19) (v := .ref r0) rfl rfl rfl ?_)
    refine wp_of e199 c199_19 (xg_I (pc' := 22) lf_9_75 w1268 g0 sh_42 (by decide) (by decide) ty_42_9 rfl rfl (fun b1512 b1513 => ?_))
    refine wp_of e199 c199_22 (rw_iconst (pc' := 23) rfl ?_)
    refine wp_of e199 c199_23 (rw_icmp_eq (p1 := 43) (p2 := 26) (by decide) rfl ⟨Int.le_trans (by decide) b1512, Int.le_trans b1513 (by decide)⟩ ⟨by decide, by decide⟩ (fun c1514 => ?_) (fun c1514 => ?_))
    · refine wp_of e199 c199_43 (rw_aload_n (pc' := 44) (v := .ref r0) rfl rfl rfl ?_)
      refine wp_of e199 c199_44 (xc_V (pc' := 47) (r := r0) (as := []) (st := []) (lm_9_118) rfl rfl (Nat.le_of_ble_eq_true rfl) w1268 g0 sh_42 (by decide) rfl (by decide) (u_172_o (fo := 5) (po := q) w1268 g0 a1510) (fun R1515 T1516 H1517 p1518 => ?_))
      obtain ⟨e1519, e1521, e1520, p1522⟩ := p1518
      subst e1519
      subst e1520
      subst e1521
      show wp _ _ 199 47 [(1, vI z1506), (0, .ref r0)] [] _ H1264 _
      have u1524 := RO_k p1522
      refine wp_of e199 c199_47 (rw_aload_n (pc' := 48) (v := .ref r0) rfl rfl rfl ?_)
      refine wp_of e199 c199_48 (rw_ldc_wS (pc' := 51) (k := 89) rfl rfl rfl rfl ?_)
      refine wp_of e199 c199_51 (rw_iconst (pc' := 52) rfl ?_)
      refine wp_of e199 c199_52 (rw_bipush (pc' := 54) (z := 99) rfl (by decide) ?_)
      have k1525 : H1264 r0 5 = H r0 5 := (f1269 r0 5 _ g0 rfl)
      have q1526 : H1264 r0 5 = (rb : Int) := k1525.trans qrb
      refine wp_of e199 c199_54 (xc_V (pc' := 57) (r := r0) (as := [.ref 89, vI 0, vI 99]) (st := []) (lm_9_216) rfl rfl (Nat.le_of_ble_eq_true rfl) w1268 g0 sh_42 (by decide) rfl (by decide) (u_182_o (fo := 5) (po := q) (kk := 307) w1268 g0 rfl ⟨by decide, by decide⟩ ⟨by decide, by decide⟩ q1526 grb (by decide +kernel) p1522) (fun R1527 T1528 H1529 p1530 => ?_))
      obtain ⟨e1531, e1533, z1534, e1532, b1535, p1536⟩ := p1530
      subst e1531
      subst e1532
      subst e1533
      obtain ⟨a1537, a1538⟩ := p1536
      show wp _ _ 199 57 [(1, vI z1506), (0, .ref r0)] [vI z1534] _ H1264 _
      have u1539 := RO_k a1538
      refine wp_of e199 c199_57 (rw_istore_n (pc' := 58) (z := z1534) (L' := [(2, vI z1534), (1, vI z1506), (0, .ref r0)]) rfl rfl rfl ?_)
      refine wp_of e199 c199_58 (rw_aload_n (pc' := 59) (v := .ref r0) rfl rfl rfl ?_)
      refine wp_of e199 c199_59 (xg_I (pc' := 62) lf_9_75 w1268 g0 sh_42 (by decide) (by decide) ty_42_9 rfl rfl (fun b1540 b1541 => ?_))
      refine wp_of e199 c199_62 (rw_iconst (pc' := 63) rfl ?_)
      refine wp_of e199 c199_63 (rw_icmp_ne (p1 := 67) (p2 := 66) (by decide) rfl ⟨Int.le_trans (by decide) b1540, Int.le_trans b1541 (by decide)⟩ ⟨by decide, by decide⟩ (fun c1542 => ?_) (fun c1542 => ?_))
      · exfalso
        omega
      · have o1543 : (xl5 B n q d) = (5, q, q) := by
          unfold xl5 xst
          repeat first | rw [xs_0 (by omega -splitDisjunctions)] | rw [xs_1 (by omega -splitDisjunctions)] | rw [if_pos (by omega -splitDisjunctions)] | rw [if_neg (by omega -splitDisjunctions)] | rw [xs_0 (by omega)] | rw [xs_1 (by omega)] | rw [if_pos (by omega)] | rw [if_neg (by omega)]
          first | done | rfl | assumption | (exfalso; omega -splitDisjunctions) | (refine Prod.ext ?_ (Prod.ext ?_ ?_) <;> (try dsimp only) <;> omega) | (exfalso; omega)
        have o1543a : ((xl5 B n q d)).1 = 5 := by rw [o1543]
        have o1543b : ((xl5 B n q d)).2.1 = q := by rw [o1543]
        have o1543c : ((xl5 B n q d)).2.2 = q := by rw [o1543]
        have h1544 : FZ T H1264 rp N0 H0 := (FZ_fr hW grp f1269 rfl hFZ_rp)
        exact wp_return e199 c199_66 rfl ⟨rfl, w1268, f1497, rfl, (Or.inr ⟨by omega, RO_eq a1538 (by omega) (by omega), h1544⟩)⟩
    · exfalso
      omega
