/-! what methods do (own work, written by wip/gen3/sx3.py) -/
/-! StrikeAwake$Reader.readsStruck(LStrikeAwake$Parish;)Z  -/
abbrev uq_38 (r0 : Nat) (r1 : Nat) (tk : Nat) (rb : Nat) (B : Nat → Int) (n : Int) (q : Int) (d : xD) (T : wq_T) (H : wq_H) : Option Value → wq_T → wq_H → Prop := fun r T' H' => T = T' ∧ WT T H' ∧ wfr [(27, 16), (3, 3), (3, 4), (4, 2), (4, 3), (4, 4), (4, 5), (4, 6), (29, 999), (30, 999)] T H H' ∧ ∃ z : Int, some (vI z) = r ∧ (0 ≤ z ∧ z ≤ 1) ∧ (((z = 1) ∧ ((xst B n q d).1 = 0) ∧ (xst B n q d = (0, q, (xN B n (xN B n (xN B n q))))) ∧ (q ≤ (xN B n (xN B n (xN B n q)))) ∧ (H' r0 3 = H r0 3) ∧ TC T H' tk B n (xN B n (xN B n (xN B n q))) ∧ DC T H' r1 (xdst B n q d) ∧ CZ T H' r1 ((xdst B n q d) 0 3)) ∨ ((z = 0) ∧ ((xst B n q d).1 ≠ 0) ∧ ((xst B n q d).2.2 = (xst B n q d).2.1) ∧ (H' r0 3 = (xst B n q d).1) ∧ (H' r0 4 = (xst B n q d).2.1)))
set_option maxHeartbeats 4000000 in
theorem u_38 {kt : Nat → Option mc_E} {T : wq_T} {H : wq_H} {r0 : Nat} {r1 : Nat} {tk : Nat} {rb : Nat} {B : Nat → Int} {n : Int} {q : Int} {d : xD} (hW : WT T H) (g0 : T.2.2.2 r0 = some 3) (g1 : T.2.2.2 r1 = some 27) (qtk : H r0 0 = (tk : Int)) (gtk : T.2.2.2 tk = some 4) (qrb : H tk 0 = (rb : Int)) (grb : T.2.2.2 rb = some 2) (hTC_tk : TC T H tk B n q) (hDC_r1 : DC T H r1 d) (hCZ_r1 : CZ T H r1 (d 0 3)) : wpc kt 3 38 [.ref r0, .ref r1] T H (uq_38 r0 r1 tk rb B n q d T H) := by
  refine wp_enter e38 (Nat.le_of_ble_eq_true rfl) rfl ?_
  have f0 : wfr [(27, 16), (3, 3), (3, 4), (4, 2), (4, 3), (4, 4), (4, 5), (4, 6), (29, 999), (30, 999)] T H H := wfr.rf
  show wp _ _ 38 0 [(0, .ref r0), (1, .ref r1)] [] _ H _
  have u1222 := TC_k hTC_tk
  have u1223 := DC_k hDC_r1
  have _i := TC_i hTC_tk
  have _h := @xsh_b B n q d
  have _k := @xh_b B n q 0 23
  refine wp_of e38 c38_0 (rw_aload_n (pc' := 1) (v := .ref r0) rfl rfl rfl ?_)
  refine wp_of e38 c38_1 (xg_K (pc' := 4) lf_1_12 hW g0 sh_3 (by decide) (by decide) rfl qtk rfl ?_)
  refine wp_of e38 c38_4 (xg_I (pc' := 7) lf_1_38 hW gtk sh_4 (by decide) (by decide) ty_4_3 rfl rfl (fun b1224 b1225 => ?_))
  refine wp_of e38 c38_7 (rw_iconst (pc' := 8) rfl ?_)
  refine wp_of e38 c38_8 (rw_icmp_ne (p1 := 31) (p2 := 11) (by decide) rfl ⟨Int.le_trans (by decide) b1224, Int.le_trans b1225 (by decide)⟩ ⟨by decide, by decide⟩ (fun c1226 => ?_) (fun c1226 => ?_))
  · refine wp_of e38 c38_31 (rw_aload_n (pc' := 32) (v := .ref r0) rfl rfl rfl ?_)
    refine wp_of e38 c38_32 (rw_iconst (pc' := 33) rfl ?_)
    refine wp_of e38 c38_33 (rw_bipush (pc' := 35) (z := 23) rfl (by decide) ?_)
    refine wp_of e38 c38_35 (xc_V (pc' := 38) (r := r0) (as := [vI 0, vI 23]) (st := []) (lm_1_119) rfl rfl (Nat.le_of_ble_eq_true rfl) hW g0 sh_3 (by decide) rfl (by decide) (u_24 (B := B) (n := n) (q := q) (lo := 0) (hi := 23) hW g0 ⟨by decide, by decide⟩ ⟨by decide, by decide⟩ qtk gtk qrb grb (by omega) (by omega) hTC_tk) (fun R1227 T1228 H1229 p1230 => ?_))
    obtain ⟨e1231, w1233, f1234, z1235, e1232, b1236, p1237⟩ := p1230
    subst e1231
    subst e1232
    rcases p1237 with ⟨a1238, a1239, a1240, a1241, a1242⟩ | ⟨a1243, a1244, a1245, a1246⟩
    · have f1247 := f0.tr f1234 rfl
      show wp _ _ 38 38 [(0, .ref r0), (1, .ref r1)] [vI z1235] _ H1229 _
      have u1248 := TC_k a1242
      refine wp_of e38 c38_38 (rw_istore_n (pc' := 39) (z := z1235) (L' := [(2, vI z1235), (0, .ref r0), (1, .ref r1)]) rfl rfl rfl ?_)
      refine wp_of e38 c38_39 (rw_iload_n (pc' := 40) (z := z1235) rfl rfl ?_)
      refine wp_of e38 c38_40 (rw_if_lt (p1 := 62) (p2 := 43) (by decide) rfl ⟨Int.le_trans (by decide) b1236.1, Int.le_trans b1236.2 (by decide)⟩ (fun c1249 => ?_) (fun c1249 => ?_))
      · exfalso
        omega
      · refine wp_of e38 c38_43 (rw_aload_n (pc' := 44) (v := .ref r0) rfl rfl rfl ?_)
        refine wp_of e38 c38_44 (rw_ldcS (pc' := 46) (k := 70) rfl rfl rfl rfl ?_)
        have k1250 : H1229 r0 0 = H r0 0 := (f1234 r0 0 _ g0 rfl)
        have q1251 : H1229 r0 0 = (tk : Int) := k1250.trans qtk
        have k1252 : H1229 tk 0 = H tk 0 := (f1234 tk 0 _ gtk rfl)
        have q1253 : H1229 tk 0 = (rb : Int) := k1252.trans qrb
        refine wp_of e38 c38_46 (xc_V (pc' := 49) (r := r0) (as := [.ref 70]) (st := []) (lm_1_115) rfl rfl (Nat.le_of_ble_eq_true rfl) w1233 g0 sh_3 (by decide) rfl (by decide) (u_23 (B := B) (n := n) (q := ((xN B n q))) (kk := 307) w1233 g0 rfl q1251 gtk q1253 grb (by decide +kernel) a1242) (fun R1254 T1255 H1256 p1257 => ?_))
        obtain ⟨e1258, w1260, f1261, z1262, e1259, b1263, p1264⟩ := p1257
        subst e1258
        subst e1259
        rcases p1264 with ⟨a1265, a1266, a1267, a1268⟩ | ⟨a1269, a1270, a1271, a1272⟩
        · have f1273 := f1247.tr f1261 rfl
          show wp _ _ 38 49 [(2, vI z1235), (0, .ref r0), (1, .ref r1)] [vI z1262] _ H1256 _
          have u1274 := TC_k a1268
          refine wp_of e38 c38_49 (rw_if_eq (p1 := 62) (p2 := 52) (by decide) rfl ⟨Int.le_trans (by decide) b1263.1, Int.le_trans b1263.2 (by decide)⟩ (fun c1275 => ?_) (fun c1275 => ?_))
          · exfalso
            omega
          · refine wp_of e38 c38_52 (rw_aload_n (pc' := 53) (v := .ref r0) rfl rfl rfl ?_)
            refine wp_of e38 c38_53 (rw_iconst (pc' := 54) rfl ?_)
            refine wp_of e38 c38_54 (rw_bipush (pc' := 56) (z := 99) rfl (by decide) ?_)
            have k1276 : H1256 r0 0 = H1229 r0 0 := (f1261 r0 0 _ g0 rfl)
            have q1277 : H1256 r0 0 = (tk : Int) := k1276.trans q1251
            have k1278 : H1256 tk 0 = H1229 tk 0 := (f1261 tk 0 _ gtk rfl)
            have q1279 : H1256 tk 0 = (rb : Int) := k1278.trans q1253
            refine wp_of e38 c38_56 (xc_V (pc' := 59) (r := r0) (as := [vI 0, vI 99]) (st := []) (lm_1_119) rfl rfl (Nat.le_of_ble_eq_true rfl) w1260 g0 sh_3 (by decide) rfl (by decide) (u_24 (B := B) (n := n) (q := ((xN B n ((xN B n q))))) (lo := 0) (hi := 99) w1260 g0 ⟨by decide, by decide⟩ ⟨by decide, by decide⟩ q1277 gtk q1279 grb (by omega) (by omega) a1268) (fun R1280 T1281 H1282 p1283 => ?_))
            obtain ⟨e1284, w1286, f1287, z1288, e1285, b1289, p1290⟩ := p1283
            subst e1284
            subst e1285
            rcases p1290 with ⟨a1291, a1292, a1293, a1294, a1295⟩ | ⟨a1296, a1297, a1298, a1299⟩
            · have f1300 := f1273.tr f1287 rfl
              show wp _ _ 38 59 [(2, vI z1235), (0, .ref r0), (1, .ref r1)] [vI z1288] _ H1282 _
              have u1301 := TC_k a1295
              refine wp_of e38 c38_59 (rw_goto (p1 := 63) (by decide) ?_)
              refine wp_of e38 c38_63 (rw_istore_n (pc' := 64) (z := z1288) (L' := [(3, vI z1288), (2, vI z1235), (0, .ref r0), (1, .ref r1)]) rfl rfl rfl ?_)
              refine wp_of e38 c38_64 (rw_iload_n (pc' := 65) (z := z1288) rfl rfl ?_)
              refine wp_of e38 c38_65 (rw_if_ge (p1 := 70) (p2 := 68) (by decide) rfl ⟨Int.le_trans (by decide) b1289.1, Int.le_trans b1289.2 (by decide)⟩ (fun c1302 => ?_) (fun c1302 => ?_))
              · refine wp_of e38 c38_70 (rw_aload_n (pc' := 71) (v := .ref r1) rfl rfl rfl ?_)
                refine wp_of e38 c38_71 (rw_iload_n (pc' := 72) (z := z1235) rfl rfl ?_)
                refine wp_of e38 c38_72 (rw_iload_n (pc' := 73) (z := z1288) rfl rfl ?_)
                have h1303 : DC T H1282 r1 d := (DC_fr w1260 g1 f1287 rfl (DC_fr w1233 g1 f1261 rfl (DC_fr hW g1 f1234 rfl hDC_r1)))
                refine wp_of e38 c38_73 (xc_V (pc' := 76) (r := r1) (as := [vI z1235, vI z1288]) (st := []) (lm_1_238) rfl rfl (Nat.le_of_ble_eq_true rfl) w1286 g1 sh_27 (by decide) rfl (by decide) (u_40 (d := d) (w := (xV B n (xN B n (xN B n q)) + 1)) (y := (xV B n q)) w1286 g1 ⟨by omega, by omega⟩ ⟨Int.le_trans (by decide) b1289.1, by omega⟩ (by omega) (by omega) h1303) (fun R1304 T1305 H1306 p1307 => ?_))
                obtain ⟨e1308, w1310, f1311, e1309, p1312⟩ := p1307
                subst e1308
                subst e1309
                have f1314 := f1300.tr f1311 rfl
                show wp _ _ 38 76 [(3, vI z1288), (2, vI z1235), (0, .ref r0), (1, .ref r1)] [] _ H1306 _
                have u1315 := DC_k p1312
                refine wp_of e38 c38_76 (rw_iconst (pc' := 77) rfl ?_)
                have k1316 : H1306 r0 3 = H1282 r0 3 := (f1311 r0 3 _ g0 rfl)
                have o1317 : (xst B n q d) = (0, q, (xN B n ((xN B n ((xN B n q)))))) := by
                  unfold xst
                  repeat first | rw [xs_0 (Int.le_antisymm (by omega -splitDisjunctions) (by omega -splitDisjunctions))] | rw [xs_1 (by omega -splitDisjunctions)] | rw [if_pos (Int.le_antisymm (by omega -splitDisjunctions) (by omega -splitDisjunctions))] | rw [if_pos (by omega -splitDisjunctions)] | rw [if_pos (And.intro (by omega -splitDisjunctions) (by omega -splitDisjunctions))] | rw [if_neg (by omega -splitDisjunctions)] | rw [xs_1 (by omega)] | rw [if_neg (by omega)] | rw [xs_0 (by omega)] | rw [if_pos (by omega)]
                  first | done | rfl | assumption | (exfalso; omega -splitDisjunctions) | (refine Prod.ext ?_ (Prod.ext ?_ ?_) <;> (try dsimp only) <;> omega) | (exfalso; omega)
                have o1317a : ((xst B n q d)).1 = 0 := by rw [o1317]
                have o1317b : ((xst B n q d)).2.1 = q := by rw [o1317]
                have o1317c : ((xst B n q d)).2.2 = (xN B n ((xN B n ((xN B n q))))) := by rw [o1317]
                have h1318 : TC T H1306 tk B n (xN B n ((xN B n ((xN B n q))))) := (TC_fr w1286 gtk f1311 rfl a1295)
                have h1319 : CZ T H1306 r1 (d 0 3) := (CZ_fr w1286 g1 f1311 rfl (CZ_fr w1260 g1 f1287 rfl (CZ_fr w1233 g1 f1261 rfl (CZ_fr hW g1 f1234 rfl hCZ_r1))))
                exact wp_zreturn e38 c38_77 rfl (by omega) ⟨rfl, w1310, f1314, 1, rfl, ⟨by decide, by decide⟩, (Or.inl ⟨by omega, by omega, o1317, by omega, by omega, h1318, p1312, CZ_le h1319 (Int.le_of_eq (by show wq_u d 13 _ _ 0 3 = _; rw [wq_u_row (by decide)]))⟩)⟩
              · exfalso
                omega
            · have f1320 := f1273.tr f1287 rfl
              show wp _ _ 38 59 [(2, vI z1235), (0, .ref r0), (1, .ref r1)] [vI z1288] _ H1282 _
              refine wp_of e38 c38_59 (rw_goto (p1 := 63) (by decide) ?_)
              refine wp_of e38 c38_63 (rw_istore_n (pc' := 64) (z := z1288) (L' := [(3, vI z1288), (2, vI z1235), (0, .ref r0), (1, .ref r1)]) rfl rfl rfl ?_)
              refine wp_of e38 c38_64 (rw_iload_n (pc' := 65) (z := z1288) rfl rfl ?_)
              refine wp_of e38 c38_65 (rw_if_ge (p1 := 70) (p2 := 68) (by decide) rfl ⟨Int.le_trans (by decide) b1289.1, Int.le_trans b1289.2 (by decide)⟩ (fun c1321 => ?_) (fun c1321 => ?_))
              · exfalso
                omega
              · refine wp_of e38 c38_68 (rw_iconst (pc' := 69) rfl ?_)
                have k1322 : H1282 r1 7 = H r1 7 := ((f1287 r1 7 _ g1 rfl).trans ((f1261 r1 7 _ g1 rfl).trans (f1234 r1 7 _ g1 rfl)))
                have k1323 : H1282 r1 8 = H r1 8 := ((f1287 r1 8 _ g1 rfl).trans ((f1261 r1 8 _ g1 rfl).trans (f1234 r1 8 _ g1 rfl)))
                have k1324 : H1282 r1 9 = H r1 9 := ((f1287 r1 9 _ g1 rfl).trans ((f1261 r1 9 _ g1 rfl).trans (f1234 r1 9 _ g1 rfl)))
                have k1325 : H1282 r1 10 = H r1 10 := ((f1287 r1 10 _ g1 rfl).trans ((f1261 r1 10 _ g1 rfl).trans (f1234 r1 10 _ g1 rfl)))
                have k1326 : H1282 r1 11 = H r1 11 := ((f1287 r1 11 _ g1 rfl).trans ((f1261 r1 11 _ g1 rfl).trans (f1234 r1 11 _ g1 rfl)))
                have k1327 : H1282 r1 12 = H r1 12 := ((f1287 r1 12 _ g1 rfl).trans ((f1261 r1 12 _ g1 rfl).trans (f1234 r1 12 _ g1 rfl)))
                have k1328 : H1282 r1 13 = H r1 13 := ((f1287 r1 13 _ g1 rfl).trans ((f1261 r1 13 _ g1 rfl).trans (f1234 r1 13 _ g1 rfl)))
                have k1329 : H1282 r1 14 = H r1 14 := ((f1287 r1 14 _ g1 rfl).trans ((f1261 r1 14 _ g1 rfl).trans (f1234 r1 14 _ g1 rfl)))
                have k1330 : H1282 r1 15 = H r1 15 := ((f1287 r1 15 _ g1 rfl).trans ((f1261 r1 15 _ g1 rfl).trans (f1234 r1 15 _ g1 rfl)))
                have k1331 : H1282 r1 16 = H r1 16 := ((f1287 r1 16 _ g1 rfl).trans ((f1261 r1 16 _ g1 rfl).trans (f1234 r1 16 _ g1 rfl)))
                have o1332 : (xst B n q d) = (xh B n ((xN B n ((xN B n q)))) 0 99, ((xN B n ((xN B n q)))), ((xN B n ((xN B n q))))) := by
                  unfold xst
                  repeat first | rw [xs_0 (Int.le_antisymm (by omega -splitDisjunctions) (by omega -splitDisjunctions))] | rw [xs_1 (by omega -splitDisjunctions)] | rw [if_pos (Int.le_antisymm (by omega -splitDisjunctions) (by omega -splitDisjunctions))] | rw [if_pos (by omega -splitDisjunctions)] | rw [if_pos (And.intro (by omega -splitDisjunctions) (by omega -splitDisjunctions))] | rw [if_neg (by omega -splitDisjunctions)] | rw [xs_1 (by omega)] | rw [if_neg (by omega)] | rw [xs_0 (by omega)] | rw [if_pos (by omega)]
                  first | done | rfl | assumption | (exfalso; omega -splitDisjunctions) | (refine Prod.ext ?_ (Prod.ext ?_ ?_) <;> (try dsimp only) <;> omega) | (exfalso; omega)
                have o1332a : ((xst B n q d)).1 = xh B n ((xN B n ((xN B n q)))) 0 99 := by rw [o1332]
                have o1332b : ((xst B n q d)).2.1 = ((xN B n ((xN B n q)))) := by rw [o1332]
                have o1332c : ((xst B n q d)).2.2 = ((xN B n ((xN B n q)))) := by rw [o1332]
                exact wp_zreturn e38 c38_69 rfl (by omega) ⟨rfl, w1286, f1320, 0, rfl, ⟨by decide, by decide⟩, (Or.inr ⟨by omega, by omega, by omega, by omega, by omega⟩)⟩
        · have f1333 := f1247.tr f1261 rfl
          show wp _ _ 38 49 [(2, vI z1235), (0, .ref r0), (1, .ref r1)] [vI z1262] _ H1256 _
          refine wp_of e38 c38_49 (rw_if_eq (p1 := 62) (p2 := 52) (by decide) rfl ⟨Int.le_trans (by decide) b1263.1, Int.le_trans b1263.2 (by decide)⟩ (fun c1334 => ?_) (fun c1334 => ?_))
          · refine wp_of e38 c38_62 (rw_iconst (pc' := 63) rfl ?_)
            refine wp_of e38 c38_63 (rw_istore_n (pc' := 64) (z := -1) (L' := [(3, vI (-1)), (2, vI z1235), (0, .ref r0), (1, .ref r1)]) rfl rfl rfl ?_)
            refine wp_of e38 c38_64 (rw_iload_n (pc' := 65) (z := -1) rfl rfl ?_)
            refine wp_of e38 c38_65 (rw_if_ge (p1 := 70) (p2 := 68) (by decide) rfl ⟨by decide, by decide⟩ (fun c1335 => ?_) (fun c1335 => ?_))
            · exfalso
              omega
            · refine wp_of e38 c38_68 (rw_iconst (pc' := 69) rfl ?_)
              have k1336 : H1256 r1 7 = H r1 7 := ((f1261 r1 7 _ g1 rfl).trans (f1234 r1 7 _ g1 rfl))
              have k1337 : H1256 r1 8 = H r1 8 := ((f1261 r1 8 _ g1 rfl).trans (f1234 r1 8 _ g1 rfl))
              have k1338 : H1256 r1 9 = H r1 9 := ((f1261 r1 9 _ g1 rfl).trans (f1234 r1 9 _ g1 rfl))
              have k1339 : H1256 r1 10 = H r1 10 := ((f1261 r1 10 _ g1 rfl).trans (f1234 r1 10 _ g1 rfl))
              have k1340 : H1256 r1 11 = H r1 11 := ((f1261 r1 11 _ g1 rfl).trans (f1234 r1 11 _ g1 rfl))
              have k1341 : H1256 r1 12 = H r1 12 := ((f1261 r1 12 _ g1 rfl).trans (f1234 r1 12 _ g1 rfl))
              have k1342 : H1256 r1 13 = H r1 13 := ((f1261 r1 13 _ g1 rfl).trans (f1234 r1 13 _ g1 rfl))
              have k1343 : H1256 r1 14 = H r1 14 := ((f1261 r1 14 _ g1 rfl).trans (f1234 r1 14 _ g1 rfl))
              have k1344 : H1256 r1 15 = H r1 15 := ((f1261 r1 15 _ g1 rfl).trans (f1234 r1 15 _ g1 rfl))
              have k1345 : H1256 r1 16 = H r1 16 := ((f1261 r1 16 _ g1 rfl).trans (f1234 r1 16 _ g1 rfl))
              have o1346 : (xst B n q d) = (xw B n ((xN B n q)) 307, ((xN B n q)), ((xN B n q))) := by
                unfold xst
                repeat first | rw [xs_0 (Int.le_antisymm (by omega -splitDisjunctions) (by omega -splitDisjunctions))] | rw [xs_1 (by omega -splitDisjunctions)] | rw [if_pos (Int.le_antisymm (by omega -splitDisjunctions) (by omega -splitDisjunctions))] | rw [if_pos (by omega -splitDisjunctions)] | rw [if_pos (And.intro (by omega -splitDisjunctions) (by omega -splitDisjunctions))] | rw [if_neg (by omega -splitDisjunctions)] | rw [xs_1 (by omega)] | rw [if_neg (by omega)] | rw [xs_0 (by omega)] | rw [if_pos (by omega)]
                first | done | rfl | assumption | (exfalso; omega -splitDisjunctions) | (refine Prod.ext ?_ (Prod.ext ?_ ?_) <;> (try dsimp only) <;> omega) | (exfalso; omega)
              have o1346a : ((xst B n q d)).1 = xw B n ((xN B n q)) 307 := by rw [o1346]
              have o1346b : ((xst B n q d)).2.1 = ((xN B n q)) := by rw [o1346]
              have o1346c : ((xst B n q d)).2.2 = ((xN B n q)) := by rw [o1346]
              exact wp_zreturn e38 c38_69 rfl (by omega) ⟨rfl, w1260, f1333, 0, rfl, ⟨by decide, by decide⟩, (Or.inr ⟨by omega, by omega, by omega, by omega, by omega⟩)⟩
          · exfalso
            omega
    · have f1347 := f0.tr f1234 rfl
      show wp _ _ 38 38 [(0, .ref r0), (1, .ref r1)] [vI z1235] _ H1229 _
      refine wp_of e38 c38_38 (rw_istore_n (pc' := 39) (z := z1235) (L' := [(2, vI z1235), (0, .ref r0), (1, .ref r1)]) rfl rfl rfl ?_)
      refine wp_of e38 c38_39 (rw_iload_n (pc' := 40) (z := z1235) rfl rfl ?_)
      refine wp_of e38 c38_40 (rw_if_lt (p1 := 62) (p2 := 43) (by decide) rfl ⟨Int.le_trans (by decide) b1236.1, Int.le_trans b1236.2 (by decide)⟩ (fun c1348 => ?_) (fun c1348 => ?_))
      · refine wp_of e38 c38_62 (rw_iconst (pc' := 63) rfl ?_)
        refine wp_of e38 c38_63 (rw_istore_n (pc' := 64) (z := -1) (L' := [(3, vI (-1)), (2, vI z1235), (0, .ref r0), (1, .ref r1)]) rfl rfl rfl ?_)
        refine wp_of e38 c38_64 (rw_iload_n (pc' := 65) (z := -1) rfl rfl ?_)
        refine wp_of e38 c38_65 (rw_if_ge (p1 := 70) (p2 := 68) (by decide) rfl ⟨by decide, by decide⟩ (fun c1349 => ?_) (fun c1349 => ?_))
        · exfalso
          omega
        · refine wp_of e38 c38_68 (rw_iconst (pc' := 69) rfl ?_)
          have k1350 : H1229 r1 7 = H r1 7 := (f1234 r1 7 _ g1 rfl)
          have k1351 : H1229 r1 8 = H r1 8 := (f1234 r1 8 _ g1 rfl)
          have k1352 : H1229 r1 9 = H r1 9 := (f1234 r1 9 _ g1 rfl)
          have k1353 : H1229 r1 10 = H r1 10 := (f1234 r1 10 _ g1 rfl)
          have k1354 : H1229 r1 11 = H r1 11 := (f1234 r1 11 _ g1 rfl)
          have k1355 : H1229 r1 12 = H r1 12 := (f1234 r1 12 _ g1 rfl)
          have k1356 : H1229 r1 13 = H r1 13 := (f1234 r1 13 _ g1 rfl)
          have k1357 : H1229 r1 14 = H r1 14 := (f1234 r1 14 _ g1 rfl)
          have k1358 : H1229 r1 15 = H r1 15 := (f1234 r1 15 _ g1 rfl)
          have k1359 : H1229 r1 16 = H r1 16 := (f1234 r1 16 _ g1 rfl)
          have o1360 : (xst B n q d) = (xsh B n q d, q, q) := by
            unfold xst
            repeat first | rw [xs_0 (Int.le_antisymm (by omega -splitDisjunctions) (by omega -splitDisjunctions))] | rw [xs_1 (by omega -splitDisjunctions)] | rw [if_pos (Int.le_antisymm (by omega -splitDisjunctions) (by omega -splitDisjunctions))] | rw [if_pos (by omega -splitDisjunctions)] | rw [if_pos (And.intro (by omega -splitDisjunctions) (by omega -splitDisjunctions))] | rw [if_neg (by omega -splitDisjunctions)] | rw [xs_1 (by omega)] | rw [if_neg (by omega)] | rw [xs_0 (by omega)] | rw [if_pos (by omega)]
            first | done | rfl | assumption | (exfalso; omega -splitDisjunctions) | (refine Prod.ext ?_ (Prod.ext ?_ ?_) <;> (try dsimp only) <;> omega) | (exfalso; omega)
          have o1360a : ((xst B n q d)).1 = xsh B n q d := by rw [o1360]
          have o1360b : ((xst B n q d)).2.1 = q := by rw [o1360]
          have o1360c : ((xst B n q d)).2.2 = q := by rw [o1360]
          exact wp_zreturn e38 c38_69 rfl (by omega) ⟨rfl, w1233, f1347, 0, rfl, ⟨by decide, by decide⟩, (Or.inr ⟨by omega, by omega, by omega, by omega, by omega⟩)⟩
      · exfalso
        omega
  · refine wp_of e38 c38_11 (rw_aload_n (pc' := 12) (v := .ref r1) rfl rfl rfl ?_)
    refine wp_of e38 c38_12 (rw_aload_n (pc' := 13) (v := .ref r0) rfl rfl rfl ?_)
    refine wp_of e38 c38_13 (xg_K (pc' := 16) lf_1_12 hW g0 sh_3 (by decide) (by decide) rfl qtk rfl ?_)
    refine wp_of e38 c38_16 (xg_I (pc' := 19) lf_1_230 hW gtk sh_4 (by decide) (by decide) ty_4_5 rfl rfl (fun b1361 b1362 => ?_))
    refine wp_of e38 c38_19 (xc_V (pc' := 22) (r := r1) (as := [vI (H tk 5)]) (st := []) (lm_1_233) rfl rfl (Nat.le_of_ble_eq_true rfl) hW g1 sh_27 (by decide) rfl (by decide) (u_39 (d := d) (y := (xV B n q)) hW g1 ⟨b1361, b1362⟩ (by omega) hDC_r1) (fun R1363 T1364 H1365 p1366 => ?_))
    obtain ⟨e1367, e1369, z1370, e1368, b1371, p1372⟩ := p1366
    subst e1367
    subst e1368
    subst e1369
    rcases p1372 with ⟨a1373, a1374, a1375⟩ | ⟨a1376, a1377⟩
    · show wp _ _ 38 22 [(0, .ref r0), (1, .ref r1)] [vI z1370] _ H _
      refine wp_of e38 c38_22 (rw_if_eq (p1 := 31) (p2 := 25) (by decide) rfl ⟨Int.le_trans (by decide) b1371.1, Int.le_trans b1371.2 (by decide)⟩ (fun c1378 => ?_) (fun c1378 => ?_))
      · exfalso
        omega
      · refine wp_of e38 c38_25 (rw_aload_n (pc' := 26) (v := .ref r0) rfl rfl rfl ?_)
        refine wp_of e38 c38_26 (rw_iconst (pc' := 27) rfl ?_)
        refine wp_of e38 c38_27 (xc_V (pc' := 30) (r := r0) (as := [vI 3]) (st := []) (lm_1_47) rfl rfl (Nat.le_of_ble_eq_true rfl) hW g0 sh_3 (by decide) rfl (by decide) (u_20  hW g0 ⟨by decide, by decide⟩ qtk gtk) (fun R1379 T1380 H1381 p1382 => ?_))
        obtain ⟨e1383, w1385, f1386, z1387, e1384, b1388, p1389⟩ := p1382
        subst e1383
        subst e1384
        obtain ⟨a1390, a1391, a1392⟩ := p1389
        have f1393 := f0.tr f1386 rfl
        show wp _ _ 38 30 [(0, .ref r0), (1, .ref r1)] [vI z1387] _ H1381 _
        have k1394 : H1381 r1 7 = H r1 7 := (f1386 r1 7 _ g1 rfl)
        have k1395 : H1381 r1 8 = H r1 8 := (f1386 r1 8 _ g1 rfl)
        have k1396 : H1381 r1 9 = H r1 9 := (f1386 r1 9 _ g1 rfl)
        have k1397 : H1381 r1 10 = H r1 10 := (f1386 r1 10 _ g1 rfl)
        have k1398 : H1381 r1 11 = H r1 11 := (f1386 r1 11 _ g1 rfl)
        have k1399 : H1381 r1 12 = H r1 12 := (f1386 r1 12 _ g1 rfl)
        have k1400 : H1381 r1 13 = H r1 13 := (f1386 r1 13 _ g1 rfl)
        have k1401 : H1381 r1 14 = H r1 14 := (f1386 r1 14 _ g1 rfl)
        have k1402 : H1381 r1 15 = H r1 15 := (f1386 r1 15 _ g1 rfl)
        have k1403 : H1381 r1 16 = H r1 16 := (f1386 r1 16 _ g1 rfl)
        have o1404 : (xst B n q d) = (xsh B n q d, q, q) := by
          unfold xst
          repeat first | rw [xs_0 (Int.le_antisymm (by omega -splitDisjunctions) (by omega -splitDisjunctions))] | rw [xs_1 (by omega -splitDisjunctions)] | rw [if_pos (Int.le_antisymm (by omega -splitDisjunctions) (by omega -splitDisjunctions))] | rw [if_pos (by omega -splitDisjunctions)] | rw [if_pos (And.intro (by omega -splitDisjunctions) (by omega -splitDisjunctions))] | rw [if_neg (by omega -splitDisjunctions)] | rw [xs_1 (by omega)] | rw [if_neg (by omega)] | rw [xs_0 (by omega)] | rw [if_pos (by omega)]
          first | done | rfl | assumption | (exfalso; omega -splitDisjunctions) | (refine Prod.ext ?_ (Prod.ext ?_ ?_) <;> (try dsimp only) <;> omega) | (exfalso; omega)
        have o1404a : ((xst B n q d)).1 = xsh B n q d := by rw [o1404]
        have o1404b : ((xst B n q d)).2.1 = q := by rw [o1404]
        have o1404c : ((xst B n q d)).2.2 = q := by rw [o1404]
        exact wp_zreturn e38 c38_30 rfl (by omega) ⟨rfl, w1385, f1393, z1387, rfl, ⟨b1388.1, b1388.2⟩, (Or.inr ⟨by omega, by omega, by omega, by omega, by omega⟩)⟩
    · show wp _ _ 38 22 [(0, .ref r0), (1, .ref r1)] [vI z1370] _ H _
      refine wp_of e38 c38_22 (rw_if_eq (p1 := 31) (p2 := 25) (by decide) rfl ⟨Int.le_trans (by decide) b1371.1, Int.le_trans b1371.2 (by decide)⟩ (fun c1405 => ?_) (fun c1405 => ?_))
      · refine wp_of e38 c38_31 (rw_aload_n (pc' := 32) (v := .ref r0) rfl rfl rfl ?_)
        refine wp_of e38 c38_32 (rw_iconst (pc' := 33) rfl ?_)
        refine wp_of e38 c38_33 (rw_bipush (pc' := 35) (z := 23) rfl (by decide) ?_)
        refine wp_of e38 c38_35 (xc_V (pc' := 38) (r := r0) (as := [vI 0, vI 23]) (st := []) (lm_1_119) rfl rfl (Nat.le_of_ble_eq_true rfl) hW g0 sh_3 (by decide) rfl (by decide) (u_24 (B := B) (n := n) (q := q) (lo := 0) (hi := 23) hW g0 ⟨by decide, by decide⟩ ⟨by decide, by decide⟩ qtk gtk qrb grb (by omega) (by omega) hTC_tk) (fun R1406 T1407 H1408 p1409 => ?_))
        obtain ⟨e1410, w1412, f1413, z1414, e1411, b1415, p1416⟩ := p1409
        subst e1410
        subst e1411
        rcases p1416 with ⟨a1417, a1418, a1419, a1420, a1421⟩ | ⟨a1422, a1423, a1424, a1425⟩
        · have f1426 := f0.tr f1413 rfl
          show wp _ _ 38 38 [(0, .ref r0), (1, .ref r1)] [vI z1414] _ H1408 _
          have u1427 := TC_k a1421
          refine wp_of e38 c38_38 (rw_istore_n (pc' := 39) (z := z1414) (L' := [(2, vI z1414), (0, .ref r0), (1, .ref r1)]) rfl rfl rfl ?_)
          refine wp_of e38 c38_39 (rw_iload_n (pc' := 40) (z := z1414) rfl rfl ?_)
          refine wp_of e38 c38_40 (rw_if_lt (p1 := 62) (p2 := 43) (by decide) rfl ⟨Int.le_trans (by decide) b1415.1, Int.le_trans b1415.2 (by decide)⟩ (fun c1428 => ?_) (fun c1428 => ?_))
          · exfalso
            omega
          · refine wp_of e38 c38_43 (rw_aload_n (pc' := 44) (v := .ref r0) rfl rfl rfl ?_)
            refine wp_of e38 c38_44 (rw_ldcS (pc' := 46) (k := 70) rfl rfl rfl rfl ?_)
            have k1429 : H1408 r0 0 = H r0 0 := (f1413 r0 0 _ g0 rfl)
            have q1430 : H1408 r0 0 = (tk : Int) := k1429.trans qtk
            have k1431 : H1408 tk 0 = H tk 0 := (f1413 tk 0 _ gtk rfl)
            have q1432 : H1408 tk 0 = (rb : Int) := k1431.trans qrb
            refine wp_of e38 c38_46 (xc_V (pc' := 49) (r := r0) (as := [.ref 70]) (st := []) (lm_1_115) rfl rfl (Nat.le_of_ble_eq_true rfl) w1412 g0 sh_3 (by decide) rfl (by decide) (u_23 (B := B) (n := n) (q := ((xN B n q))) (kk := 307) w1412 g0 rfl q1430 gtk q1432 grb (by decide +kernel) a1421) (fun R1433 T1434 H1435 p1436 => ?_))
            obtain ⟨e1437, w1439, f1440, z1441, e1438, b1442, p1443⟩ := p1436
            subst e1437
            subst e1438
            rcases p1443 with ⟨a1444, a1445, a1446, a1447⟩ | ⟨a1448, a1449, a1450, a1451⟩
            · have f1452 := f1426.tr f1440 rfl
              show wp _ _ 38 49 [(2, vI z1414), (0, .ref r0), (1, .ref r1)] [vI z1441] _ H1435 _
              have u1453 := TC_k a1447
              refine wp_of e38 c38_49 (rw_if_eq (p1 := 62) (p2 := 52) (by decide) rfl ⟨Int.le_trans (by decide) b1442.1, Int.le_trans b1442.2 (by decide)⟩ (fun c1454 => ?_) (fun c1454 => ?_))
              · exfalso
                omega
              · refine wp_of e38 c38_52 (rw_aload_n (pc' := 53) (v := .ref r0) rfl rfl rfl ?_)
                refine wp_of e38 c38_53 (rw_iconst (pc' := 54) rfl ?_)
                refine wp_of e38 c38_54 (rw_bipush (pc' := 56) (z := 99) rfl (by decide) ?_)
                have k1455 : H1435 r0 0 = H1408 r0 0 := (f1440 r0 0 _ g0 rfl)
                have q1456 : H1435 r0 0 = (tk : Int) := k1455.trans q1430
                have k1457 : H1435 tk 0 = H1408 tk 0 := (f1440 tk 0 _ gtk rfl)
                have q1458 : H1435 tk 0 = (rb : Int) := k1457.trans q1432
                refine wp_of e38 c38_56 (xc_V (pc' := 59) (r := r0) (as := [vI 0, vI 99]) (st := []) (lm_1_119) rfl rfl (Nat.le_of_ble_eq_true rfl) w1439 g0 sh_3 (by decide) rfl (by decide) (u_24 (B := B) (n := n) (q := ((xN B n ((xN B n q))))) (lo := 0) (hi := 99) w1439 g0 ⟨by decide, by decide⟩ ⟨by decide, by decide⟩ q1456 gtk q1458 grb (by omega) (by omega) a1447) (fun R1459 T1460 H1461 p1462 => ?_))
                obtain ⟨e1463, w1465, f1466, z1467, e1464, b1468, p1469⟩ := p1462
                subst e1463
                subst e1464
                rcases p1469 with ⟨a1470, a1471, a1472, a1473, a1474⟩ | ⟨a1475, a1476, a1477, a1478⟩
                · have f1479 := f1452.tr f1466 rfl
                  show wp _ _ 38 59 [(2, vI z1414), (0, .ref r0), (1, .ref r1)] [vI z1467] _ H1461 _
                  have u1480 := TC_k a1474
                  refine wp_of e38 c38_59 (rw_goto (p1 := 63) (by decide) ?_)
                  refine wp_of e38 c38_63 (rw_istore_n (pc' := 64) (z := z1467) (L' := [(3, vI z1467), (2, vI z1414), (0, .ref r0), (1, .ref r1)]) rfl rfl rfl ?_)
                  refine wp_of e38 c38_64 (rw_iload_n (pc' := 65) (z := z1467) rfl rfl ?_)
                  refine wp_of e38 c38_65 (rw_if_ge (p1 := 70) (p2 := 68) (by decide) rfl ⟨Int.le_trans (by decide) b1468.1, Int.le_trans b1468.2 (by decide)⟩ (fun c1481 => ?_) (fun c1481 => ?_))
                  · refine wp_of e38 c38_70 (rw_aload_n (pc' := 71) (v := .ref r1) rfl rfl rfl ?_)
                    refine wp_of e38 c38_71 (rw_iload_n (pc' := 72) (z := z1414) rfl rfl ?_)
                    refine wp_of e38 c38_72 (rw_iload_n (pc' := 73) (z := z1467) rfl rfl ?_)
                    have h1482 : DC T H1461 r1 d := (DC_fr w1439 g1 f1466 rfl (DC_fr w1412 g1 f1440 rfl (DC_fr hW g1 f1413 rfl hDC_r1)))
                    refine wp_of e38 c38_73 (xc_V (pc' := 76) (r := r1) (as := [vI z1414, vI z1467]) (st := []) (lm_1_238) rfl rfl (Nat.le_of_ble_eq_true rfl) w1465 g1 sh_27 (by decide) rfl (by decide) (u_40 (d := d) (w := (xV B n (xN B n (xN B n q)) + 1)) (y := (xV B n q)) w1465 g1 ⟨by omega, by omega⟩ ⟨Int.le_trans (by decide) b1468.1, by omega⟩ (by omega) (by omega) h1482) (fun R1483 T1484 H1485 p1486 => ?_))
                    obtain ⟨e1487, w1489, f1490, e1488, p1491⟩ := p1486
                    subst e1487
                    subst e1488
                    have f1493 := f1479.tr f1490 rfl
                    show wp _ _ 38 76 [(3, vI z1467), (2, vI z1414), (0, .ref r0), (1, .ref r1)] [] _ H1485 _
                    have u1494 := DC_k p1491
                    refine wp_of e38 c38_76 (rw_iconst (pc' := 77) rfl ?_)
                    have k1495 : H1485 r0 3 = H1461 r0 3 := (f1490 r0 3 _ g0 rfl)
                    have o1496 : (xst B n q d) = (0, q, (xN B n ((xN B n ((xN B n q)))))) := by
                      unfold xst
                      repeat first | rw [xs_0 (Int.le_antisymm (by omega -splitDisjunctions) (by omega -splitDisjunctions))] | rw [xs_1 (by omega -splitDisjunctions)] | rw [if_pos (Int.le_antisymm (by omega -splitDisjunctions) (by omega -splitDisjunctions))] | rw [if_pos (by omega -splitDisjunctions)] | rw [if_pos (And.intro (by omega -splitDisjunctions) (by omega -splitDisjunctions))] | rw [if_neg (by omega -splitDisjunctions)] | rw [xs_1 (by omega)] | rw [if_neg (by omega)] | rw [xs_0 (by omega)] | rw [if_pos (by omega)]
                      first | done | rfl | assumption | (exfalso; omega -splitDisjunctions) | (refine Prod.ext ?_ (Prod.ext ?_ ?_) <;> (try dsimp only) <;> omega) | (exfalso; omega)
                    have o1496a : ((xst B n q d)).1 = 0 := by rw [o1496]
                    have o1496b : ((xst B n q d)).2.1 = q := by rw [o1496]
                    have o1496c : ((xst B n q d)).2.2 = (xN B n ((xN B n ((xN B n q))))) := by rw [o1496]
                    have h1497 : TC T H1485 tk B n (xN B n ((xN B n ((xN B n q))))) := (TC_fr w1465 gtk f1490 rfl a1474)
                    have h1498 : CZ T H1485 r1 (d 0 3) := (CZ_fr w1465 g1 f1490 rfl (CZ_fr w1439 g1 f1466 rfl (CZ_fr w1412 g1 f1440 rfl (CZ_fr hW g1 f1413 rfl hCZ_r1))))
                    exact wp_zreturn e38 c38_77 rfl (by omega) ⟨rfl, w1489, f1493, 1, rfl, ⟨by decide, by decide⟩, (Or.inl ⟨by omega, by omega, o1496, by omega, by omega, h1497, p1491, CZ_le h1498 (Int.le_of_eq (by show wq_u d 13 _ _ 0 3 = _; rw [wq_u_row (by decide)]))⟩)⟩
                  · exfalso
                    omega
                · have f1499 := f1452.tr f1466 rfl
                  show wp _ _ 38 59 [(2, vI z1414), (0, .ref r0), (1, .ref r1)] [vI z1467] _ H1461 _
                  refine wp_of e38 c38_59 (rw_goto (p1 := 63) (by decide) ?_)
                  refine wp_of e38 c38_63 (rw_istore_n (pc' := 64) (z := z1467) (L' := [(3, vI z1467), (2, vI z1414), (0, .ref r0), (1, .ref r1)]) rfl rfl rfl ?_)
                  refine wp_of e38 c38_64 (rw_iload_n (pc' := 65) (z := z1467) rfl rfl ?_)
                  refine wp_of e38 c38_65 (rw_if_ge (p1 := 70) (p2 := 68) (by decide) rfl ⟨Int.le_trans (by decide) b1468.1, Int.le_trans b1468.2 (by decide)⟩ (fun c1500 => ?_) (fun c1500 => ?_))
                  · exfalso
                    omega
                  · refine wp_of e38 c38_68 (rw_iconst (pc' := 69) rfl ?_)
                    have k1501 : H1461 r1 7 = H r1 7 := ((f1466 r1 7 _ g1 rfl).trans ((f1440 r1 7 _ g1 rfl).trans (f1413 r1 7 _ g1 rfl)))
                    have k1502 : H1461 r1 8 = H r1 8 := ((f1466 r1 8 _ g1 rfl).trans ((f1440 r1 8 _ g1 rfl).trans (f1413 r1 8 _ g1 rfl)))
                    have k1503 : H1461 r1 9 = H r1 9 := ((f1466 r1 9 _ g1 rfl).trans ((f1440 r1 9 _ g1 rfl).trans (f1413 r1 9 _ g1 rfl)))
                    have k1504 : H1461 r1 10 = H r1 10 := ((f1466 r1 10 _ g1 rfl).trans ((f1440 r1 10 _ g1 rfl).trans (f1413 r1 10 _ g1 rfl)))
                    have k1505 : H1461 r1 11 = H r1 11 := ((f1466 r1 11 _ g1 rfl).trans ((f1440 r1 11 _ g1 rfl).trans (f1413 r1 11 _ g1 rfl)))
                    have k1506 : H1461 r1 12 = H r1 12 := ((f1466 r1 12 _ g1 rfl).trans ((f1440 r1 12 _ g1 rfl).trans (f1413 r1 12 _ g1 rfl)))
                    have k1507 : H1461 r1 13 = H r1 13 := ((f1466 r1 13 _ g1 rfl).trans ((f1440 r1 13 _ g1 rfl).trans (f1413 r1 13 _ g1 rfl)))
                    have k1508 : H1461 r1 14 = H r1 14 := ((f1466 r1 14 _ g1 rfl).trans ((f1440 r1 14 _ g1 rfl).trans (f1413 r1 14 _ g1 rfl)))
                    have k1509 : H1461 r1 15 = H r1 15 := ((f1466 r1 15 _ g1 rfl).trans ((f1440 r1 15 _ g1 rfl).trans (f1413 r1 15 _ g1 rfl)))
                    have k1510 : H1461 r1 16 = H r1 16 := ((f1466 r1 16 _ g1 rfl).trans ((f1440 r1 16 _ g1 rfl).trans (f1413 r1 16 _ g1 rfl)))
                    have o1511 : (xst B n q d) = (xh B n ((xN B n ((xN B n q)))) 0 99, ((xN B n ((xN B n q)))), ((xN B n ((xN B n q))))) := by
                      unfold xst
                      repeat first | rw [xs_0 (Int.le_antisymm (by omega -splitDisjunctions) (by omega -splitDisjunctions))] | rw [xs_1 (by omega -splitDisjunctions)] | rw [if_pos (Int.le_antisymm (by omega -splitDisjunctions) (by omega -splitDisjunctions))] | rw [if_pos (by omega -splitDisjunctions)] | rw [if_pos (And.intro (by omega -splitDisjunctions) (by omega -splitDisjunctions))] | rw [if_neg (by omega -splitDisjunctions)] | rw [xs_1 (by omega)] | rw [if_neg (by omega)] | rw [xs_0 (by omega)] | rw [if_pos (by omega)]
                      first | done | rfl | assumption | (exfalso; omega -splitDisjunctions) | (refine Prod.ext ?_ (Prod.ext ?_ ?_) <;> (try dsimp only) <;> omega) | (exfalso; omega)
                    have o1511a : ((xst B n q d)).1 = xh B n ((xN B n ((xN B n q)))) 0 99 := by rw [o1511]
                    have o1511b : ((xst B n q d)).2.1 = ((xN B n ((xN B n q)))) := by rw [o1511]
                    have o1511c : ((xst B n q d)).2.2 = ((xN B n ((xN B n q)))) := by rw [o1511]
                    exact wp_zreturn e38 c38_69 rfl (by omega) ⟨rfl, w1465, f1499, 0, rfl, ⟨by decide, by decide⟩, (Or.inr ⟨by omega, by omega, by omega, by omega, by omega⟩)⟩
            · have f1512 := f1426.tr f1440 rfl
              show wp _ _ 38 49 [(2, vI z1414), (0, .ref r0), (1, .ref r1)] [vI z1441] _ H1435 _
              refine wp_of e38 c38_49 (rw_if_eq (p1 := 62) (p2 := 52) (by decide) rfl ⟨Int.le_trans (by decide) b1442.1, Int.le_trans b1442.2 (by decide)⟩ (fun c1513 => ?_) (fun c1513 => ?_))
              · refine wp_of e38 c38_62 (rw_iconst (pc' := 63) rfl ?_)
                refine wp_of e38 c38_63 (rw_istore_n (pc' := 64) (z := -1) (L' := [(3, vI (-1)), (2, vI z1414), (0, .ref r0), (1, .ref r1)]) rfl rfl rfl ?_)
                refine wp_of e38 c38_64 (rw_iload_n (pc' := 65) (z := -1) rfl rfl ?_)
                refine wp_of e38 c38_65 (rw_if_ge (p1 := 70) (p2 := 68) (by decide) rfl ⟨by decide, by decide⟩ (fun c1514 => ?_) (fun c1514 => ?_))
                · exfalso
                  omega
                · refine wp_of e38 c38_68 (rw_iconst (pc' := 69) rfl ?_)
                  have k1515 : H1435 r1 7 = H r1 7 := ((f1440 r1 7 _ g1 rfl).trans (f1413 r1 7 _ g1 rfl))
                  have k1516 : H1435 r1 8 = H r1 8 := ((f1440 r1 8 _ g1 rfl).trans (f1413 r1 8 _ g1 rfl))
                  have k1517 : H1435 r1 9 = H r1 9 := ((f1440 r1 9 _ g1 rfl).trans (f1413 r1 9 _ g1 rfl))
                  have k1518 : H1435 r1 10 = H r1 10 := ((f1440 r1 10 _ g1 rfl).trans (f1413 r1 10 _ g1 rfl))
                  have k1519 : H1435 r1 11 = H r1 11 := ((f1440 r1 11 _ g1 rfl).trans (f1413 r1 11 _ g1 rfl))
                  have k1520 : H1435 r1 12 = H r1 12 := ((f1440 r1 12 _ g1 rfl).trans (f1413 r1 12 _ g1 rfl))
                  have k1521 : H1435 r1 13 = H r1 13 := ((f1440 r1 13 _ g1 rfl).trans (f1413 r1 13 _ g1 rfl))
                  have k1522 : H1435 r1 14 = H r1 14 := ((f1440 r1 14 _ g1 rfl).trans (f1413 r1 14 _ g1 rfl))
                  have k1523 : H1435 r1 15 = H r1 15 := ((f1440 r1 15 _ g1 rfl).trans (f1413 r1 15 _ g1 rfl))
                  have k1524 : H1435 r1 16 = H r1 16 := ((f1440 r1 16 _ g1 rfl).trans (f1413 r1 16 _ g1 rfl))
                  have o1525 : (xst B n q d) = (xw B n ((xN B n q)) 307, ((xN B n q)), ((xN B n q))) := by
                    unfold xst
                    repeat first | rw [xs_0 (Int.le_antisymm (by omega -splitDisjunctions) (by omega -splitDisjunctions))] | rw [xs_1 (by omega -splitDisjunctions)] | rw [if_pos (Int.le_antisymm (by omega -splitDisjunctions) (by omega -splitDisjunctions))] | rw [if_pos (by omega -splitDisjunctions)] | rw [if_pos (And.intro (by omega -splitDisjunctions) (by omega -splitDisjunctions))] | rw [if_neg (by omega -splitDisjunctions)] | rw [xs_1 (by omega)] | rw [if_neg (by omega)] | rw [xs_0 (by omega)] | rw [if_pos (by omega)]
                    first | done | rfl | assumption | (exfalso; omega -splitDisjunctions) | (refine Prod.ext ?_ (Prod.ext ?_ ?_) <;> (try dsimp only) <;> omega) | (exfalso; omega)
                  have o1525a : ((xst B n q d)).1 = xw B n ((xN B n q)) 307 := by rw [o1525]
                  have o1525b : ((xst B n q d)).2.1 = ((xN B n q)) := by rw [o1525]
                  have o1525c : ((xst B n q d)).2.2 = ((xN B n q)) := by rw [o1525]
                  exact wp_zreturn e38 c38_69 rfl (by omega) ⟨rfl, w1439, f1512, 0, rfl, ⟨by decide, by decide⟩, (Or.inr ⟨by omega, by omega, by omega, by omega, by omega⟩)⟩
              · exfalso
                omega
        · have f1526 := f0.tr f1413 rfl
          show wp _ _ 38 38 [(0, .ref r0), (1, .ref r1)] [vI z1414] _ H1408 _
          refine wp_of e38 c38_38 (rw_istore_n (pc' := 39) (z := z1414) (L' := [(2, vI z1414), (0, .ref r0), (1, .ref r1)]) rfl rfl rfl ?_)
          refine wp_of e38 c38_39 (rw_iload_n (pc' := 40) (z := z1414) rfl rfl ?_)
          refine wp_of e38 c38_40 (rw_if_lt (p1 := 62) (p2 := 43) (by decide) rfl ⟨Int.le_trans (by decide) b1415.1, Int.le_trans b1415.2 (by decide)⟩ (fun c1527 => ?_) (fun c1527 => ?_))
          · refine wp_of e38 c38_62 (rw_iconst (pc' := 63) rfl ?_)
            refine wp_of e38 c38_63 (rw_istore_n (pc' := 64) (z := -1) (L' := [(3, vI (-1)), (2, vI z1414), (0, .ref r0), (1, .ref r1)]) rfl rfl rfl ?_)
            refine wp_of e38 c38_64 (rw_iload_n (pc' := 65) (z := -1) rfl rfl ?_)
            refine wp_of e38 c38_65 (rw_if_ge (p1 := 70) (p2 := 68) (by decide) rfl ⟨by decide, by decide⟩ (fun c1528 => ?_) (fun c1528 => ?_))
            · exfalso
              omega
            · refine wp_of e38 c38_68 (rw_iconst (pc' := 69) rfl ?_)
              have k1529 : H1408 r1 7 = H r1 7 := (f1413 r1 7 _ g1 rfl)
              have k1530 : H1408 r1 8 = H r1 8 := (f1413 r1 8 _ g1 rfl)
              have k1531 : H1408 r1 9 = H r1 9 := (f1413 r1 9 _ g1 rfl)
              have k1532 : H1408 r1 10 = H r1 10 := (f1413 r1 10 _ g1 rfl)
              have k1533 : H1408 r1 11 = H r1 11 := (f1413 r1 11 _ g1 rfl)
              have k1534 : H1408 r1 12 = H r1 12 := (f1413 r1 12 _ g1 rfl)
              have k1535 : H1408 r1 13 = H r1 13 := (f1413 r1 13 _ g1 rfl)
              have k1536 : H1408 r1 14 = H r1 14 := (f1413 r1 14 _ g1 rfl)
              have k1537 : H1408 r1 15 = H r1 15 := (f1413 r1 15 _ g1 rfl)
              have k1538 : H1408 r1 16 = H r1 16 := (f1413 r1 16 _ g1 rfl)
              have o1539 : (xst B n q d) = (xsh B n q d, q, q) := by
                unfold xst
                repeat first | rw [xs_0 (Int.le_antisymm (by omega -splitDisjunctions) (by omega -splitDisjunctions))] | rw [xs_1 (by omega -splitDisjunctions)] | rw [if_pos (Int.le_antisymm (by omega -splitDisjunctions) (by omega -splitDisjunctions))] | rw [if_pos (by omega -splitDisjunctions)] | rw [if_pos (And.intro (by omega -splitDisjunctions) (by omega -splitDisjunctions))] | rw [if_neg (by omega -splitDisjunctions)] | rw [xs_1 (by omega)] | rw [if_neg (by omega)] | rw [xs_0 (by omega)] | rw [if_pos (by omega)]
                first | done | rfl | assumption | (exfalso; omega -splitDisjunctions) | (refine Prod.ext ?_ (Prod.ext ?_ ?_) <;> (try dsimp only) <;> omega) | (exfalso; omega)
              have o1539a : ((xst B n q d)).1 = xsh B n q d := by rw [o1539]
              have o1539b : ((xst B n q d)).2.1 = q := by rw [o1539]
              have o1539c : ((xst B n q d)).2.2 = q := by rw [o1539]
              exact wp_zreturn e38 c38_69 rfl (by omega) ⟨rfl, w1412, f1526, 0, rfl, ⟨by decide, by decide⟩, (Or.inr ⟨by omega, by omega, by omega, by omega, by omega⟩)⟩
          · exfalso
            omega
      · exfalso
        omega
/-! StrikeAwake$Reader.readsTold(LStrikeAwake$Parish;)Z  -/
abbrev uq_42 (r0 : Nat) (r1 : Nat) (tk : Nat) (rb : Nat) (B : Nat → Int) (n : Int) (q : Int) (d : xD) (T : wq_T) (H : wq_H) : Option Value → wq_T → wq_H → Prop := fun r T' H' => T = T' ∧ WT T H' ∧ wfr [(27, 13), (3, 1), (3, 2), (3, 3), (3, 4), (4, 2), (4, 3), (4, 4), (4, 5), (4, 6), (33, 999), (32, 999)] T H H' ∧ ∃ z : Int, some (vI z) = r ∧ (0 ≤ z ∧ z ≤ 1) ∧ (((z = 1) ∧ ((xtl B n q d).1 = 0) ∧ (xtl B n q d = (0, q, (xN B n (xN B n (xN B n (xN B n q)))))) ∧ (q ≤ (xN B n (xN B n (xN B n (xN B n q))))) ∧ (H' r0 3 = H r0 3) ∧ TC T H' tk B n (xN B n (xN B n (xN B n (xN B n q)))) ∧ DC T H' r1 (xdtl B n q d) ∧ CZ T H' r1 ((xdtl B n q d) 0 3)) ∨ ((z = 0) ∧ ((xtl B n q d).1 ≠ 0) ∧ ((xtl B n q d).2.2 = (xtl B n q d).2.1) ∧ (H' r0 3 = (xtl B n q d).1) ∧ (H' r0 4 = (xtl B n q d).2.1)))
set_option maxHeartbeats 4000000 in
theorem u_42 {kt : Nat → Option mc_E} {T : wq_T} {H : wq_H} {r0 : Nat} {r1 : Nat} {tk : Nat} {rb : Nat} {B : Nat → Int} {n : Int} {q : Int} {d : xD} (hW : WT T H) (g0 : T.2.2.2 r0 = some 3) (g1 : T.2.2.2 r1 = some 27) (qtk : H r0 0 = (tk : Int)) (gtk : T.2.2.2 tk = some 4) (qrb : H tk 0 = (rb : Int)) (grb : T.2.2.2 rb = some 2) (p0 : d 0 6 ≤ 3) (hTC_tk : TC T H tk B n q) (hDC_r1 : DC T H r1 d) (hCZ_r1 : CZ T H r1 (d 0 3)) : wpc kt 5 42 [.ref r0, .ref r1] T H (uq_42 r0 r1 tk rb B n q d T H) := by
  refine wp_enter e42 (Nat.le_of_ble_eq_true rfl) rfl ?_
  have f0 : wfr [(27, 13), (3, 1), (3, 2), (3, 3), (3, 4), (4, 2), (4, 3), (4, 4), (4, 5), (4, 6), (33, 999), (32, 999)] T H H := wfr.rf
  show wp _ _ 42 0 [(0, .ref r0), (1, .ref r1)] [] _ H _
  have u1128 := TC_k hTC_tk
  have u1129 := DC_k hDC_r1
  have h1130 : DQ T H r1 d := hDC_r1.2.1
  have h1131 : ST T H r1 (d 13) := hDC_r1.2.2.1
  have h1132 : SV T H r1 (d 13) 24 := hDC_r1.2.2.2.1
  have h1133 : DA3 T H r1 (d 0 5) (d 12) := hDC_r1.2.2.2.2.1
  have h1134 : DA4 T H r1 (d 0 6) (d 14) := hDC_r1.2.2.2.2.2.1
  have h1135 : DA5 T H r1 (d 0 6) (d 15) := hDC_r1.2.2.2.2.2.2.1
  have h1136 : DA6 T H r1 (d 0 7) (d 16) := hDC_r1.2.2.2.2.2.2.2
  have _w := @xwho_e d B n q
  refine wp_of e42 c42_0 (rw_aload_n (pc' := 1) (v := .ref r0) rfl rfl rfl ?_)
  refine wp_of e42 c42_1 (rw_aload_n (pc' := 2) (v := .ref r1) rfl rfl rfl ?_)
  refine wp_of e42 c42_2 (xc_V (pc' := 5) (r := r0) (as := [.ref r1]) (st := []) (lm_1_207) rfl rfl (Nat.le_of_ble_eq_true rfl) hW g0 sh_3 (by decide) rfl (by decide) (u_33 (B := B) (n := n) (q := q) (d := d) hW g0 g1 qtk gtk qrb grb hTC_tk hDC_r1) (fun R1137 T1138 H1139 p1140 => ?_))
  obtain ⟨e1141, w1143, f1144, z1145, e1142, b1146, p1147⟩ := p1140
  subst e1141
  subst e1142
  rcases p1147 with ⟨a1148, a1149, a1150, a1151, a1152⟩ | ⟨a1153, a1154, a1155, a1156⟩
  · have f1157 := f0.tr f1144 rfl
    show wp _ _ 42 5 [(0, .ref r0), (1, .ref r1)] [vI z1145] _ H1139 _
    refine wp_of e42 c42_5 (rw_istore_n (pc' := 6) (z := z1145) (L' := [(2, vI z1145), (0, .ref r0), (1, .ref r1)]) rfl rfl rfl ?_)
    refine wp_of e42 c42_6 (rw_iload_n (pc' := 7) (z := z1145) rfl rfl ?_)
    refine wp_of e42 c42_7 (rw_if_ge (p1 := 12) (p2 := 10) (by decide) rfl ⟨b1146.1, b1146.2⟩ (fun c1158 => ?_) (fun c1158 => ?_))
    · refine wp_of e42 c42_12 (rw_aload_n (pc' := 13) (v := .ref r0) rfl rfl rfl ?_)
      have k1159 : H1139 r0 0 = H r0 0 := (f1144 r0 0 _ g0 rfl)
      have q1160 : H1139 r0 0 = (tk : Int) := k1159.trans qtk
      refine wp_of e42 c42_13 (xg_K (pc' := 16) lf_1_12 w1143 g0 sh_3 (by decide) (by decide) rfl q1160 rfl ?_)
      have k1161 : H1139 tk 0 = H tk 0 := (f1144 tk 0 _ gtk rfl)
      have q1162 : H1139 tk 0 = (rb : Int) := k1161.trans qrb
      have k1163 : H1139 tk 1 = H tk 1 := (f1144 tk 1 _ gtk rfl)
      have k1164 : H1139 tk 2 = H tk 2 := (f1144 tk 2 _ gtk rfl)
      have h1165 : TC T H1139 tk B n q := (TC_fr hW gtk f1144 rfl hTC_tk)
      have h1166 : TP T H1139 rb B := TC_tp h1165 q1162
      refine wp_of e42 c42_16 (xc_V (pc' := 19) (r := tk) (as := []) (st := []) (lm_1_74) rfl rfl (Nat.le_of_ble_eq_true rfl) w1143 gtk sh_4 (by decide) rfl (by decide) (u_16 (B := B) (n := n) (a := (xE B n q)) (q := (xN B n q)) w1143 gtk q1162 grb (by omega) (by omega) (by omega) (rfl) h1166) (fun R1167 T1168 H1169 p1170 => ?_))
      obtain ⟨e1171, w1173, f1174, e1172, p1175⟩ := p1170
      subst e1171
      subst e1172
      have f1177 := f1157.tr f1174 rfl
      show wp _ _ 42 19 [(2, vI z1145), (0, .ref r0), (1, .ref r1)] [] _ H1169 _
      have u1178 := TC_k p1175
      refine wp_of e42 c42_19 (rw_aload_n (pc' := 20) (v := .ref r0) rfl rfl rfl ?_)
      refine wp_of e42 c42_20 (rw_bipush (pc' := 22) (z := 23) rfl (by decide) ?_)
      refine wp_of e42 c42_22 (rw_iconst (pc' := 23) rfl ?_)
      refine wp_of e42 c42_23 (rw_bipush (pc' := 25) (z := 24) rfl (by decide) ?_)
      refine wp_of e42 c42_25 (rw_bipush (pc' := 27) (z := 24) rfl (by decide) ?_)
      have k1179 : H1169 r0 0 = H1139 r0 0 := (f1174 r0 0 _ g0 rfl)
      have q1180 : H1169 r0 0 = (tk : Int) := k1179.trans q1160
      have k1181 : H1169 tk 0 = H1139 tk 0 := (f1174 tk 0 _ gtk rfl)
      have q1182 : H1169 tk 0 = (rb : Int) := k1181.trans q1162
      have k1183 : H1169 r0 3 = H1139 r0 3 := (f1174 r0 3 _ g0 rfl)
      refine wp_of e42 c42_27 (xc_V (pc' := 30) (r := r0) (as := [vI 23, vI 1, vI 24, vI 24]) (st := []) (lm_1_154) rfl rfl (Nat.le_of_ble_eq_true rfl) w1173 g0 sh_3 (by decide) rfl (by decide) (u_29 (B := B) (n := n) (q := ((xN B n q))) w1173 g0 ⟨by decide, by decide⟩ ⟨by decide, by decide⟩ ⟨by decide, by decide⟩ ⟨by decide, by decide⟩ q1180 gtk q1182 grb p1175) (fun R1184 T1185 H1186 p1187 => ?_))
      obtain ⟨e1188, w1190, f1191, z1192, e1189, b1193, p1194⟩ := p1187
      subst e1188
      subst e1189
      rcases p1194 with ⟨a1195, a1196, a1197, a1198, a1199, a1200, a1201, a1202, a1203⟩ | ⟨a1204, a1205, a1206, a1207, a1208⟩
      · have f1209 := f1177.tr f1191 rfl
        show wp _ _ 42 30 [(2, vI z1145), (0, .ref r0), (1, .ref r1)] [vI z1192] _ H1186 _
        have u1210 := TC_k a1203
        refine wp_of e42 c42_30 (rw_if_ne (p1 := 35) (p2 := 33) (by decide) rfl ⟨Int.le_trans (by decide) b1193.1, Int.le_trans b1193.2 (by decide)⟩ (fun c1211 => ?_) (fun c1211 => ?_))
        · refine wp_of e42 c42_35 (rw_aload_n (pc' := 36) (v := .ref r1) rfl rfl rfl ?_)
          refine wp_of e42 c42_36 (xg_R (pc' := 39) lf_1_242 w1190 g1 sh_27 (by decide) (by decide) ty_27_4 rfl rfl (fun r1212 q1213 g1214 => ?_))
          refine wp_of e42 c42_39 (rw_aload_n (pc' := 40) (v := .ref r1) rfl rfl rfl ?_)
          have k1215 : H1186 r1 13 = H r1 13 := ((f1191 r1 13 _ g1 rfl).trans ((f1174 r1 13 _ g1 rfl).trans (f1144 r1 13 _ g1 rfl)))
          refine wp_of e42 c42_40 (xg_I (pc' := 43) lf_1_245 w1190 g1 sh_27 (by decide) (by decide) ty_27_13 rfl rfl (fun b1216 b1217 => ?_))
          refine wp_of e42 c42_43 (rw_iload_n (pc' := 44) (z := z1145) rfl rfl ?_)
          have h1218 : DA4 T H1186 r1 (d 0 6) (d 14) := (DA4_fr w1173 g1 f1191 rfl (DA4_fr w1143 g1 f1174 rfl (DA4_fr hW g1 f1144 rfl h1134)))
          refine wp_of e42 c42_44 (xs_I (pc' := 45) w1190 g1214 (by decide) sh_32 (by decide) (ty_32 _) (by omega) (by omega) ⟨b1146.1, b1146.2⟩ (b1216) (by omega) rfl (fun H1219 e1220 w1221 => ?_))
          have f1222 := f1209.put' e1220 g1214 rfl
          have h1223 : DA4 T H1219 r1 (d 0 6 + 1) (xdtl B n q d 14) := DA_put h1218 q1213 g1 g1214 (by decide) e1220 (by omega) rfl ((xdtl_c (k := ((H1186 r1 13).toNat)) (by omega)).1.trans (by omega)) (xdtl_c (k := ((H1186 r1 13).toNat)) (by omega)).2
          refine wp_of e42 c42_45 (rw_aload_n (pc' := 46) (v := .ref r1) rfl rfl rfl ?_)
          refine wp_of e42 c42_46 (xg_R (pc' := 49) lf_1_248 w1221 g1 sh_27 (by decide) (by decide) ty_27_5 rfl rfl (fun r1224 q1225 g1226 => ?_))
          refine wp_of e42 c42_49 (rw_aload_n (pc' := 50) (v := .ref r1) rfl rfl rfl ?_)
          have k1227 : H1219 r1 13 = H1186 r1 13 := (wq_u_t e1220 g1214 g1 rfl 13)
          refine wp_of e42 c42_50 (xg_I (pc' := 53) lf_1_245 w1221 g1 sh_27 (by decide) (by decide) ty_27_13 rfl rfl (fun b1228 b1229 => ?_))
          refine wp_of e42 c42_53 (rw_aload_n (pc' := 54) (v := .ref r0) rfl rfl rfl ?_)
          have k1230 : H1219 r0 1 = H1186 r0 1 := (wq_u_t e1220 g1214 g0 rfl 1)
          refine wp_of e42 c42_54 (xg_I (pc' := 57) lf_1_158 w1221 g0 sh_3 (by decide) (by decide) ty_3_1 rfl rfl (fun b1231 b1232 => ?_))
          refine wp_of e42 c42_57 (rw_aload_n (pc' := 58) (v := .ref r0) rfl rfl rfl ?_)
          have k1233 : H1219 r0 2 = H1186 r0 2 := (wq_u_t e1220 g1214 g0 rfl 2)
          refine wp_of e42 c42_58 (xg_I (pc' := 61) lf_1_164 w1221 g0 sh_3 (by decide) (by decide) ty_3_2 rfl rfl (fun b1234 b1235 => ?_))
          refine wp_of e42 c42_61 (xc_S (pc' := 64) (as := [vI (H1219 r0 1), vI (H1219 r0 2)]) (st := [vI (H1219 r1 13), .ref r1224]) (lm_1_194) rfl rfl (Nat.le_of_ble_eq_true rfl) rfl (by decide) (u_31 (lo := (xV B n (xN B n q))) (hi := (xV B n (xN B n (xN B n (xN B n q))))) w1221 ⟨by omega, b1232⟩ ⟨by omega, Int.le_trans b1235 (by decide)⟩ (by omega) (by omega) (by omega)) (fun R1236 T1237 H1238 p1239 => ?_))
          obtain ⟨e1240, e1242, z1243, e1241, b1244, p1245⟩ := p1239
          subst e1240
          subst e1241
          subst e1242
          show wp _ _ 42 64 [(2, vI z1145), (0, .ref r0), (1, .ref r1)] [vI z1243, vI (H1219 r1 13), .ref r1224] _ H1219 _
          have h1247 : DA5 T H1219 r1 (d 0 6) (d 15) := (DA5_fr w1190 g1 ((wfr.rf (l := [(32, 999)])).put' e1220 g1214 rfl) rfl (DA5_fr w1173 g1 f1191 rfl (DA5_fr w1143 g1 f1174 rfl (DA5_fr hW g1 f1144 rfl h1135))))
          refine wp_of e42 c42_64 (xs_I (pc' := 65) w1221 g1226 (by decide) sh_33 (by decide) (ty_33 _) (Int.le_trans (by decide) b1244.1) (Int.le_trans b1244.2 (by decide)) ⟨Int.le_trans (by decide) b1244.1, Int.le_trans b1244.2 (by decide)⟩ (b1228) (by omega) rfl (fun H1248 e1249 w1250 => ?_))
          have f1251 := f1222.put' e1249 g1226 rfl
          have h1252 : DA5 T H1248 r1 (d 0 6 + 1) (xdtl B n q d 15) := DA_put h1247 q1225 g1 g1226 (by decide) e1249 (by omega) rfl ((xdtl_e (k := ((H1219 r1 13).toNat)) (by omega)).1.trans (by omega)) (xdtl_e (k := ((H1219 r1 13).toNat)) (by omega)).2
          refine wp_of e42 c42_65 (rw_aload_n (pc' := 66) (v := .ref r1) rfl rfl rfl ?_)
          refine wp_of e42 c42_66 (rw_dup (pc' := 67) rfl rfl ?_)
          have k1253 : H1248 r1 13 = H1219 r1 13 := (wq_u_t e1249 g1226 g1 rfl 13)
          refine wp_of e42 c42_67 (xg_I (pc' := 70) lf_1_245 w1250 g1 sh_27 (by decide) (by decide) ty_27_13 rfl rfl (fun b1254 b1255 => ?_))
          refine wp_of e42 c42_70 (rw_iconst (pc' := 71) rfl ?_)
          refine wp_of e42 c42_71 (rw_iadd (pc' := 72) rfl ?_)
          refine wp_of e42 c42_72 (xp_I (pc' := 75) lf_1_245 w1250 g1 sh_27 (by decide) (by decide) ty_27_13 rfl rfl (by omega) (by omega) ⟨by omega, by omega⟩ rfl (fun H1256 e1257 w1258 => ?_))
          have f1259 := f1251.put' e1257 g1 rfl
          have k1260 : H1256 r1 13 = (H1248 r1 13) + 1 := wq_u_s e1257
          refine wp_of e42 c42_75 (rw_iconst (pc' := 76) rfl ?_)
          have k1261 : H1256 r0 3 = H1186 r0 3 := ((wq_u_t e1257 g1 g0 rfl 3).trans ((wq_u_t e1249 g1226 g0 rfl 3).trans (wq_u_t e1220 g1214 g0 rfl 3)))
          have k1262 : H1256 r1 7 = H r1 7 := ((wq_u_j e1257 rfl).trans ((wq_u_t e1249 g1226 g1 rfl 7).trans ((wq_u_t e1220 g1214 g1 rfl 7).trans ((f1191 r1 7 _ g1 rfl).trans ((f1174 r1 7 _ g1 rfl).trans (f1144 r1 7 _ g1 rfl))))))
          have k1263 : H1256 r1 8 = H r1 8 := ((wq_u_j e1257 rfl).trans ((wq_u_t e1249 g1226 g1 rfl 8).trans ((wq_u_t e1220 g1214 g1 rfl 8).trans ((f1191 r1 8 _ g1 rfl).trans ((f1174 r1 8 _ g1 rfl).trans (f1144 r1 8 _ g1 rfl))))))
          have k1264 : H1256 r1 9 = H r1 9 := ((wq_u_j e1257 rfl).trans ((wq_u_t e1249 g1226 g1 rfl 9).trans ((wq_u_t e1220 g1214 g1 rfl 9).trans ((f1191 r1 9 _ g1 rfl).trans ((f1174 r1 9 _ g1 rfl).trans (f1144 r1 9 _ g1 rfl))))))
          have k1265 : H1256 r1 10 = H r1 10 := ((wq_u_j e1257 rfl).trans ((wq_u_t e1249 g1226 g1 rfl 10).trans ((wq_u_t e1220 g1214 g1 rfl 10).trans ((f1191 r1 10 _ g1 rfl).trans ((f1174 r1 10 _ g1 rfl).trans (f1144 r1 10 _ g1 rfl))))))
          have k1266 : H1256 r1 11 = H r1 11 := ((wq_u_j e1257 rfl).trans ((wq_u_t e1249 g1226 g1 rfl 11).trans ((wq_u_t e1220 g1214 g1 rfl 11).trans ((f1191 r1 11 _ g1 rfl).trans ((f1174 r1 11 _ g1 rfl).trans (f1144 r1 11 _ g1 rfl))))))
          have k1267 : H1256 r1 12 = H r1 12 := ((wq_u_j e1257 rfl).trans ((wq_u_t e1249 g1226 g1 rfl 12).trans ((wq_u_t e1220 g1214 g1 rfl 12).trans ((f1191 r1 12 _ g1 rfl).trans ((f1174 r1 12 _ g1 rfl).trans (f1144 r1 12 _ g1 rfl))))))
          have k1268 : H1256 r1 14 = H r1 14 := ((wq_u_j e1257 rfl).trans ((wq_u_t e1249 g1226 g1 rfl 14).trans ((wq_u_t e1220 g1214 g1 rfl 14).trans ((f1191 r1 14 _ g1 rfl).trans ((f1174 r1 14 _ g1 rfl).trans (f1144 r1 14 _ g1 rfl))))))
          have k1269 : H1256 r1 15 = H r1 15 := ((wq_u_j e1257 rfl).trans ((wq_u_t e1249 g1226 g1 rfl 15).trans ((wq_u_t e1220 g1214 g1 rfl 15).trans ((f1191 r1 15 _ g1 rfl).trans ((f1174 r1 15 _ g1 rfl).trans (f1144 r1 15 _ g1 rfl))))))
          have k1270 : H1256 r1 16 = H r1 16 := ((wq_u_j e1257 rfl).trans ((wq_u_t e1249 g1226 g1 rfl 16).trans ((wq_u_t e1220 g1214 g1 rfl 16).trans ((f1191 r1 16 _ g1 rfl).trans ((f1174 r1 16 _ g1 rfl).trans (f1144 r1 16 _ g1 rfl))))))
          have k1271 : H1256 r0 1 = H1219 r0 1 := ((wq_u_t e1257 g1 g0 rfl 1).trans (wq_u_t e1249 g1226 g0 rfl 1))
          have k1272 : H1256 r0 2 = H1219 r0 2 := ((wq_u_t e1257 g1 g0 rfl 2).trans (wq_u_t e1249 g1226 g0 rfl 2))
          have o1273 : (xtl B n q d) = (0, q, (xN B n (xN B n (xN B n ((xN B n q)))))) := by
            unfold xtl
            repeat first | rw [xs_0 (Int.le_antisymm (by omega -splitDisjunctions) (by omega -splitDisjunctions))] | rw [xs_1 (by omega -splitDisjunctions)] | rw [if_pos (Int.le_antisymm (by omega -splitDisjunctions) (by omega -splitDisjunctions))] | rw [if_pos (by omega -splitDisjunctions)] | rw [if_pos (And.intro (by omega -splitDisjunctions) (by omega -splitDisjunctions))] | rw [if_neg (by omega -splitDisjunctions)] | rw [xs_1 (by omega)] | rw [if_neg (by omega)] | rw [xs_0 (by omega)] | rw [if_pos (by omega)]
            first | done | rfl | assumption | (exfalso; omega -splitDisjunctions) | (refine Prod.ext ?_ (Prod.ext ?_ ?_) <;> (try dsimp only) <;> omega) | (exfalso; omega)
          have o1273a : ((xtl B n q d)).1 = 0 := by rw [o1273]
          have o1273b : ((xtl B n q d)).2.1 = q := by rw [o1273]
          have o1273c : ((xtl B n q d)).2.2 = (xN B n (xN B n (xN B n ((xN B n q))))) := by rw [o1273]
          have _l := @xdtl_v B n q d
          have h1274 : TC T H1256 tk B n (xN B n (xN B n (xN B n ((xN B n q))))) := (TC_fr w1250 gtk ((wfr.rf (l := [(27, 13)])).put' e1257 g1 rfl) rfl (TC_fr w1221 gtk ((wfr.rf (l := [(33, 999)])).put' e1249 g1226 rfl) rfl (TC_fr w1190 gtk ((wfr.rf (l := [(32, 999)])).put' e1220 g1214 rfl) rfl a1203)))
          have h1275 : DQ T H1256 r1 d := (DQ_fr w1250 g1 ((wfr.rf (l := [(27, 13)])).put' e1257 g1 rfl) rfl (DQ_fr w1221 g1 ((wfr.rf (l := [(33, 999)])).put' e1249 g1226 rfl) rfl (DQ_fr w1190 g1 ((wfr.rf (l := [(32, 999)])).put' e1220 g1214 rfl) rfl (DQ_fr w1173 g1 f1191 rfl (DQ_fr w1143 g1 f1174 rfl (DQ_fr hW g1 f1144 rfl h1130))))))
          have h1276 : ST T H1256 r1 (d 13) := (ST_fr w1250 g1 ((wfr.rf (l := [(27, 13)])).put' e1257 g1 rfl) rfl (ST_fr w1221 g1 ((wfr.rf (l := [(33, 999)])).put' e1249 g1226 rfl) rfl (ST_fr w1190 g1 ((wfr.rf (l := [(32, 999)])).put' e1220 g1214 rfl) rfl (ST_fr w1173 g1 f1191 rfl (ST_fr w1143 g1 f1174 rfl (ST_fr hW g1 f1144 rfl h1131))))))
          have h1277 : SV T H1256 r1 (d 13) 24 := (SV_fr w1250 g1 ((wfr.rf (l := [(27, 13)])).put' e1257 g1 rfl) rfl (SV_fr w1221 g1 ((wfr.rf (l := [(33, 999)])).put' e1249 g1226 rfl) rfl (SV_fr w1190 g1 ((wfr.rf (l := [(32, 999)])).put' e1220 g1214 rfl) rfl (SV_fr w1173 g1 f1191 rfl (SV_fr w1143 g1 f1174 rfl (SV_fr hW g1 f1144 rfl h1132))))))
          have h1278 : DA3 T H1256 r1 (d 0 5) (d 12) := (DA3_fr w1250 g1 ((wfr.rf (l := [(27, 13)])).put' e1257 g1 rfl) rfl (DA3_fr w1221 g1 ((wfr.rf (l := [(33, 999)])).put' e1249 g1226 rfl) rfl (DA3_fr w1190 g1 ((wfr.rf (l := [(32, 999)])).put' e1220 g1214 rfl) rfl (DA3_fr w1173 g1 f1191 rfl (DA3_fr w1143 g1 f1174 rfl (DA3_fr hW g1 f1144 rfl h1133))))))
          have h1279 : DA4 T H1256 r1 (d 0 6 + 1) (xdtl B n q d 14) := (DA4_fr w1250 g1 ((wfr.rf (l := [(27, 13)])).put' e1257 g1 rfl) rfl (DA4_fr w1221 g1 ((wfr.rf (l := [(33, 999)])).put' e1249 g1226 rfl) rfl h1223))
          have h1280 : DA5 T H1256 r1 (d 0 6 + 1) (xdtl B n q d 15) := (DA5_fr w1250 g1 ((wfr.rf (l := [(27, 13)])).put' e1257 g1 rfl) rfl h1252)
          have h1281 : DA6 T H1256 r1 (d 0 7) (d 16) := (DA6_fr w1250 g1 ((wfr.rf (l := [(27, 13)])).put' e1257 g1 rfl) rfl (DA6_fr w1221 g1 ((wfr.rf (l := [(33, 999)])).put' e1249 g1226 rfl) rfl (DA6_fr w1190 g1 ((wfr.rf (l := [(32, 999)])).put' e1220 g1214 rfl) rfl (DA6_fr w1173 g1 f1191 rfl (DA6_fr w1143 g1 f1174 rfl (DA6_fr hW g1 f1144 rfl h1136))))))
          have h1282 : CZ T H1256 r1 (d 0 3) := (CZ_fr w1250 g1 ((wfr.rf (l := [(27, 13)])).put' e1257 g1 rfl) rfl (CZ_fr w1221 g1 ((wfr.rf (l := [(33, 999)])).put' e1249 g1226 rfl) rfl (CZ_fr w1190 g1 ((wfr.rf (l := [(32, 999)])).put' e1220 g1214 rfl) rfl (CZ_fr w1173 g1 f1191 rfl (CZ_fr w1143 g1 f1174 rfl (CZ_fr hW g1 f1144 rfl hCZ_r1))))))
          exact wp_zreturn e42 c42_76 rfl (by omega) ⟨rfl, w1258, f1259, 1, rfl, ⟨by decide, by decide⟩, (Or.inl ⟨by omega, by omega, o1273, by omega, by omega, h1274, DC_mk ⟨by omega, by omega, by omega, by omega, by omega, by omega, by omega, by omega, by omega, by omega, by omega, by omega, by omega, by omega, by omega, by omega⟩ (DQ_cg (fun i h1 h2 => xdtl_r h1 (by omega)) (by omega) (by omega) h1275) h1276 h1277 h1278 h1279 h1280 h1281 ⟨rfl, rfl, rfl, rfl, rfl⟩ ⟨by omega, by omega, by omega⟩, CZ_le h1282 (by omega)⟩)⟩
        · exfalso
          omega
      · have f1283 := f1177.tr f1191 rfl
        show wp _ _ 42 30 [(2, vI z1145), (0, .ref r0), (1, .ref r1)] [vI z1192] _ H1186 _
        refine wp_of e42 c42_30 (rw_if_ne (p1 := 35) (p2 := 33) (by decide) rfl ⟨Int.le_trans (by decide) b1193.1, Int.le_trans b1193.2 (by decide)⟩ (fun c1284 => ?_) (fun c1284 => ?_))
        · exfalso
          omega
        · refine wp_of e42 c42_33 (rw_iconst (pc' := 34) rfl ?_)
          have k1285 : H1186 r1 7 = H r1 7 := ((f1191 r1 7 _ g1 rfl).trans ((f1174 r1 7 _ g1 rfl).trans (f1144 r1 7 _ g1 rfl)))
          have k1286 : H1186 r1 8 = H r1 8 := ((f1191 r1 8 _ g1 rfl).trans ((f1174 r1 8 _ g1 rfl).trans (f1144 r1 8 _ g1 rfl)))
          have k1287 : H1186 r1 9 = H r1 9 := ((f1191 r1 9 _ g1 rfl).trans ((f1174 r1 9 _ g1 rfl).trans (f1144 r1 9 _ g1 rfl)))
          have k1288 : H1186 r1 10 = H r1 10 := ((f1191 r1 10 _ g1 rfl).trans ((f1174 r1 10 _ g1 rfl).trans (f1144 r1 10 _ g1 rfl)))
          have k1289 : H1186 r1 11 = H r1 11 := ((f1191 r1 11 _ g1 rfl).trans ((f1174 r1 11 _ g1 rfl).trans (f1144 r1 11 _ g1 rfl)))
          have k1290 : H1186 r1 12 = H r1 12 := ((f1191 r1 12 _ g1 rfl).trans ((f1174 r1 12 _ g1 rfl).trans (f1144 r1 12 _ g1 rfl)))
          have k1291 : H1186 r1 13 = H r1 13 := ((f1191 r1 13 _ g1 rfl).trans ((f1174 r1 13 _ g1 rfl).trans (f1144 r1 13 _ g1 rfl)))
          have k1292 : H1186 r1 14 = H r1 14 := ((f1191 r1 14 _ g1 rfl).trans ((f1174 r1 14 _ g1 rfl).trans (f1144 r1 14 _ g1 rfl)))
          have k1293 : H1186 r1 15 = H r1 15 := ((f1191 r1 15 _ g1 rfl).trans ((f1174 r1 15 _ g1 rfl).trans (f1144 r1 15 _ g1 rfl)))
          have k1294 : H1186 r1 16 = H r1 16 := ((f1191 r1 16 _ g1 rfl).trans ((f1174 r1 16 _ g1 rfl).trans (f1144 r1 16 _ g1 rfl)))
          have o1295 : (xtl B n q d) = ((xrg B n ((xN B n q)) 23 1 24 24).1, (xrg B n ((xN B n q)) 23 1 24 24).2.1, (xrg B n ((xN B n q)) 23 1 24 24).2.2) := by
            unfold xtl
            repeat first | rw [xs_0 (Int.le_antisymm (by omega -splitDisjunctions) (by omega -splitDisjunctions))] | rw [xs_1 (by omega -splitDisjunctions)] | rw [if_pos (Int.le_antisymm (by omega -splitDisjunctions) (by omega -splitDisjunctions))] | rw [if_pos (by omega -splitDisjunctions)] | rw [if_pos (And.intro (by omega -splitDisjunctions) (by omega -splitDisjunctions))] | rw [if_neg (by omega -splitDisjunctions)] | rw [xs_1 (by omega)] | rw [if_neg (by omega)] | rw [xs_0 (by omega)] | rw [if_pos (by omega)]
            first | done | rfl | assumption | (exfalso; omega -splitDisjunctions) | (refine Prod.ext ?_ (Prod.ext ?_ ?_) <;> (try dsimp only) <;> omega) | (exfalso; omega)
          have o1295a : ((xtl B n q d)).1 = (xrg B n ((xN B n q)) 23 1 24 24).1 := by rw [o1295]
          have o1295b : ((xtl B n q d)).2.1 = (xrg B n ((xN B n q)) 23 1 24 24).2.1 := by rw [o1295]
          have o1295c : ((xtl B n q d)).2.2 = (xrg B n ((xN B n q)) 23 1 24 24).2.2 := by rw [o1295]
          have _l := @xdtl_v B n q d
          exact wp_zreturn e42 c42_34 rfl (by omega) ⟨rfl, w1190, f1283, 0, rfl, ⟨by decide, by decide⟩, (Or.inr ⟨by omega, by omega, by omega, by omega, by omega⟩)⟩
    · exfalso
      omega
  · have f1296 := f0.tr f1144 rfl
    show wp _ _ 42 5 [(0, .ref r0), (1, .ref r1)] [vI z1145] _ H1139 _
    refine wp_of e42 c42_5 (rw_istore_n (pc' := 6) (z := z1145) (L' := [(2, vI z1145), (0, .ref r0), (1, .ref r1)]) rfl rfl rfl ?_)
    refine wp_of e42 c42_6 (rw_iload_n (pc' := 7) (z := z1145) rfl rfl ?_)
    refine wp_of e42 c42_7 (rw_if_ge (p1 := 12) (p2 := 10) (by decide) rfl ⟨b1146.1, b1146.2⟩ (fun c1297 => ?_) (fun c1297 => ?_))
    · exfalso
      omega
    · refine wp_of e42 c42_10 (rw_iconst (pc' := 11) rfl ?_)
      have k1298 : H1139 r1 7 = H r1 7 := (f1144 r1 7 _ g1 rfl)
      have k1299 : H1139 r1 8 = H r1 8 := (f1144 r1 8 _ g1 rfl)
      have k1300 : H1139 r1 9 = H r1 9 := (f1144 r1 9 _ g1 rfl)
      have k1301 : H1139 r1 10 = H r1 10 := (f1144 r1 10 _ g1 rfl)
      have k1302 : H1139 r1 11 = H r1 11 := (f1144 r1 11 _ g1 rfl)
      have k1303 : H1139 r1 12 = H r1 12 := (f1144 r1 12 _ g1 rfl)
      have k1304 : H1139 r1 13 = H r1 13 := (f1144 r1 13 _ g1 rfl)
      have k1305 : H1139 r1 14 = H r1 14 := (f1144 r1 14 _ g1 rfl)
      have k1306 : H1139 r1 15 = H r1 15 := (f1144 r1 15 _ g1 rfl)
      have k1307 : H1139 r1 16 = H r1 16 := (f1144 r1 16 _ g1 rfl)
      have o1308 : (xtl B n q d) = (xkn B n q d, q, q) := by
        unfold xtl
        repeat first | rw [xs_0 (Int.le_antisymm (by omega -splitDisjunctions) (by omega -splitDisjunctions))] | rw [xs_1 (by omega -splitDisjunctions)] | rw [if_pos (Int.le_antisymm (by omega -splitDisjunctions) (by omega -splitDisjunctions))] | rw [if_pos (by omega -splitDisjunctions)] | rw [if_pos (And.intro (by omega -splitDisjunctions) (by omega -splitDisjunctions))] | rw [if_neg (by omega -splitDisjunctions)] | rw [xs_1 (by omega)] | rw [if_neg (by omega)] | rw [xs_0 (by omega)] | rw [if_pos (by omega)]
        first | done | rfl | assumption | (exfalso; omega -splitDisjunctions) | (refine Prod.ext ?_ (Prod.ext ?_ ?_) <;> (try dsimp only) <;> omega) | (exfalso; omega)
      have o1308a : ((xtl B n q d)).1 = xkn B n q d := by rw [o1308]
      have o1308b : ((xtl B n q d)).2.1 = q := by rw [o1308]
      have o1308c : ((xtl B n q d)).2.2 = q := by rw [o1308]
      have _l := @xdtl_v B n q d
      exact wp_zreturn e42 c42_11 rfl (by omega) ⟨rfl, w1143, f1296, 0, rfl, ⟨by decide, by decide⟩, (Or.inr ⟨by omega, by omega, by omega, by omega, by omega⟩)⟩
/-! StrikeAwake$Reader.readsOffer(LStrikeAwake$Parish;)Z  -/
abbrev uq_43 (r0 : Nat) (r1 : Nat) (tk : Nat) (rb : Nat) (B : Nat → Int) (n : Int) (q : Int) (d : xD) (T : wq_T) (H : wq_H) : Option Value → wq_T → wq_H → Prop := fun r T' H' => T = T' ∧ WT T H' ∧ wfr [(27, 14), (3, 1), (3, 2), (3, 3), (3, 4), (4, 2), (4, 3), (4, 4), (4, 5), (4, 6), (34, 999)] T H H' ∧ ∃ z : Int, some (vI z) = r ∧ (0 ≤ z ∧ z ≤ 1) ∧ (((z = 1) ∧ ((xtl B n q d).1 = 0) ∧ (xtl B n q d = (0, q, (xN B n (xN B n (xN B n (xN B n q)))))) ∧ (q ≤ (xN B n (xN B n (xN B n (xN B n q))))) ∧ (H' r0 3 = H r0 3) ∧ TC T H' tk B n (xN B n (xN B n (xN B n (xN B n q)))) ∧ DC T H' r1 (xdof B n q d) ∧ CZ T H' r1 ((xdof B n q d) 0 3)) ∨ ((z = 0) ∧ ((xtl B n q d).1 ≠ 0) ∧ ((xtl B n q d).2.2 = (xtl B n q d).2.1) ∧ (H' r0 3 = (xtl B n q d).1) ∧ (H' r0 4 = (xtl B n q d).2.1)))
set_option maxHeartbeats 4000000 in
theorem u_43 {kt : Nat → Option mc_E} {T : wq_T} {H : wq_H} {r0 : Nat} {r1 : Nat} {tk : Nat} {rb : Nat} {B : Nat → Int} {n : Int} {q : Int} {d : xD} (hW : WT T H) (g0 : T.2.2.2 r0 = some 3) (g1 : T.2.2.2 r1 = some 27) (qtk : H r0 0 = (tk : Int)) (gtk : T.2.2.2 tk = some 4) (qrb : H tk 0 = (rb : Int)) (grb : T.2.2.2 rb = some 2) (p0 : d 0 7 ≤ 5) (hTC_tk : TC T H tk B n q) (hDC_r1 : DC T H r1 d) (hCZ_r1 : CZ T H r1 (d 0 3)) : wpc kt 5 43 [.ref r0, .ref r1] T H (uq_43 r0 r1 tk rb B n q d T H) := by
  refine wp_enter e43 (Nat.le_of_ble_eq_true rfl) rfl ?_
  have f0 : wfr [(27, 14), (3, 1), (3, 2), (3, 3), (3, 4), (4, 2), (4, 3), (4, 4), (4, 5), (4, 6), (34, 999)] T H H := wfr.rf
  show wp _ _ 43 0 [(0, .ref r0), (1, .ref r1)] [] _ H _
  have u1116 := TC_k hTC_tk
  have u1117 := DC_k hDC_r1
  have h1118 : DQ T H r1 d := hDC_r1.2.1
  have h1119 : ST T H r1 (d 13) := hDC_r1.2.2.1
  have h1120 : SV T H r1 (d 13) 24 := hDC_r1.2.2.2.1
  have h1121 : DA3 T H r1 (d 0 5) (d 12) := hDC_r1.2.2.2.2.1
  have h1122 : DA4 T H r1 (d 0 6) (d 14) := hDC_r1.2.2.2.2.2.1
  have h1123 : DA5 T H r1 (d 0 6) (d 15) := hDC_r1.2.2.2.2.2.2.1
  have h1124 : DA6 T H r1 (d 0 7) (d 16) := hDC_r1.2.2.2.2.2.2.2
  refine wp_of e43 c43_0 (rw_aload_n (pc' := 1) (v := .ref r0) rfl rfl rfl ?_)
  refine wp_of e43 c43_1 (rw_aload_n (pc' := 2) (v := .ref r1) rfl rfl rfl ?_)
  refine wp_of e43 c43_2 (xc_V (pc' := 5) (r := r0) (as := [.ref r1]) (st := []) (lm_1_207) rfl rfl (Nat.le_of_ble_eq_true rfl) hW g0 sh_3 (by decide) rfl (by decide) (u_33 (B := B) (n := n) (q := q) (d := d) hW g0 g1 qtk gtk qrb grb hTC_tk hDC_r1) (fun R1125 T1126 H1127 p1128 => ?_))
  obtain ⟨e1129, w1131, f1132, z1133, e1130, b1134, p1135⟩ := p1128
  subst e1129
  subst e1130
  rcases p1135 with ⟨a1136, a1137, a1138, a1139, a1140⟩ | ⟨a1141, a1142, a1143, a1144⟩
  · have f1145 := f0.tr f1132 rfl
    show wp _ _ 43 5 [(0, .ref r0), (1, .ref r1)] [vI z1133] _ H1127 _
    refine wp_of e43 c43_5 (rw_if_ge (p1 := 10) (p2 := 8) (by decide) rfl ⟨b1134.1, b1134.2⟩ (fun c1146 => ?_) (fun c1146 => ?_))
    · refine wp_of e43 c43_10 (rw_aload_n (pc' := 11) (v := .ref r0) rfl rfl rfl ?_)
      have k1147 : H1127 r0 0 = H r0 0 := (f1132 r0 0 _ g0 rfl)
      have q1148 : H1127 r0 0 = (tk : Int) := k1147.trans qtk
      refine wp_of e43 c43_11 (xg_K (pc' := 14) lf_1_12 w1131 g0 sh_3 (by decide) (by decide) rfl q1148 rfl ?_)
      have k1149 : H1127 tk 0 = H tk 0 := (f1132 tk 0 _ gtk rfl)
      have q1150 : H1127 tk 0 = (rb : Int) := k1149.trans qrb
      have k1151 : H1127 tk 1 = H tk 1 := (f1132 tk 1 _ gtk rfl)
      have k1152 : H1127 tk 2 = H tk 2 := (f1132 tk 2 _ gtk rfl)
      have h1153 : TC T H1127 tk B n q := (TC_fr hW gtk f1132 rfl hTC_tk)
      have h1154 : TP T H1127 rb B := TC_tp h1153 q1150
      refine wp_of e43 c43_14 (xc_V (pc' := 17) (r := tk) (as := []) (st := []) (lm_1_74) rfl rfl (Nat.le_of_ble_eq_true rfl) w1131 gtk sh_4 (by decide) rfl (by decide) (u_16 (B := B) (n := n) (a := (xE B n q)) (q := (xN B n q)) w1131 gtk q1150 grb (by omega) (by omega) (by omega) (rfl) h1154) (fun R1155 T1156 H1157 p1158 => ?_))
      obtain ⟨e1159, w1161, f1162, e1160, p1163⟩ := p1158
      subst e1159
      subst e1160
      have f1165 := f1145.tr f1162 rfl
      show wp _ _ 43 17 [(0, .ref r0), (1, .ref r1)] [] _ H1157 _
      have u1166 := TC_k p1163
      refine wp_of e43 c43_17 (rw_aload_n (pc' := 18) (v := .ref r0) rfl rfl rfl ?_)
      refine wp_of e43 c43_18 (rw_bipush (pc' := 20) (z := 23) rfl (by decide) ?_)
      refine wp_of e43 c43_20 (rw_iconst (pc' := 21) rfl ?_)
      refine wp_of e43 c43_21 (rw_bipush (pc' := 23) (z := 24) rfl (by decide) ?_)
      refine wp_of e43 c43_23 (rw_bipush (pc' := 25) (z := 24) rfl (by decide) ?_)
      have k1167 : H1157 r0 0 = H1127 r0 0 := (f1162 r0 0 _ g0 rfl)
      have q1168 : H1157 r0 0 = (tk : Int) := k1167.trans q1148
      have k1169 : H1157 tk 0 = H1127 tk 0 := (f1162 tk 0 _ gtk rfl)
      have q1170 : H1157 tk 0 = (rb : Int) := k1169.trans q1150
      have k1171 : H1157 r0 3 = H1127 r0 3 := (f1162 r0 3 _ g0 rfl)
      refine wp_of e43 c43_25 (xc_V (pc' := 28) (r := r0) (as := [vI 23, vI 1, vI 24, vI 24]) (st := []) (lm_1_154) rfl rfl (Nat.le_of_ble_eq_true rfl) w1161 g0 sh_3 (by decide) rfl (by decide) (u_29 (B := B) (n := n) (q := ((xN B n q))) w1161 g0 ⟨by decide, by decide⟩ ⟨by decide, by decide⟩ ⟨by decide, by decide⟩ ⟨by decide, by decide⟩ q1168 gtk q1170 grb p1163) (fun R1172 T1173 H1174 p1175 => ?_))
      obtain ⟨e1176, w1178, f1179, z1180, e1177, b1181, p1182⟩ := p1175
      subst e1176
      subst e1177
      rcases p1182 with ⟨a1183, a1184, a1185, a1186, a1187, a1188, a1189, a1190, a1191⟩ | ⟨a1192, a1193, a1194, a1195, a1196⟩
      · have f1197 := f1165.tr f1179 rfl
        show wp _ _ 43 28 [(0, .ref r0), (1, .ref r1)] [vI z1180] _ H1174 _
        have u1198 := TC_k a1191
        refine wp_of e43 c43_28 (rw_if_ne (p1 := 33) (p2 := 31) (by decide) rfl ⟨Int.le_trans (by decide) b1181.1, Int.le_trans b1181.2 (by decide)⟩ (fun c1199 => ?_) (fun c1199 => ?_))
        · refine wp_of e43 c43_33 (rw_aload_n (pc' := 34) (v := .ref r1) rfl rfl rfl ?_)
          refine wp_of e43 c43_34 (xg_R (pc' := 37) lf_1_251 w1178 g1 sh_27 (by decide) (by decide) ty_27_6 rfl rfl (fun r1200 q1201 g1202 => ?_))
          refine wp_of e43 c43_37 (rw_aload_n (pc' := 38) (v := .ref r1) rfl rfl rfl ?_)
          have k1203 : H1174 r1 14 = H r1 14 := ((f1179 r1 14 _ g1 rfl).trans ((f1162 r1 14 _ g1 rfl).trans (f1132 r1 14 _ g1 rfl)))
          refine wp_of e43 c43_38 (xg_I (pc' := 41) lf_1_254 w1178 g1 sh_27 (by decide) (by decide) ty_27_14 rfl rfl (fun b1204 b1205 => ?_))
          refine wp_of e43 c43_41 (rw_aload_n (pc' := 42) (v := .ref r0) rfl rfl rfl ?_)
          refine wp_of e43 c43_42 (xg_I (pc' := 45) lf_1_158 w1178 g0 sh_3 (by decide) (by decide) ty_3_1 rfl rfl (fun b1206 b1207 => ?_))
          refine wp_of e43 c43_45 (rw_aload_n (pc' := 46) (v := .ref r0) rfl rfl rfl ?_)
          refine wp_of e43 c43_46 (xg_I (pc' := 49) lf_1_164 w1178 g0 sh_3 (by decide) (by decide) ty_3_2 rfl rfl (fun b1208 b1209 => ?_))
          refine wp_of e43 c43_49 (xc_S (pc' := 52) (as := [vI (H1174 r0 1), vI (H1174 r0 2)]) (st := [vI (H1174 r1 14), .ref r1200]) (lm_1_194) rfl rfl (Nat.le_of_ble_eq_true rfl) rfl (by decide) (u_31 (lo := (xV B n (xN B n q))) (hi := (xV B n (xN B n (xN B n (xN B n q))))) w1178 ⟨by omega, b1207⟩ ⟨by omega, Int.le_trans b1209 (by decide)⟩ (by omega) (by omega) (by omega)) (fun R1210 T1211 H1212 p1213 => ?_))
          obtain ⟨e1214, e1216, z1217, e1215, b1218, p1219⟩ := p1213
          subst e1214
          subst e1215
          subst e1216
          show wp _ _ 43 52 [(0, .ref r0), (1, .ref r1)] [vI z1217, vI (H1174 r1 14), .ref r1200] _ H1174 _
          have h1221 : DA6 T H1174 r1 (d 0 7) (d 16) := (DA6_fr w1161 g1 f1179 rfl (DA6_fr w1131 g1 f1162 rfl (DA6_fr hW g1 f1132 rfl h1124)))
          refine wp_of e43 c43_52 (xs_I (pc' := 53) w1178 g1202 (by decide) sh_34 (by decide) (ty_34 _) (Int.le_trans (by decide) b1218.1) (Int.le_trans b1218.2 (by decide)) ⟨Int.le_trans (by decide) b1218.1, Int.le_trans b1218.2 (by decide)⟩ (b1204) (by omega) rfl (fun H1222 e1223 w1224 => ?_))
          have f1225 := f1197.put' e1223 g1202 rfl
          have h1226 : DA6 T H1222 r1 (d 0 7 + 1) (xdof B n q d 16) := DA_put h1221 q1201 g1 g1202 (by decide) e1223 (by omega) rfl ((xdof_c (k := ((H1174 r1 14).toNat)) (by omega)).1.trans (by omega)) (xdof_c (k := ((H1174 r1 14).toNat)) (by omega)).2
          refine wp_of e43 c43_53 (rw_aload_n (pc' := 54) (v := .ref r1) rfl rfl rfl ?_)
          refine wp_of e43 c43_54 (rw_dup (pc' := 55) rfl rfl ?_)
          have k1227 : H1222 r1 14 = H1174 r1 14 := (wq_u_t e1223 g1202 g1 rfl 14)
          refine wp_of e43 c43_55 (xg_I (pc' := 58) lf_1_254 w1224 g1 sh_27 (by decide) (by decide) ty_27_14 rfl rfl (fun b1228 b1229 => ?_))
          refine wp_of e43 c43_58 (rw_iconst (pc' := 59) rfl ?_)
          refine wp_of e43 c43_59 (rw_iadd (pc' := 60) rfl ?_)
          refine wp_of e43 c43_60 (xp_I (pc' := 63) lf_1_254 w1224 g1 sh_27 (by decide) (by decide) ty_27_14 rfl rfl (by omega) (by omega) ⟨by omega, by omega⟩ rfl (fun H1230 e1231 w1232 => ?_))
          have f1233 := f1225.put' e1231 g1 rfl
          have k1234 : H1230 r1 14 = (H1222 r1 14) + 1 := wq_u_s e1231
          refine wp_of e43 c43_63 (rw_iconst (pc' := 64) rfl ?_)
          have k1235 : H1230 r0 3 = H1174 r0 3 := ((wq_u_t e1231 g1 g0 rfl 3).trans (wq_u_t e1223 g1202 g0 rfl 3))
          have k1236 : H1230 r1 7 = H r1 7 := ((wq_u_j e1231 rfl).trans ((wq_u_t e1223 g1202 g1 rfl 7).trans ((f1179 r1 7 _ g1 rfl).trans ((f1162 r1 7 _ g1 rfl).trans (f1132 r1 7 _ g1 rfl)))))
          have k1237 : H1230 r1 8 = H r1 8 := ((wq_u_j e1231 rfl).trans ((wq_u_t e1223 g1202 g1 rfl 8).trans ((f1179 r1 8 _ g1 rfl).trans ((f1162 r1 8 _ g1 rfl).trans (f1132 r1 8 _ g1 rfl)))))
          have k1238 : H1230 r1 9 = H r1 9 := ((wq_u_j e1231 rfl).trans ((wq_u_t e1223 g1202 g1 rfl 9).trans ((f1179 r1 9 _ g1 rfl).trans ((f1162 r1 9 _ g1 rfl).trans (f1132 r1 9 _ g1 rfl)))))
          have k1239 : H1230 r1 10 = H r1 10 := ((wq_u_j e1231 rfl).trans ((wq_u_t e1223 g1202 g1 rfl 10).trans ((f1179 r1 10 _ g1 rfl).trans ((f1162 r1 10 _ g1 rfl).trans (f1132 r1 10 _ g1 rfl)))))
          have k1240 : H1230 r1 11 = H r1 11 := ((wq_u_j e1231 rfl).trans ((wq_u_t e1223 g1202 g1 rfl 11).trans ((f1179 r1 11 _ g1 rfl).trans ((f1162 r1 11 _ g1 rfl).trans (f1132 r1 11 _ g1 rfl)))))
          have k1241 : H1230 r1 12 = H r1 12 := ((wq_u_j e1231 rfl).trans ((wq_u_t e1223 g1202 g1 rfl 12).trans ((f1179 r1 12 _ g1 rfl).trans ((f1162 r1 12 _ g1 rfl).trans (f1132 r1 12 _ g1 rfl)))))
          have k1242 : H1230 r1 13 = H r1 13 := ((wq_u_j e1231 rfl).trans ((wq_u_t e1223 g1202 g1 rfl 13).trans ((f1179 r1 13 _ g1 rfl).trans ((f1162 r1 13 _ g1 rfl).trans (f1132 r1 13 _ g1 rfl)))))
          have k1243 : H1230 r1 15 = H r1 15 := ((wq_u_j e1231 rfl).trans ((wq_u_t e1223 g1202 g1 rfl 15).trans ((f1179 r1 15 _ g1 rfl).trans ((f1162 r1 15 _ g1 rfl).trans (f1132 r1 15 _ g1 rfl)))))
          have k1244 : H1230 r1 16 = H r1 16 := ((wq_u_j e1231 rfl).trans ((wq_u_t e1223 g1202 g1 rfl 16).trans ((f1179 r1 16 _ g1 rfl).trans ((f1162 r1 16 _ g1 rfl).trans (f1132 r1 16 _ g1 rfl)))))
          have k1245 : H1230 r0 1 = H1174 r0 1 := ((wq_u_t e1231 g1 g0 rfl 1).trans (wq_u_t e1223 g1202 g0 rfl 1))
          have k1246 : H1230 r0 2 = H1174 r0 2 := ((wq_u_t e1231 g1 g0 rfl 2).trans (wq_u_t e1223 g1202 g0 rfl 2))
          have o1247 : (xtl B n q d) = (0, q, (xN B n (xN B n (xN B n ((xN B n q)))))) := by
            unfold xtl
            repeat first | rw [xs_0 (Int.le_antisymm (by omega -splitDisjunctions) (by omega -splitDisjunctions))] | rw [xs_1 (by omega -splitDisjunctions)] | rw [if_pos (Int.le_antisymm (by omega -splitDisjunctions) (by omega -splitDisjunctions))] | rw [if_pos (by omega -splitDisjunctions)] | rw [if_pos (And.intro (by omega -splitDisjunctions) (by omega -splitDisjunctions))] | rw [if_neg (by omega -splitDisjunctions)] | rw [xs_1 (by omega)] | rw [if_neg (by omega)] | rw [xs_0 (by omega)] | rw [if_pos (by omega)]
            first | done | rfl | assumption | (exfalso; omega -splitDisjunctions) | (refine Prod.ext ?_ (Prod.ext ?_ ?_) <;> (try dsimp only) <;> omega) | (exfalso; omega)
          have o1247a : ((xtl B n q d)).1 = 0 := by rw [o1247]
          have o1247b : ((xtl B n q d)).2.1 = q := by rw [o1247]
          have o1247c : ((xtl B n q d)).2.2 = (xN B n (xN B n (xN B n ((xN B n q))))) := by rw [o1247]
          have _l := @xdof_v B n q d
          have h1248 : TC T H1230 tk B n (xN B n (xN B n (xN B n ((xN B n q))))) := (TC_fr w1224 gtk ((wfr.rf (l := [(27, 14)])).put' e1231 g1 rfl) rfl (TC_fr w1178 gtk ((wfr.rf (l := [(34, 999)])).put' e1223 g1202 rfl) rfl a1191))
          have h1249 : DQ T H1230 r1 d := (DQ_fr w1224 g1 ((wfr.rf (l := [(27, 14)])).put' e1231 g1 rfl) rfl (DQ_fr w1178 g1 ((wfr.rf (l := [(34, 999)])).put' e1223 g1202 rfl) rfl (DQ_fr w1161 g1 f1179 rfl (DQ_fr w1131 g1 f1162 rfl (DQ_fr hW g1 f1132 rfl h1118)))))
          have h1250 : ST T H1230 r1 (d 13) := (ST_fr w1224 g1 ((wfr.rf (l := [(27, 14)])).put' e1231 g1 rfl) rfl (ST_fr w1178 g1 ((wfr.rf (l := [(34, 999)])).put' e1223 g1202 rfl) rfl (ST_fr w1161 g1 f1179 rfl (ST_fr w1131 g1 f1162 rfl (ST_fr hW g1 f1132 rfl h1119)))))
          have h1251 : SV T H1230 r1 (d 13) 24 := (SV_fr w1224 g1 ((wfr.rf (l := [(27, 14)])).put' e1231 g1 rfl) rfl (SV_fr w1178 g1 ((wfr.rf (l := [(34, 999)])).put' e1223 g1202 rfl) rfl (SV_fr w1161 g1 f1179 rfl (SV_fr w1131 g1 f1162 rfl (SV_fr hW g1 f1132 rfl h1120)))))
          have h1252 : DA3 T H1230 r1 (d 0 5) (d 12) := (DA3_fr w1224 g1 ((wfr.rf (l := [(27, 14)])).put' e1231 g1 rfl) rfl (DA3_fr w1178 g1 ((wfr.rf (l := [(34, 999)])).put' e1223 g1202 rfl) rfl (DA3_fr w1161 g1 f1179 rfl (DA3_fr w1131 g1 f1162 rfl (DA3_fr hW g1 f1132 rfl h1121)))))
          have h1253 : DA4 T H1230 r1 (d 0 6) (d 14) := (DA4_fr w1224 g1 ((wfr.rf (l := [(27, 14)])).put' e1231 g1 rfl) rfl (DA4_fr w1178 g1 ((wfr.rf (l := [(34, 999)])).put' e1223 g1202 rfl) rfl (DA4_fr w1161 g1 f1179 rfl (DA4_fr w1131 g1 f1162 rfl (DA4_fr hW g1 f1132 rfl h1122)))))
          have h1254 : DA5 T H1230 r1 (d 0 6) (d 15) := (DA5_fr w1224 g1 ((wfr.rf (l := [(27, 14)])).put' e1231 g1 rfl) rfl (DA5_fr w1178 g1 ((wfr.rf (l := [(34, 999)])).put' e1223 g1202 rfl) rfl (DA5_fr w1161 g1 f1179 rfl (DA5_fr w1131 g1 f1162 rfl (DA5_fr hW g1 f1132 rfl h1123)))))
          have h1255 : DA6 T H1230 r1 (d 0 7 + 1) (xdof B n q d 16) := (DA6_fr w1224 g1 ((wfr.rf (l := [(27, 14)])).put' e1231 g1 rfl) rfl h1226)
          have h1256 : CZ T H1230 r1 (d 0 3) := (CZ_fr w1224 g1 ((wfr.rf (l := [(27, 14)])).put' e1231 g1 rfl) rfl (CZ_fr w1178 g1 ((wfr.rf (l := [(34, 999)])).put' e1223 g1202 rfl) rfl (CZ_fr w1161 g1 f1179 rfl (CZ_fr w1131 g1 f1162 rfl (CZ_fr hW g1 f1132 rfl hCZ_r1)))))
          exact wp_zreturn e43 c43_64 rfl (by omega) ⟨rfl, w1232, f1233, 1, rfl, ⟨by decide, by decide⟩, (Or.inl ⟨by omega, by omega, o1247, by omega, by omega, h1248, DC_mk ⟨by omega, by omega, by omega, by omega, by omega, by omega, by omega, by omega, by omega, by omega, by omega, by omega, by omega, by omega, by omega, by omega⟩ (DQ_cg (fun i h1 h2 => xdof_r h1 (by omega)) (by omega) (by omega) h1249) h1250 h1251 h1252 h1253 h1254 h1255 ⟨rfl, rfl, rfl, rfl, rfl⟩ ⟨by omega, by omega, by omega⟩, CZ_le h1256 (by omega)⟩)⟩
        · exfalso
          omega
      · have f1257 := f1165.tr f1179 rfl
        show wp _ _ 43 28 [(0, .ref r0), (1, .ref r1)] [vI z1180] _ H1174 _
        refine wp_of e43 c43_28 (rw_if_ne (p1 := 33) (p2 := 31) (by decide) rfl ⟨Int.le_trans (by decide) b1181.1, Int.le_trans b1181.2 (by decide)⟩ (fun c1258 => ?_) (fun c1258 => ?_))
        · exfalso
          omega
        · refine wp_of e43 c43_31 (rw_iconst (pc' := 32) rfl ?_)
          have k1259 : H1174 r1 7 = H r1 7 := ((f1179 r1 7 _ g1 rfl).trans ((f1162 r1 7 _ g1 rfl).trans (f1132 r1 7 _ g1 rfl)))
          have k1260 : H1174 r1 8 = H r1 8 := ((f1179 r1 8 _ g1 rfl).trans ((f1162 r1 8 _ g1 rfl).trans (f1132 r1 8 _ g1 rfl)))
          have k1261 : H1174 r1 9 = H r1 9 := ((f1179 r1 9 _ g1 rfl).trans ((f1162 r1 9 _ g1 rfl).trans (f1132 r1 9 _ g1 rfl)))
          have k1262 : H1174 r1 10 = H r1 10 := ((f1179 r1 10 _ g1 rfl).trans ((f1162 r1 10 _ g1 rfl).trans (f1132 r1 10 _ g1 rfl)))
          have k1263 : H1174 r1 11 = H r1 11 := ((f1179 r1 11 _ g1 rfl).trans ((f1162 r1 11 _ g1 rfl).trans (f1132 r1 11 _ g1 rfl)))
          have k1264 : H1174 r1 12 = H r1 12 := ((f1179 r1 12 _ g1 rfl).trans ((f1162 r1 12 _ g1 rfl).trans (f1132 r1 12 _ g1 rfl)))
          have k1265 : H1174 r1 13 = H r1 13 := ((f1179 r1 13 _ g1 rfl).trans ((f1162 r1 13 _ g1 rfl).trans (f1132 r1 13 _ g1 rfl)))
          have k1266 : H1174 r1 14 = H r1 14 := ((f1179 r1 14 _ g1 rfl).trans ((f1162 r1 14 _ g1 rfl).trans (f1132 r1 14 _ g1 rfl)))
          have k1267 : H1174 r1 15 = H r1 15 := ((f1179 r1 15 _ g1 rfl).trans ((f1162 r1 15 _ g1 rfl).trans (f1132 r1 15 _ g1 rfl)))
          have k1268 : H1174 r1 16 = H r1 16 := ((f1179 r1 16 _ g1 rfl).trans ((f1162 r1 16 _ g1 rfl).trans (f1132 r1 16 _ g1 rfl)))
          have o1269 : (xtl B n q d) = ((xrg B n ((xN B n q)) 23 1 24 24).1, (xrg B n ((xN B n q)) 23 1 24 24).2.1, (xrg B n ((xN B n q)) 23 1 24 24).2.2) := by
            unfold xtl
            repeat first | rw [xs_0 (Int.le_antisymm (by omega -splitDisjunctions) (by omega -splitDisjunctions))] | rw [xs_1 (by omega -splitDisjunctions)] | rw [if_pos (Int.le_antisymm (by omega -splitDisjunctions) (by omega -splitDisjunctions))] | rw [if_pos (by omega -splitDisjunctions)] | rw [if_pos (And.intro (by omega -splitDisjunctions) (by omega -splitDisjunctions))] | rw [if_neg (by omega -splitDisjunctions)] | rw [xs_1 (by omega)] | rw [if_neg (by omega)] | rw [xs_0 (by omega)] | rw [if_pos (by omega)]
            first | done | rfl | assumption | (exfalso; omega -splitDisjunctions) | (refine Prod.ext ?_ (Prod.ext ?_ ?_) <;> (try dsimp only) <;> omega) | (exfalso; omega)
          have o1269a : ((xtl B n q d)).1 = (xrg B n ((xN B n q)) 23 1 24 24).1 := by rw [o1269]
          have o1269b : ((xtl B n q d)).2.1 = (xrg B n ((xN B n q)) 23 1 24 24).2.1 := by rw [o1269]
          have o1269c : ((xtl B n q d)).2.2 = (xrg B n ((xN B n q)) 23 1 24 24).2.2 := by rw [o1269]
          have _l := @xdof_v B n q d
          exact wp_zreturn e43 c43_32 rfl (by omega) ⟨rfl, w1178, f1257, 0, rfl, ⟨by decide, by decide⟩, (Or.inr ⟨by omega, by omega, by omega, by omega, by omega⟩)⟩
    · exfalso
      omega
  · have f1270 := f0.tr f1132 rfl
    show wp _ _ 43 5 [(0, .ref r0), (1, .ref r1)] [vI z1133] _ H1127 _
    refine wp_of e43 c43_5 (rw_if_ge (p1 := 10) (p2 := 8) (by decide) rfl ⟨b1134.1, b1134.2⟩ (fun c1271 => ?_) (fun c1271 => ?_))
    · exfalso
      omega
    · refine wp_of e43 c43_8 (rw_iconst (pc' := 9) rfl ?_)
      have k1272 : H1127 r1 7 = H r1 7 := (f1132 r1 7 _ g1 rfl)
      have k1273 : H1127 r1 8 = H r1 8 := (f1132 r1 8 _ g1 rfl)
      have k1274 : H1127 r1 9 = H r1 9 := (f1132 r1 9 _ g1 rfl)
      have k1275 : H1127 r1 10 = H r1 10 := (f1132 r1 10 _ g1 rfl)
      have k1276 : H1127 r1 11 = H r1 11 := (f1132 r1 11 _ g1 rfl)
      have k1277 : H1127 r1 12 = H r1 12 := (f1132 r1 12 _ g1 rfl)
      have k1278 : H1127 r1 13 = H r1 13 := (f1132 r1 13 _ g1 rfl)
      have k1279 : H1127 r1 14 = H r1 14 := (f1132 r1 14 _ g1 rfl)
      have k1280 : H1127 r1 15 = H r1 15 := (f1132 r1 15 _ g1 rfl)
      have k1281 : H1127 r1 16 = H r1 16 := (f1132 r1 16 _ g1 rfl)
      have o1282 : (xtl B n q d) = (xkn B n q d, q, q) := by
        unfold xtl
        repeat first | rw [xs_0 (Int.le_antisymm (by omega -splitDisjunctions) (by omega -splitDisjunctions))] | rw [xs_1 (by omega -splitDisjunctions)] | rw [if_pos (Int.le_antisymm (by omega -splitDisjunctions) (by omega -splitDisjunctions))] | rw [if_pos (by omega -splitDisjunctions)] | rw [if_pos (And.intro (by omega -splitDisjunctions) (by omega -splitDisjunctions))] | rw [if_neg (by omega -splitDisjunctions)] | rw [xs_1 (by omega)] | rw [if_neg (by omega)] | rw [xs_0 (by omega)] | rw [if_pos (by omega)]
        first | done | rfl | assumption | (exfalso; omega -splitDisjunctions) | (refine Prod.ext ?_ (Prod.ext ?_ ?_) <;> (try dsimp only) <;> omega) | (exfalso; omega)
      have o1282a : ((xtl B n q d)).1 = xkn B n q d := by rw [o1282]
      have o1282b : ((xtl B n q d)).2.1 = q := by rw [o1282]
      have o1282c : ((xtl B n q d)).2.2 = q := by rw [o1282]
      have _l := @xdof_v B n q d
      exact wp_zreturn e43 c43_9 rfl (by omega) ⟨rfl, w1131, f1270, 0, rfl, ⟨by decide, by decide⟩, (Or.inr ⟨by omega, by omega, by omega, by omega, by omega⟩)⟩
/-! StrikeAwake$Reader.readsApart(LStrikeAwake$Parish;)Z  -/
abbrev uq_34 (r0 : Nat) (r1 : Nat) (tk : Nat) (rb : Nat) (B : Nat → Int) (n : Int) (q : Int) (d : xD) (T : wq_T) (H : wq_H) : Option Value → wq_T → wq_H → Prop := fun r T' H' => T = T' ∧ WT T H' ∧ wfr [(27, 11), (35, 14), (3, 3), (3, 4), (4, 2), (4, 3), (4, 4), (4, 5), (4, 6)] T H H' ∧ ∃ z : Int, some (vI z) = r ∧ (0 ≤ z ∧ z ≤ 1) ∧ (((z = 1) ∧ ((xap B n q d).1 = 0) ∧ (xap B n q d = (0, q, (xN B n (xN B n (xN B n q))))) ∧ (q ≤ (xN B n (xN B n (xN B n q)))) ∧ (H' r0 3 = H r0 3) ∧ TC T H' tk B n (xN B n (xN B n (xN B n q))) ∧ DC T H' r1 (xdap B n q d) ∧ CZ T H' r1 ((xdap B n q d) 0 3)) ∨ ((z = 0) ∧ ((xap B n q d).1 ≠ 0) ∧ ((xap B n q d).2.2 = (xap B n q d).2.1) ∧ (H' r0 3 = (xap B n q d).1) ∧ (H' r0 4 = (xap B n q d).2.1)))
set_option maxHeartbeats 4000000 in
theorem u_34 {kt : Nat → Option mc_E} {T : wq_T} {H : wq_H} {r0 : Nat} {r1 : Nat} {tk : Nat} {rb : Nat} {B : Nat → Int} {n : Int} {q : Int} {d : xD} (hW : WT T H) (g0 : T.2.2.2 r0 = some 3) (g1 : T.2.2.2 r1 = some 27) (qtk : H r0 0 = (tk : Int)) (gtk : T.2.2.2 tk = some 4) (qrb : H tk 0 = (rb : Int)) (grb : T.2.2.2 rb = some 2) (p0 : d 0 4 ≤ 2) (hTC_tk : TC T H tk B n q) (hDC_r1 : DC T H r1 d) (hDD_r1 : DD T H r1 ) (hCZ_r1 : CZ T H r1 (d 0 3)) : wpc kt 5 34 [.ref r0, .ref r1] T H (uq_34 r0 r1 tk rb B n q d T H) := by
  refine wp_enter e34 (Nat.le_of_ble_eq_true rfl) rfl ?_
  have f0 : wfr [(27, 11), (35, 14), (3, 3), (3, 4), (4, 2), (4, 3), (4, 4), (4, 5), (4, 6)] T H H := wfr.rf
  show wp _ _ 34 0 [(0, .ref r0), (1, .ref r1)] [] _ H _
  have u1227 := TC_k hTC_tk
  have u1228 := DC_k hDC_r1
  have h1229 : ST T H r1 (d 13) := hDC_r1.2.2.1
  have h1230 : SV T H r1 (d 13) 24 := hDC_r1.2.2.2.1
  have h1231 : DA3 T H r1 (d 0 5) (d 12) := hDC_r1.2.2.2.2.1
  have h1232 : DA4 T H r1 (d 0 6) (d 14) := hDC_r1.2.2.2.2.2.1
  have h1233 : DA5 T H r1 (d 0 6) (d 15) := hDC_r1.2.2.2.2.2.2.1
  have h1234 : DA6 T H r1 (d 0 7) (d 16) := hDC_r1.2.2.2.2.2.2.2
  have h1235 : DG T H r1 d (xM d) := hDC_r1.2.1.1
  have _w1 := @xwho_e d B n q
  have _w2 := @xwho_e d B n (xN B n (xN B n q))
  refine wp_of e34 c34_0 (rw_aload_n (pc' := 1) (v := .ref r0) rfl rfl rfl ?_)
  refine wp_of e34 c34_1 (rw_aload_n (pc' := 2) (v := .ref r1) rfl rfl rfl ?_)
  refine wp_of e34 c34_2 (xc_V (pc' := 5) (r := r0) (as := [.ref r1]) (st := []) (lm_1_207) rfl rfl (Nat.le_of_ble_eq_true rfl) hW g0 sh_3 (by decide) rfl (by decide) (u_33 (B := B) (n := n) (q := q) (d := d) hW g0 g1 qtk gtk qrb grb hTC_tk hDC_r1) (fun R1236 T1237 H1238 p1239 => ?_))
  obtain ⟨e1240, w1242, f1243, z1244, e1241, b1245, p1246⟩ := p1239
  subst e1240
  subst e1241
  rcases p1246 with ⟨a1247, a1248, a1249, a1250, a1251⟩ | ⟨a1252, a1253, a1254, a1255⟩
  · have f1256 := f0.tr f1243 rfl
    show wp _ _ 34 5 [(0, .ref r0), (1, .ref r1)] [vI z1244] _ H1238 _
    refine wp_of e34 c34_5 (rw_istore_n (pc' := 6) (z := z1244) (L' := [(2, vI z1244), (0, .ref r0), (1, .ref r1)]) rfl rfl rfl ?_)
    refine wp_of e34 c34_6 (rw_iload_n (pc' := 7) (z := z1244) rfl rfl ?_)
    refine wp_of e34 c34_7 (rw_if_ge (p1 := 12) (p2 := 10) (by decide) rfl ⟨b1245.1, b1245.2⟩ (fun c1257 => ?_) (fun c1257 => ?_))
    · refine wp_of e34 c34_12 (rw_aload_n (pc' := 13) (v := .ref r0) rfl rfl rfl ?_)
      have k1258 : H1238 r0 0 = H r0 0 := (f1243 r0 0 _ g0 rfl)
      have q1259 : H1238 r0 0 = (tk : Int) := k1258.trans qtk
      refine wp_of e34 c34_13 (xg_K (pc' := 16) lf_1_12 w1242 g0 sh_3 (by decide) (by decide) rfl q1259 rfl ?_)
      have k1260 : H1238 tk 0 = H tk 0 := (f1243 tk 0 _ gtk rfl)
      have q1261 : H1238 tk 0 = (rb : Int) := k1260.trans qrb
      have k1262 : H1238 tk 1 = H tk 1 := (f1243 tk 1 _ gtk rfl)
      have k1263 : H1238 tk 2 = H tk 2 := (f1243 tk 2 _ gtk rfl)
      have h1264 : TC T H1238 tk B n q := (TC_fr hW gtk f1243 rfl hTC_tk)
      have h1265 : TP T H1238 rb B := TC_tp h1264 q1261
      refine wp_of e34 c34_16 (xc_V (pc' := 19) (r := tk) (as := []) (st := []) (lm_1_74) rfl rfl (Nat.le_of_ble_eq_true rfl) w1242 gtk sh_4 (by decide) rfl (by decide) (u_16 (B := B) (n := n) (a := (xE B n q)) (q := (xN B n q)) w1242 gtk q1261 grb (by omega) (by omega) (by omega) (rfl) h1265) (fun R1266 T1267 H1268 p1269 => ?_))
      obtain ⟨e1270, w1272, f1273, e1271, p1274⟩ := p1269
      subst e1270
      subst e1271
      have f1276 := f1256.tr f1273 rfl
      show wp _ _ 34 19 [(2, vI z1244), (0, .ref r0), (1, .ref r1)] [] _ H1268 _
      have u1277 := TC_k p1274
      refine wp_of e34 c34_19 (rw_aload_n (pc' := 20) (v := .ref r0) rfl rfl rfl ?_)
      refine wp_of e34 c34_20 (rw_iconst (pc' := 21) rfl ?_)
      have k1278 : H1268 r0 0 = H1238 r0 0 := (f1273 r0 0 _ g0 rfl)
      have q1279 : H1268 r0 0 = (tk : Int) := k1278.trans q1259
      have k1280 : H1268 tk 0 = H1238 tk 0 := (f1273 tk 0 _ gtk rfl)
      have q1281 : H1268 tk 0 = (rb : Int) := k1280.trans q1261
      have k1282 : H1268 r0 3 = H1238 r0 3 := (f1273 r0 3 _ g0 rfl)
      refine wp_of e34 c34_21 (xc_V (pc' := 24) (r := r0) (as := [vI 4]) (st := []) (lm_1_51) rfl rfl (Nat.le_of_ble_eq_true rfl) w1272 g0 sh_3 (by decide) rfl (by decide) (u_35 (B := B) (n := n) (q := ((xN B n q))) w1272 g0 ⟨by decide, by decide⟩ q1279 gtk q1281 grb p1274) (fun R1283 T1284 H1285 p1286 => ?_))
      obtain ⟨e1287, w1289, f1290, z1291, e1288, b1292, p1293⟩ := p1286
      subst e1287
      subst e1288
      rcases p1293 with ⟨a1294, a1295, a1296, a1297, a1298⟩ | ⟨a1299, a1300, a1301, a1302, a1303⟩
      · have f1304 := f1276.tr f1290 rfl
        show wp _ _ 34 24 [(2, vI z1244), (0, .ref r0), (1, .ref r1)] [vI z1291] _ H1285 _
        have u1305 := TC_k a1298
        refine wp_of e34 c34_24 (rw_if_ne (p1 := 29) (p2 := 27) (by decide) rfl ⟨Int.le_trans (by decide) b1292.1, Int.le_trans b1292.2 (by decide)⟩ (fun c1306 => ?_) (fun c1306 => ?_))
        · refine wp_of e34 c34_29 (rw_aload_n (pc' := 30) (v := .ref r0) rfl rfl rfl ?_)
          refine wp_of e34 c34_30 (rw_aload_n (pc' := 31) (v := .ref r1) rfl rfl rfl ?_)
          have k1307 : H1285 r0 0 = H1268 r0 0 := (f1290 r0 0 _ g0 rfl)
          have q1308 : H1285 r0 0 = (tk : Int) := k1307.trans q1279
          have k1309 : H1285 tk 0 = H1268 tk 0 := (f1290 tk 0 _ gtk rfl)
          have q1310 : H1285 tk 0 = (rb : Int) := k1309.trans q1281
          have h1311 : DC T H1285 r1 d := (DC_fr w1272 g1 f1290 rfl (DC_fr w1242 g1 f1273 rfl (DC_fr hW g1 f1243 rfl hDC_r1)))
          refine wp_of e34 c34_31 (xc_V (pc' := 34) (r := r0) (as := [.ref r1]) (st := []) (lm_1_207) rfl rfl (Nat.le_of_ble_eq_true rfl) w1289 g0 sh_3 (by decide) rfl (by decide) (u_33 (B := B) (n := n) (q := ((xN B n ((xN B n q))))) (d := d) w1289 g0 g1 q1308 gtk q1310 grb a1298 h1311) (fun R1312 T1313 H1314 p1315 => ?_))
          obtain ⟨e1316, w1318, f1319, z1320, e1317, b1321, p1322⟩ := p1315
          subst e1316
          subst e1317
          rcases p1322 with ⟨a1323, a1324, a1325, a1326, a1327⟩ | ⟨a1328, a1329, a1330, a1331⟩
          · have f1332 := f1304.tr f1319 rfl
            show wp _ _ 34 34 [(2, vI z1244), (0, .ref r0), (1, .ref r1)] [vI z1320] _ H1314 _
            refine wp_of e34 c34_34 (rw_istore_n (pc' := 35) (z := z1320) (L' := [(3, vI z1320), (2, vI z1244), (0, .ref r0), (1, .ref r1)]) rfl rfl rfl ?_)
            refine wp_of e34 c34_35 (rw_iload_n (pc' := 36) (z := z1320) rfl rfl ?_)
            refine wp_of e34 c34_36 (rw_if_ge (p1 := 41) (p2 := 39) (by decide) rfl ⟨b1321.1, b1321.2⟩ (fun c1333 => ?_) (fun c1333 => ?_))
            · have _a := @xac_M d z1244 z1320 (by omega) (by omega)
              have _c : xac d (xwho B n q d) (xwho B n (xN B n (xN B n q)) d) = xac d z1244 z1320 := by rw [show xwho B n q d = z1244 by omega, show xwho B n (xN B n (xN B n q)) d = z1320 by omega]
              refine wp_of e34 c34_41 (rw_iload_n (pc' := 42) (z := z1320) rfl rfl ?_)
              refine wp_of e34 c34_42 (rw_iload_n (pc' := 43) (z := z1244) rfl rfl ?_)
              refine wp_of e34 c34_43 (rw_icmp_eq (p1 := 62) (p2 := 46) (by decide) rfl ⟨b1321.1, b1321.2⟩ ⟨b1245.1, b1245.2⟩ (fun c1334 => ?_) (fun c1334 => ?_))
              · refine wp_of e34 c34_62 (rw_aload_n (pc' := 63) (v := .ref r0) rfl rfl rfl ?_)
                refine wp_of e34 c34_63 (rw_iconst (pc' := 64) rfl ?_)
                have k1335 : H1314 r0 0 = H1285 r0 0 := (f1319 r0 0 _ g0 rfl)
                have q1336 : H1314 r0 0 = (tk : Int) := k1335.trans q1308
                have k1337 : H1314 tk 4 = H1285 tk 4 := (f1319 tk 4 _ gtk rfl)
                refine wp_of e34 c34_64 (xc_V (pc' := 67) (r := r0) (as := [vI 3]) (st := []) (lm_1_47) rfl rfl (Nat.le_of_ble_eq_true rfl) w1318 g0 sh_3 (by decide) rfl (by decide) (u_20  w1318 g0 ⟨by decide, by decide⟩ q1336 gtk) (fun R1338 T1339 H1340 p1341 => ?_))
                obtain ⟨e1342, w1344, f1345, z1346, e1343, b1347, p1348⟩ := p1341
                subst e1342
                subst e1343
                obtain ⟨a1349, a1350, a1351⟩ := p1348
                have f1352 := f1332.tr f1345 rfl
                show wp _ _ 34 67 [(3, vI z1320), (2, vI z1244), (0, .ref r0), (1, .ref r1)] [vI z1346] _ H1340 _
                have k1353 : H1340 r1 7 = H r1 7 := ((f1345 r1 7 _ g1 rfl).trans ((f1319 r1 7 _ g1 rfl).trans ((f1290 r1 7 _ g1 rfl).trans ((f1273 r1 7 _ g1 rfl).trans (f1243 r1 7 _ g1 rfl)))))
                have k1354 : H1340 r1 8 = H r1 8 := ((f1345 r1 8 _ g1 rfl).trans ((f1319 r1 8 _ g1 rfl).trans ((f1290 r1 8 _ g1 rfl).trans ((f1273 r1 8 _ g1 rfl).trans (f1243 r1 8 _ g1 rfl)))))
                have k1355 : H1340 r1 9 = H r1 9 := ((f1345 r1 9 _ g1 rfl).trans ((f1319 r1 9 _ g1 rfl).trans ((f1290 r1 9 _ g1 rfl).trans ((f1273 r1 9 _ g1 rfl).trans (f1243 r1 9 _ g1 rfl)))))
                have k1356 : H1340 r1 10 = H r1 10 := ((f1345 r1 10 _ g1 rfl).trans ((f1319 r1 10 _ g1 rfl).trans ((f1290 r1 10 _ g1 rfl).trans ((f1273 r1 10 _ g1 rfl).trans (f1243 r1 10 _ g1 rfl)))))
                have k1357 : H1340 r1 11 = H r1 11 := ((f1345 r1 11 _ g1 rfl).trans ((f1319 r1 11 _ g1 rfl).trans ((f1290 r1 11 _ g1 rfl).trans ((f1273 r1 11 _ g1 rfl).trans (f1243 r1 11 _ g1 rfl)))))
                have k1358 : H1340 r1 12 = H r1 12 := ((f1345 r1 12 _ g1 rfl).trans ((f1319 r1 12 _ g1 rfl).trans ((f1290 r1 12 _ g1 rfl).trans ((f1273 r1 12 _ g1 rfl).trans (f1243 r1 12 _ g1 rfl)))))
                have k1359 : H1340 r1 13 = H r1 13 := ((f1345 r1 13 _ g1 rfl).trans ((f1319 r1 13 _ g1 rfl).trans ((f1290 r1 13 _ g1 rfl).trans ((f1273 r1 13 _ g1 rfl).trans (f1243 r1 13 _ g1 rfl)))))
                have k1360 : H1340 r1 14 = H r1 14 := ((f1345 r1 14 _ g1 rfl).trans ((f1319 r1 14 _ g1 rfl).trans ((f1290 r1 14 _ g1 rfl).trans ((f1273 r1 14 _ g1 rfl).trans (f1243 r1 14 _ g1 rfl)))))
                have k1361 : H1340 r1 15 = H r1 15 := ((f1345 r1 15 _ g1 rfl).trans ((f1319 r1 15 _ g1 rfl).trans ((f1290 r1 15 _ g1 rfl).trans ((f1273 r1 15 _ g1 rfl).trans (f1243 r1 15 _ g1 rfl)))))
                have k1362 : H1340 r1 16 = H r1 16 := ((f1345 r1 16 _ g1 rfl).trans ((f1319 r1 16 _ g1 rfl).trans ((f1290 r1 16 _ g1 rfl).trans ((f1273 r1 16 _ g1 rfl).trans (f1243 r1 16 _ g1 rfl)))))
                have o1363 : (xap B n q d) = (xac d (xwho B n q d) (xwho B n (xN B n (xN B n q)) d), (xN B n (xN B n q)), (xN B n (xN B n q))) := by
                  unfold xap
                  repeat first | rw [xs_0 (Int.le_antisymm (by omega -splitDisjunctions) (by omega -splitDisjunctions))] | rw [xs_1 (by omega -splitDisjunctions)] | rw [if_pos (Int.le_antisymm (by omega -splitDisjunctions) (by omega -splitDisjunctions))] | rw [if_pos (by omega -splitDisjunctions)] | rw [if_pos (And.intro (by omega -splitDisjunctions) (by omega -splitDisjunctions))] | rw [if_neg (by omega -splitDisjunctions)] | rw [xs_1 (by omega)] | rw [if_neg (by omega)] | rw [xs_0 (by omega)] | rw [if_pos (by omega)]
                  first | done | rfl | assumption | (exfalso; omega -splitDisjunctions) | (refine Prod.ext ?_ (Prod.ext ?_ ?_) <;> (try dsimp only) <;> omega) | (exfalso; omega)
                have o1363a : ((xap B n q d)).1 = xac d (xwho B n q d) (xwho B n (xN B n (xN B n q)) d) := by rw [o1363]
                have o1363b : ((xap B n q d)).2.1 = (xN B n (xN B n q)) := by rw [o1363]
                have o1363c : ((xap B n q d)).2.2 = (xN B n (xN B n q)) := by rw [o1363]
                have _l := @xdap_v B n q d
                exact wp_zreturn e34 c34_67 rfl (by omega) ⟨rfl, w1344, f1352, z1346, rfl, ⟨b1347.1, b1347.2⟩, (Or.inr ⟨by omega, by omega, by omega, by omega, by omega⟩)⟩
              · refine wp_of e34 c34_46 (rw_aload_n (pc' := 47) (v := .ref r1) rfl rfl rfl ?_)
                refine wp_of e34 c34_47 (xg_R (pc' := 50) lf_1_143 w1318 g1 sh_27 (by decide) (by decide) ty_27_0 rfl rfl (fun r1364 q1365 g1366 => ?_))
                refine wp_of e34 c34_50 (rw_iload_n (pc' := 51) (z := z1244) rfl rfl ?_)
                refine wp_of e34 c34_51 (xa_R (pc' := 52) (by decide) w1318 g1366 sh_28 (by decide) (ty_28 _) (by omega) (by omega) rfl (fun r1367 q1368 g1369 => ?_))
                have h1370 : DG T H1314 r1 d (xM d) := (DG_fr w1289 g1 f1319 rfl (DG_fr w1272 g1 f1290 rfl (DG_fr w1242 g1 f1273 rfl (DG_fr hW g1 f1243 rfl h1235))))
                have := DG_at (s := z1320) h1370 q1365 q1368 (by omega) (by omega) (by omega)
                refine wp_of e34 c34_52 (xg_I (pc' := 55) lf_1_214 w1318 g1369 sh_35 (by decide) (by decide) ty_35_14 rfl rfl (fun b1371 b1372 => ?_))
                refine wp_of e34 c34_55 (rw_iload_n (pc' := 56) (z := z1320) rfl rfl ?_)
                refine wp_of e34 c34_56 (xc_S (pc' := 59) (as := [vI (H1314 r1367 14), vI z1320]) (st := []) (lm_1_217) rfl rfl (Nat.le_of_ble_eq_true rfl) rfl (by decide) (u_36  w1318 ⟨b1371, b1372⟩ ⟨b1321.1, b1321.2⟩) (fun R1373 T1374 H1375 p1376 => ?_))
                obtain ⟨e1377, e1379, z1380, e1378, b1381, p1382⟩ := p1376
                subst e1377
                subst e1378
                subst e1379
                rcases p1382 with ⟨a1383, a1384⟩ | ⟨a1385, a1386⟩
                · show wp _ _ 34 59 [(3, vI z1320), (2, vI z1244), (0, .ref r0), (1, .ref r1)] [vI z1380] _ H1314 _
                  refine wp_of e34 c34_59 (rw_if_eq (p1 := 68) (p2 := 62) (by decide) rfl ⟨Int.le_trans (by decide) b1381.1, Int.le_trans b1381.2 (by decide)⟩ (fun c1387 => ?_) (fun c1387 => ?_))
                  · exfalso
                    omega
                  · refine wp_of e34 c34_62 (rw_aload_n (pc' := 63) (v := .ref r0) rfl rfl rfl ?_)
                    refine wp_of e34 c34_63 (rw_iconst (pc' := 64) rfl ?_)
                    have k1388 : H1314 r0 0 = H1285 r0 0 := (f1319 r0 0 _ g0 rfl)
                    have q1389 : H1314 r0 0 = (tk : Int) := k1388.trans q1308
                    have k1390 : H1314 tk 4 = H1285 tk 4 := (f1319 tk 4 _ gtk rfl)
                    refine wp_of e34 c34_64 (xc_V (pc' := 67) (r := r0) (as := [vI 3]) (st := []) (lm_1_47) rfl rfl (Nat.le_of_ble_eq_true rfl) w1318 g0 sh_3 (by decide) rfl (by decide) (u_20  w1318 g0 ⟨by decide, by decide⟩ q1389 gtk) (fun R1391 T1392 H1393 p1394 => ?_))
                    obtain ⟨e1395, w1397, f1398, z1399, e1396, b1400, p1401⟩ := p1394
                    subst e1395
                    subst e1396
                    obtain ⟨a1402, a1403, a1404⟩ := p1401
                    have f1405 := f1332.tr f1398 rfl
                    show wp _ _ 34 67 [(3, vI z1320), (2, vI z1244), (0, .ref r0), (1, .ref r1)] [vI z1399] _ H1393 _
                    have k1406 : H1393 r1 7 = H r1 7 := ((f1398 r1 7 _ g1 rfl).trans ((f1319 r1 7 _ g1 rfl).trans ((f1290 r1 7 _ g1 rfl).trans ((f1273 r1 7 _ g1 rfl).trans (f1243 r1 7 _ g1 rfl)))))
                    have k1407 : H1393 r1 8 = H r1 8 := ((f1398 r1 8 _ g1 rfl).trans ((f1319 r1 8 _ g1 rfl).trans ((f1290 r1 8 _ g1 rfl).trans ((f1273 r1 8 _ g1 rfl).trans (f1243 r1 8 _ g1 rfl)))))
                    have k1408 : H1393 r1 9 = H r1 9 := ((f1398 r1 9 _ g1 rfl).trans ((f1319 r1 9 _ g1 rfl).trans ((f1290 r1 9 _ g1 rfl).trans ((f1273 r1 9 _ g1 rfl).trans (f1243 r1 9 _ g1 rfl)))))
                    have k1409 : H1393 r1 10 = H r1 10 := ((f1398 r1 10 _ g1 rfl).trans ((f1319 r1 10 _ g1 rfl).trans ((f1290 r1 10 _ g1 rfl).trans ((f1273 r1 10 _ g1 rfl).trans (f1243 r1 10 _ g1 rfl)))))
                    have k1410 : H1393 r1 11 = H r1 11 := ((f1398 r1 11 _ g1 rfl).trans ((f1319 r1 11 _ g1 rfl).trans ((f1290 r1 11 _ g1 rfl).trans ((f1273 r1 11 _ g1 rfl).trans (f1243 r1 11 _ g1 rfl)))))
                    have k1411 : H1393 r1 12 = H r1 12 := ((f1398 r1 12 _ g1 rfl).trans ((f1319 r1 12 _ g1 rfl).trans ((f1290 r1 12 _ g1 rfl).trans ((f1273 r1 12 _ g1 rfl).trans (f1243 r1 12 _ g1 rfl)))))
                    have k1412 : H1393 r1 13 = H r1 13 := ((f1398 r1 13 _ g1 rfl).trans ((f1319 r1 13 _ g1 rfl).trans ((f1290 r1 13 _ g1 rfl).trans ((f1273 r1 13 _ g1 rfl).trans (f1243 r1 13 _ g1 rfl)))))
                    have k1413 : H1393 r1 14 = H r1 14 := ((f1398 r1 14 _ g1 rfl).trans ((f1319 r1 14 _ g1 rfl).trans ((f1290 r1 14 _ g1 rfl).trans ((f1273 r1 14 _ g1 rfl).trans (f1243 r1 14 _ g1 rfl)))))
                    have k1414 : H1393 r1 15 = H r1 15 := ((f1398 r1 15 _ g1 rfl).trans ((f1319 r1 15 _ g1 rfl).trans ((f1290 r1 15 _ g1 rfl).trans ((f1273 r1 15 _ g1 rfl).trans (f1243 r1 15 _ g1 rfl)))))
                    have k1415 : H1393 r1 16 = H r1 16 := ((f1398 r1 16 _ g1 rfl).trans ((f1319 r1 16 _ g1 rfl).trans ((f1290 r1 16 _ g1 rfl).trans ((f1273 r1 16 _ g1 rfl).trans (f1243 r1 16 _ g1 rfl)))))
                    have o1416 : (xap B n q d) = (xac d (xwho B n q d) (xwho B n (xN B n (xN B n q)) d), (xN B n (xN B n q)), (xN B n (xN B n q))) := by
                      unfold xap
                      repeat first | rw [xs_0 (Int.le_antisymm (by omega -splitDisjunctions) (by omega -splitDisjunctions))] | rw [xs_1 (by omega -splitDisjunctions)] | rw [if_pos (Int.le_antisymm (by omega -splitDisjunctions) (by omega -splitDisjunctions))] | rw [if_pos (by omega -splitDisjunctions)] | rw [if_pos (And.intro (by omega -splitDisjunctions) (by omega -splitDisjunctions))] | rw [if_neg (by omega -splitDisjunctions)] | rw [xs_1 (by omega)] | rw [if_neg (by omega)] | rw [xs_0 (by omega)] | rw [if_pos (by omega)]
                      first | done | rfl | assumption | (exfalso; omega -splitDisjunctions) | (refine Prod.ext ?_ (Prod.ext ?_ ?_) <;> (try dsimp only) <;> omega) | (exfalso; omega)
                    have o1416a : ((xap B n q d)).1 = xac d (xwho B n q d) (xwho B n (xN B n (xN B n q)) d) := by rw [o1416]
                    have o1416b : ((xap B n q d)).2.1 = (xN B n (xN B n q)) := by rw [o1416]
                    have o1416c : ((xap B n q d)).2.2 = (xN B n (xN B n q)) := by rw [o1416]
                    have _l := @xdap_v B n q d
                    exact wp_zreturn e34 c34_67 rfl (by omega) ⟨rfl, w1397, f1405, z1399, rfl, ⟨b1400.1, b1400.2⟩, (Or.inr ⟨by omega, by omega, by omega, by omega, by omega⟩)⟩
                · show wp _ _ 34 59 [(3, vI z1320), (2, vI z1244), (0, .ref r0), (1, .ref r1)] [vI z1380] _ H1314 _
                  refine wp_of e34 c34_59 (rw_if_eq (p1 := 68) (p2 := 62) (by decide) rfl ⟨Int.le_trans (by decide) b1381.1, Int.le_trans b1381.2 (by decide)⟩ (fun c1417 => ?_) (fun c1417 => ?_))
                  · refine wp_of e34 c34_68 (rw_aload_n (pc' := 69) (v := .ref r0) rfl rfl rfl ?_)
                    have k1418 : H1314 r0 0 = H1285 r0 0 := (f1319 r0 0 _ g0 rfl)
                    have q1419 : H1314 r0 0 = (tk : Int) := k1418.trans q1308
                    refine wp_of e34 c34_69 (xg_K (pc' := 72) lf_1_12 w1318 g0 sh_3 (by decide) (by decide) rfl q1419 rfl ?_)
                    have k1420 : H1314 tk 0 = H1285 tk 0 := (f1319 tk 0 _ gtk rfl)
                    have q1421 : H1314 tk 0 = (rb : Int) := k1420.trans q1310
                    have k1422 : H1314 tk 1 = H1285 tk 1 := (f1319 tk 1 _ gtk rfl)
                    have k1423 : H1314 tk 2 = H1285 tk 2 := (f1319 tk 2 _ gtk rfl)
                    have h1424 : TP T H1314 rb B := (TP_fr w1289 grb f1319 rfl (TP_fr w1272 grb f1290 rfl (TP_fr w1242 grb f1273 rfl h1265)))
                    refine wp_of e34 c34_72 (xc_V (pc' := 75) (r := tk) (as := []) (st := []) (lm_1_74) rfl rfl (Nat.le_of_ble_eq_true rfl) w1318 gtk sh_4 (by decide) rfl (by decide) (u_16 (B := B) (n := n) (a := (xE B n ((xN B n ((xN B n q)))))) (q := (xN B n ((xN B n ((xN B n q)))))) w1318 gtk q1421 grb (by omega) (by omega) (by omega) (rfl) h1424) (fun R1425 T1426 H1427 p1428 => ?_))
                    obtain ⟨e1429, w1431, f1432, e1430, p1433⟩ := p1428
                    subst e1429
                    subst e1430
                    have f1435 := f1332.tr f1432 rfl
                    show wp _ _ 34 75 [(3, vI z1320), (2, vI z1244), (0, .ref r0), (1, .ref r1)] [] _ H1427 _
                    have u1436 := TC_k p1433
                    refine wp_of e34 c34_75 (rw_aload_n (pc' := 76) (v := .ref r1) rfl rfl rfl ?_)
                    have k1437 : H1427 r1 0 = H1314 r1 0 := (f1432 r1 0 _ g1 rfl)
                    have q1438 : H1427 r1 0 = (r1364 : Int) := k1437.trans q1365
                    refine wp_of e34 c34_76 (xg_K (pc' := 79) lf_1_143 w1431 g1 sh_27 (by decide) (by decide) rfl q1438 rfl ?_)
                    refine wp_of e34 c34_79 (rw_iload_n (pc' := 80) (z := z1244) rfl rfl ?_)
                    have k1439 : H1427 r1364 (z1244.toNat) = H1314 r1364 (z1244.toNat) := (f1432 r1364 (z1244.toNat) _ g1366 rfl)
                    have q1440 : H1427 r1364 (z1244.toNat) = (r1367 : Int) := k1439.trans q1368
                    refine wp_of e34 c34_80 (xa_K (pc' := 81) (by decide) w1431 g1366 sh_28 (by decide) (by omega) (by omega) q1440 rfl ?_)
                    have h1441 : DG T H1427 r1 d (xM d) := (DG_fr w1318 g1 f1432 rfl h1370)
                    have := DG_at (s := z1320) h1441 q1438 q1440 (by omega) (by omega) (by omega)
                    refine wp_of e34 c34_81 (rw_dup (pc' := 82) rfl rfl ?_)
                    have k1442 : H1427 r1367 14 = H1314 r1367 14 := (f1432 r1367 14 _ g1369 rfl)
                    refine wp_of e34 c34_82 (xg_I (pc' := 85) lf_1_214 w1431 g1369 sh_35 (by decide) (by decide) ty_35_14 rfl rfl (fun b1443 b1444 => ?_))
                    refine wp_of e34 c34_85 (rw_iconst (pc' := 86) rfl ?_)
                    refine wp_of e34 c34_86 (rw_iload_n (pc' := 87) (z := z1320) rfl rfl ?_)
                    refine wp_of e34 c34_87 (rw_ishl (pc' := 88) rfl ?_)
                    obtain ⟨v1445, e1446⟩ : ∃ x : Int, x = wq_shl 1 z1320 := ⟨_, rfl⟩
                    rw [← e1446]
                    have b1447 : 1 ≤ v1445 ∧ v1445 ≤ 64 := by
                      rw [e1446]
                      exact wq_shl1_6 ⟨by omega, by omega⟩
                    refine wp_of e34 c34_88 (rw_ior (pc' := 89) rfl ?_)
                    obtain ⟨v1448, e1449⟩ : ∃ x : Int, x = wq_or (H1427 r1367 14) v1445 := ⟨_, rfl⟩
                    rw [← e1449]
                    have b1450 : -2147483648 ≤ v1448 ∧ v1448 ≤ 2147483647 := by
                      rw [e1449]
                      exact wI_or _ _
                    have h1451 : DD T H1427 r1  := (DD_fr w1318 g1 f1432 rfl (DD_fr w1289 g1 f1319 rfl (DD_fr w1272 g1 f1290 rfl (DD_fr w1242 g1 f1273 rfl (DD_fr hW g1 f1243 rfl hDD_r1)))))
                    have o1452 : v1448 = wq_or (H1427 r1367 14) (wq_shl 1 z1320) := by
                      subst_vars
                      rfl
                    refine wp_of e34 c34_89 (xp_I (pc' := 92) lf_1_214 w1431 g1369 sh_35 (by decide) (by decide) ty_35_14 rfl rfl (b1450.1) (b1450.2) ⟨b1450.1, b1450.2⟩ rfl (fun H1453 e1454 w1455 => ?_))
                    have f1456 := f1435.put' e1454 g1369 rfl
                    have k1457 : H1453 r1367 14 = v1448 := wq_u_s e1454
                    have h1458 : DG T H1453 r1 d (wq_u (xM d) (z1244).toNat (z1320).toNat 1) := DG_put (s := z1320) w1431 g1 h1441 h1451 q1438 q1440 g1369 (by omega) (by omega) (by omega) (by omega) e1454 o1452
                    refine wp_of e34 c34_92 (rw_aload_n (pc' := 93) (v := .ref r1) rfl rfl rfl ?_)
                    have k1459 : H1453 r1 0 = H1427 r1 0 := (wq_u_t e1454 g1369 g1 rfl 0)
                    have q1460 : H1453 r1 0 = (r1364 : Int) := k1459.trans q1438
                    refine wp_of e34 c34_93 (xg_K (pc' := 96) lf_1_143 w1455 g1 sh_27 (by decide) (by decide) rfl q1460 rfl ?_)
                    refine wp_of e34 c34_96 (rw_iload_n (pc' := 97) (z := z1320) rfl rfl ?_)
                    refine wp_of e34 c34_97 (xa_R (pc' := 98) (by decide) w1455 g1366 sh_28 (by decide) (ty_28 _) (by omega) (by omega) rfl (fun r1461 q1462 g1463 => ?_))
                    have := DG_at (s := z1320) h1458 q1460 q1462 (by omega) (by omega) (by omega)
                    refine wp_of e34 c34_98 (rw_dup (pc' := 99) rfl rfl ?_)
                    refine wp_of e34 c34_99 (xg_I (pc' := 102) lf_1_214 w1455 g1463 sh_35 (by decide) (by decide) ty_35_14 rfl rfl (fun b1464 b1465 => ?_))
                    refine wp_of e34 c34_102 (rw_iconst (pc' := 103) rfl ?_)
                    refine wp_of e34 c34_103 (rw_iload_n (pc' := 104) (z := z1244) rfl rfl ?_)
                    refine wp_of e34 c34_104 (rw_ishl (pc' := 105) rfl ?_)
                    obtain ⟨v1466, e1467⟩ : ∃ x : Int, x = wq_shl 1 z1244 := ⟨_, rfl⟩
                    rw [← e1467]
                    have b1468 : 1 ≤ v1466 ∧ v1466 ≤ 64 := by
                      rw [e1467]
                      exact wq_shl1_6 ⟨by omega, by omega⟩
                    refine wp_of e34 c34_105 (rw_ior (pc' := 106) rfl ?_)
                    obtain ⟨v1469, e1470⟩ : ∃ x : Int, x = wq_or (H1453 r1461 14) v1466 := ⟨_, rfl⟩
                    rw [← e1470]
                    have b1471 : -2147483648 ≤ v1469 ∧ v1469 ≤ 2147483647 := by
                      rw [e1470]
                      exact wI_or _ _
                    have h1472 : DD T H1453 r1  := (DD_fr w1431 g1 ((wfr.rf (l := [(35, 14)])).put' e1454 g1369 rfl) rfl h1451)
                    have o1473 : v1469 = wq_or (H1453 r1461 14) (wq_shl 1 z1244) := by
                      subst_vars
                      rfl
                    refine wp_of e34 c34_106 (xp_I (pc' := 109) lf_1_214 w1455 g1463 sh_35 (by decide) (by decide) ty_35_14 rfl rfl (b1471.1) (b1471.2) ⟨b1471.1, b1471.2⟩ rfl (fun H1474 e1475 w1476 => ?_))
                    have f1477 := f1456.put' e1475 g1463 rfl
                    have k1478 : H1474 r1461 14 = v1469 := wq_u_s e1475
                    have h1479 : DG T H1474 r1 d (wq_u (wq_u (xM d) (z1244).toNat (z1320).toNat 1) (z1320).toNat (z1244).toNat 1) := DG_put (s := z1244) w1455 g1 h1458 h1472 q1460 q1462 g1463 (by omega) (by omega) (by omega) (by omega) e1475 o1473
                    refine wp_of e34 c34_109 (rw_aload_n (pc' := 110) (v := .ref r1) rfl rfl rfl ?_)
                    refine wp_of e34 c34_110 (rw_dup (pc' := 111) rfl rfl ?_)
                    have k1480 : H1474 r1 11 = H r1 11 := ((wq_u_t e1475 g1463 g1 rfl 11).trans ((wq_u_t e1454 g1369 g1 rfl 11).trans ((f1432 r1 11 _ g1 rfl).trans ((f1319 r1 11 _ g1 rfl).trans ((f1290 r1 11 _ g1 rfl).trans ((f1273 r1 11 _ g1 rfl).trans (f1243 r1 11 _ g1 rfl)))))))
                    refine wp_of e34 c34_111 (xg_I (pc' := 114) lf_1_221 w1476 g1 sh_27 (by decide) (by decide) ty_27_11 rfl rfl (fun b1481 b1482 => ?_))
                    refine wp_of e34 c34_114 (rw_iconst (pc' := 115) rfl ?_)
                    refine wp_of e34 c34_115 (rw_iaddw (pc' := 116) rfl ?_)
                    obtain ⟨v1483, e1484⟩ : ∃ x : Int, x = wq_w ((H1474 r1 11) + 1) := ⟨_, rfl⟩
                    rw [← e1484]
                    have b1485 : -2147483648 ≤ v1483 ∧ v1483 ≤ 2147483647 := by
                      rw [e1484]
                      exact wI_w _
                    have b1486 : (-2147483648 ≤ (H1474 r1 11) + 1 ∧ (H1474 r1 11) + 1 ≤ 2147483647) → v1483 = (H1474 r1 11) + 1 := fun h => by rw [e1484]; exact wq_w_id h
                    refine wp_of e34 c34_116 (xp_I (pc' := 119) lf_1_221 w1476 g1 sh_27 (by decide) (by decide) ty_27_11 rfl rfl (b1485.1) (b1485.2) ⟨b1485.1, b1485.2⟩ rfl (fun H1487 e1488 w1489 => ?_))
                    have f1490 := f1477.put' e1488 g1 rfl
                    have k1491 : H1487 r1 11 = v1483 := wq_u_s e1488
                    refine wp_of e34 c34_119 (rw_iconst (pc' := 120) rfl ?_)
                    have k1492 : H1487 r0 3 = H1314 r0 3 := ((wq_u_t e1488 g1 g0 rfl 3).trans ((wq_u_t e1475 g1463 g0 rfl 3).trans ((wq_u_t e1454 g1369 g0 rfl 3).trans (f1432 r0 3 _ g0 rfl))))
                    have k1493 : H1487 r1 7 = H r1 7 := ((wq_u_j e1488 rfl).trans ((wq_u_t e1475 g1463 g1 rfl 7).trans ((wq_u_t e1454 g1369 g1 rfl 7).trans ((f1432 r1 7 _ g1 rfl).trans ((f1319 r1 7 _ g1 rfl).trans ((f1290 r1 7 _ g1 rfl).trans ((f1273 r1 7 _ g1 rfl).trans (f1243 r1 7 _ g1 rfl))))))))
                    have k1494 : H1487 r1 8 = H r1 8 := ((wq_u_j e1488 rfl).trans ((wq_u_t e1475 g1463 g1 rfl 8).trans ((wq_u_t e1454 g1369 g1 rfl 8).trans ((f1432 r1 8 _ g1 rfl).trans ((f1319 r1 8 _ g1 rfl).trans ((f1290 r1 8 _ g1 rfl).trans ((f1273 r1 8 _ g1 rfl).trans (f1243 r1 8 _ g1 rfl))))))))
                    have k1495 : H1487 r1 9 = H r1 9 := ((wq_u_j e1488 rfl).trans ((wq_u_t e1475 g1463 g1 rfl 9).trans ((wq_u_t e1454 g1369 g1 rfl 9).trans ((f1432 r1 9 _ g1 rfl).trans ((f1319 r1 9 _ g1 rfl).trans ((f1290 r1 9 _ g1 rfl).trans ((f1273 r1 9 _ g1 rfl).trans (f1243 r1 9 _ g1 rfl))))))))
                    have k1496 : H1487 r1 10 = H r1 10 := ((wq_u_j e1488 rfl).trans ((wq_u_t e1475 g1463 g1 rfl 10).trans ((wq_u_t e1454 g1369 g1 rfl 10).trans ((f1432 r1 10 _ g1 rfl).trans ((f1319 r1 10 _ g1 rfl).trans ((f1290 r1 10 _ g1 rfl).trans ((f1273 r1 10 _ g1 rfl).trans (f1243 r1 10 _ g1 rfl))))))))
                    have k1497 : H1487 r1 12 = H r1 12 := ((wq_u_j e1488 rfl).trans ((wq_u_t e1475 g1463 g1 rfl 12).trans ((wq_u_t e1454 g1369 g1 rfl 12).trans ((f1432 r1 12 _ g1 rfl).trans ((f1319 r1 12 _ g1 rfl).trans ((f1290 r1 12 _ g1 rfl).trans ((f1273 r1 12 _ g1 rfl).trans (f1243 r1 12 _ g1 rfl))))))))
                    have k1498 : H1487 r1 13 = H r1 13 := ((wq_u_j e1488 rfl).trans ((wq_u_t e1475 g1463 g1 rfl 13).trans ((wq_u_t e1454 g1369 g1 rfl 13).trans ((f1432 r1 13 _ g1 rfl).trans ((f1319 r1 13 _ g1 rfl).trans ((f1290 r1 13 _ g1 rfl).trans ((f1273 r1 13 _ g1 rfl).trans (f1243 r1 13 _ g1 rfl))))))))
                    have k1499 : H1487 r1 14 = H r1 14 := ((wq_u_j e1488 rfl).trans ((wq_u_t e1475 g1463 g1 rfl 14).trans ((wq_u_t e1454 g1369 g1 rfl 14).trans ((f1432 r1 14 _ g1 rfl).trans ((f1319 r1 14 _ g1 rfl).trans ((f1290 r1 14 _ g1 rfl).trans ((f1273 r1 14 _ g1 rfl).trans (f1243 r1 14 _ g1 rfl))))))))
                    have k1500 : H1487 r1 15 = H r1 15 := ((wq_u_j e1488 rfl).trans ((wq_u_t e1475 g1463 g1 rfl 15).trans ((wq_u_t e1454 g1369 g1 rfl 15).trans ((f1432 r1 15 _ g1 rfl).trans ((f1319 r1 15 _ g1 rfl).trans ((f1290 r1 15 _ g1 rfl).trans ((f1273 r1 15 _ g1 rfl).trans (f1243 r1 15 _ g1 rfl))))))))
                    have k1501 : H1487 r1 16 = H r1 16 := ((wq_u_j e1488 rfl).trans ((wq_u_t e1475 g1463 g1 rfl 16).trans ((wq_u_t e1454 g1369 g1 rfl 16).trans ((f1432 r1 16 _ g1 rfl).trans ((f1319 r1 16 _ g1 rfl).trans ((f1290 r1 16 _ g1 rfl).trans ((f1273 r1 16 _ g1 rfl).trans (f1243 r1 16 _ g1 rfl))))))))
                    have o1502 : (xap B n q d) = (0, q, (xN B n ((xN B n ((xN B n q)))))) := by
                      unfold xap
                      repeat first | rw [xs_0 (Int.le_antisymm (by omega -splitDisjunctions) (by omega -splitDisjunctions))] | rw [xs_1 (by omega -splitDisjunctions)] | rw [if_pos (Int.le_antisymm (by omega -splitDisjunctions) (by omega -splitDisjunctions))] | rw [if_pos (by omega -splitDisjunctions)] | rw [if_pos (And.intro (by omega -splitDisjunctions) (by omega -splitDisjunctions))] | rw [if_neg (by omega -splitDisjunctions)] | rw [xs_1 (by omega)] | rw [if_neg (by omega)] | rw [xs_0 (by omega)] | rw [if_pos (by omega)]
                      first | done | rfl | assumption | (exfalso; omega -splitDisjunctions) | (refine Prod.ext ?_ (Prod.ext ?_ ?_) <;> (try dsimp only) <;> omega) | (exfalso; omega)
                    have o1502a : ((xap B n q d)).1 = 0 := by rw [o1502]
                    have o1502b : ((xap B n q d)).2.1 = q := by rw [o1502]
                    have o1502c : ((xap B n q d)).2.2 = (xN B n ((xN B n ((xN B n q))))) := by rw [o1502]
                    have _l := @xdap_v B n q d
                    have h1503 : TC T H1487 tk B n (xN B n ((xN B n ((xN B n q))))) := (TC_fr w1476 gtk ((wfr.rf (l := [(27, 11)])).put' e1488 g1 rfl) rfl (TC_fr w1455 gtk ((wfr.rf (l := [(35, 14)])).put' e1475 g1463 rfl) rfl (TC_fr w1431 gtk ((wfr.rf (l := [(35, 14)])).put' e1454 g1369 rfl) rfl p1433)))
                    have h1504 : DG T H1487 r1 d (wq_u (wq_u (xM d) (z1244).toNat (z1320).toNat 1) (z1320).toNat (z1244).toNat 1) := (DG_fr w1476 g1 ((wfr.rf (l := [(27, 11)])).put' e1488 g1 rfl) rfl h1479)
                    have h1505 : ST T H1487 r1 (d 13) := (ST_fr w1476 g1 ((wfr.rf (l := [(27, 11)])).put' e1488 g1 rfl) rfl (ST_fr w1455 g1 ((wfr.rf (l := [(35, 14)])).put' e1475 g1463 rfl) rfl (ST_fr w1431 g1 ((wfr.rf (l := [(35, 14)])).put' e1454 g1369 rfl) rfl (ST_fr w1318 g1 f1432 rfl (ST_fr w1289 g1 f1319 rfl (ST_fr w1272 g1 f1290 rfl (ST_fr w1242 g1 f1273 rfl (ST_fr hW g1 f1243 rfl h1229))))))))
                    have h1506 : SV T H1487 r1 (d 13) 24 := (SV_fr w1476 g1 ((wfr.rf (l := [(27, 11)])).put' e1488 g1 rfl) rfl (SV_fr w1455 g1 ((wfr.rf (l := [(35, 14)])).put' e1475 g1463 rfl) rfl (SV_fr w1431 g1 ((wfr.rf (l := [(35, 14)])).put' e1454 g1369 rfl) rfl (SV_fr w1318 g1 f1432 rfl (SV_fr w1289 g1 f1319 rfl (SV_fr w1272 g1 f1290 rfl (SV_fr w1242 g1 f1273 rfl (SV_fr hW g1 f1243 rfl h1230))))))))
                    have h1507 : DA3 T H1487 r1 (d 0 5) (d 12) := (DA3_fr w1476 g1 ((wfr.rf (l := [(27, 11)])).put' e1488 g1 rfl) rfl (DA3_fr w1455 g1 ((wfr.rf (l := [(35, 14)])).put' e1475 g1463 rfl) rfl (DA3_fr w1431 g1 ((wfr.rf (l := [(35, 14)])).put' e1454 g1369 rfl) rfl (DA3_fr w1318 g1 f1432 rfl (DA3_fr w1289 g1 f1319 rfl (DA3_fr w1272 g1 f1290 rfl (DA3_fr w1242 g1 f1273 rfl (DA3_fr hW g1 f1243 rfl h1231))))))))
                    have h1508 : DA4 T H1487 r1 (d 0 6) (d 14) := (DA4_fr w1476 g1 ((wfr.rf (l := [(27, 11)])).put' e1488 g1 rfl) rfl (DA4_fr w1455 g1 ((wfr.rf (l := [(35, 14)])).put' e1475 g1463 rfl) rfl (DA4_fr w1431 g1 ((wfr.rf (l := [(35, 14)])).put' e1454 g1369 rfl) rfl (DA4_fr w1318 g1 f1432 rfl (DA4_fr w1289 g1 f1319 rfl (DA4_fr w1272 g1 f1290 rfl (DA4_fr w1242 g1 f1273 rfl (DA4_fr hW g1 f1243 rfl h1232))))))))
                    have h1509 : DA5 T H1487 r1 (d 0 6) (d 15) := (DA5_fr w1476 g1 ((wfr.rf (l := [(27, 11)])).put' e1488 g1 rfl) rfl (DA5_fr w1455 g1 ((wfr.rf (l := [(35, 14)])).put' e1475 g1463 rfl) rfl (DA5_fr w1431 g1 ((wfr.rf (l := [(35, 14)])).put' e1454 g1369 rfl) rfl (DA5_fr w1318 g1 f1432 rfl (DA5_fr w1289 g1 f1319 rfl (DA5_fr w1272 g1 f1290 rfl (DA5_fr w1242 g1 f1273 rfl (DA5_fr hW g1 f1243 rfl h1233))))))))
                    have h1510 : DA6 T H1487 r1 (d 0 7) (d 16) := (DA6_fr w1476 g1 ((wfr.rf (l := [(27, 11)])).put' e1488 g1 rfl) rfl (DA6_fr w1455 g1 ((wfr.rf (l := [(35, 14)])).put' e1475 g1463 rfl) rfl (DA6_fr w1431 g1 ((wfr.rf (l := [(35, 14)])).put' e1454 g1369 rfl) rfl (DA6_fr w1318 g1 f1432 rfl (DA6_fr w1289 g1 f1319 rfl (DA6_fr w1272 g1 f1290 rfl (DA6_fr w1242 g1 f1273 rfl (DA6_fr hW g1 f1243 rfl h1234))))))))
                    have h1511 : CZ T H1487 r1 (d 0 3) := (CZ_fr w1476 g1 ((wfr.rf (l := [(27, 11)])).put' e1488 g1 rfl) rfl (CZ_fr w1455 g1 ((wfr.rf (l := [(35, 14)])).put' e1475 g1463 rfl) rfl (CZ_fr w1431 g1 ((wfr.rf (l := [(35, 14)])).put' e1454 g1369 rfl) rfl (CZ_fr w1318 g1 f1432 rfl (CZ_fr w1289 g1 f1319 rfl (CZ_fr w1272 g1 f1290 rfl (CZ_fr w1242 g1 f1273 rfl (CZ_fr hW g1 f1243 rfl hCZ_r1))))))))
                    exact wp_zreturn e34 c34_120 rfl (by omega) ⟨rfl, w1489, f1490, 1, rfl, ⟨by decide, by decide⟩, (Or.inl ⟨by omega, by omega, o1502, by omega, by omega, h1503, DC_mk ⟨by omega, by omega, by omega, by omega, by omega, by omega, by omega, by omega, by omega, by omega, by omega, by omega, by omega, by omega, by omega, by omega⟩ (DQ_ap hDC_r1.2.1 (by omega) (show xwho B n q d = z1244 by omega) (show xwho B n (xN B n (xN B n q)) d = z1320 by omega) (by omega) (by omega) (by omega) (by omega) h1504) h1505 h1506 h1507 h1508 h1509 h1510 ⟨rfl, rfl, rfl, rfl, rfl⟩ ⟨by omega, by omega, by omega⟩, CZ_le h1511 (by omega)⟩)⟩
                  · exfalso
                    omega
            · exfalso
              omega
          · have f1512 := f1304.tr f1319 rfl
            show wp _ _ 34 34 [(2, vI z1244), (0, .ref r0), (1, .ref r1)] [vI z1320] _ H1314 _
            refine wp_of e34 c34_34 (rw_istore_n (pc' := 35) (z := z1320) (L' := [(3, vI z1320), (2, vI z1244), (0, .ref r0), (1, .ref r1)]) rfl rfl rfl ?_)
            refine wp_of e34 c34_35 (rw_iload_n (pc' := 36) (z := z1320) rfl rfl ?_)
            refine wp_of e34 c34_36 (rw_if_ge (p1 := 41) (p2 := 39) (by decide) rfl ⟨b1321.1, b1321.2⟩ (fun c1513 => ?_) (fun c1513 => ?_))
            · exfalso
              omega
            · refine wp_of e34 c34_39 (rw_iconst (pc' := 40) rfl ?_)
              have k1514 : H1314 r1 7 = H r1 7 := ((f1319 r1 7 _ g1 rfl).trans ((f1290 r1 7 _ g1 rfl).trans ((f1273 r1 7 _ g1 rfl).trans (f1243 r1 7 _ g1 rfl))))
              have k1515 : H1314 r1 8 = H r1 8 := ((f1319 r1 8 _ g1 rfl).trans ((f1290 r1 8 _ g1 rfl).trans ((f1273 r1 8 _ g1 rfl).trans (f1243 r1 8 _ g1 rfl))))
              have k1516 : H1314 r1 9 = H r1 9 := ((f1319 r1 9 _ g1 rfl).trans ((f1290 r1 9 _ g1 rfl).trans ((f1273 r1 9 _ g1 rfl).trans (f1243 r1 9 _ g1 rfl))))
              have k1517 : H1314 r1 10 = H r1 10 := ((f1319 r1 10 _ g1 rfl).trans ((f1290 r1 10 _ g1 rfl).trans ((f1273 r1 10 _ g1 rfl).trans (f1243 r1 10 _ g1 rfl))))
              have k1518 : H1314 r1 11 = H r1 11 := ((f1319 r1 11 _ g1 rfl).trans ((f1290 r1 11 _ g1 rfl).trans ((f1273 r1 11 _ g1 rfl).trans (f1243 r1 11 _ g1 rfl))))
              have k1519 : H1314 r1 12 = H r1 12 := ((f1319 r1 12 _ g1 rfl).trans ((f1290 r1 12 _ g1 rfl).trans ((f1273 r1 12 _ g1 rfl).trans (f1243 r1 12 _ g1 rfl))))
              have k1520 : H1314 r1 13 = H r1 13 := ((f1319 r1 13 _ g1 rfl).trans ((f1290 r1 13 _ g1 rfl).trans ((f1273 r1 13 _ g1 rfl).trans (f1243 r1 13 _ g1 rfl))))
              have k1521 : H1314 r1 14 = H r1 14 := ((f1319 r1 14 _ g1 rfl).trans ((f1290 r1 14 _ g1 rfl).trans ((f1273 r1 14 _ g1 rfl).trans (f1243 r1 14 _ g1 rfl))))
              have k1522 : H1314 r1 15 = H r1 15 := ((f1319 r1 15 _ g1 rfl).trans ((f1290 r1 15 _ g1 rfl).trans ((f1273 r1 15 _ g1 rfl).trans (f1243 r1 15 _ g1 rfl))))
              have k1523 : H1314 r1 16 = H r1 16 := ((f1319 r1 16 _ g1 rfl).trans ((f1290 r1 16 _ g1 rfl).trans ((f1273 r1 16 _ g1 rfl).trans (f1243 r1 16 _ g1 rfl))))
              have o1524 : (xap B n q d) = (xkn B n ((xN B n ((xN B n q)))) d, ((xN B n ((xN B n q)))), ((xN B n ((xN B n q))))) := by
                unfold xap
                repeat first | rw [xs_0 (Int.le_antisymm (by omega -splitDisjunctions) (by omega -splitDisjunctions))] | rw [xs_1 (by omega -splitDisjunctions)] | rw [if_pos (Int.le_antisymm (by omega -splitDisjunctions) (by omega -splitDisjunctions))] | rw [if_pos (by omega -splitDisjunctions)] | rw [if_pos (And.intro (by omega -splitDisjunctions) (by omega -splitDisjunctions))] | rw [if_neg (by omega -splitDisjunctions)] | rw [xs_1 (by omega)] | rw [if_neg (by omega)] | rw [xs_0 (by omega)] | rw [if_pos (by omega)]
                first | done | rfl | assumption | (exfalso; omega -splitDisjunctions) | (refine Prod.ext ?_ (Prod.ext ?_ ?_) <;> (try dsimp only) <;> omega) | (exfalso; omega)
              have o1524a : ((xap B n q d)).1 = xkn B n ((xN B n ((xN B n q)))) d := by rw [o1524]
              have o1524b : ((xap B n q d)).2.1 = ((xN B n ((xN B n q)))) := by rw [o1524]
              have o1524c : ((xap B n q d)).2.2 = ((xN B n ((xN B n q)))) := by rw [o1524]
              have _l := @xdap_v B n q d
              exact wp_zreturn e34 c34_40 rfl (by omega) ⟨rfl, w1318, f1512, 0, rfl, ⟨by decide, by decide⟩, (Or.inr ⟨by omega, by omega, by omega, by omega, by omega⟩)⟩
        · exfalso
          omega
      · have f1525 := f1276.tr f1290 rfl
        show wp _ _ 34 24 [(2, vI z1244), (0, .ref r0), (1, .ref r1)] [vI z1291] _ H1285 _
        refine wp_of e34 c34_24 (rw_if_ne (p1 := 29) (p2 := 27) (by decide) rfl ⟨Int.le_trans (by decide) b1292.1, Int.le_trans b1292.2 (by decide)⟩ (fun c1526 => ?_) (fun c1526 => ?_))
        · exfalso
          omega
        · refine wp_of e34 c34_27 (rw_iconst (pc' := 28) rfl ?_)
          have k1527 : H1285 r1 7 = H r1 7 := ((f1290 r1 7 _ g1 rfl).trans ((f1273 r1 7 _ g1 rfl).trans (f1243 r1 7 _ g1 rfl)))
          have k1528 : H1285 r1 8 = H r1 8 := ((f1290 r1 8 _ g1 rfl).trans ((f1273 r1 8 _ g1 rfl).trans (f1243 r1 8 _ g1 rfl)))
          have k1529 : H1285 r1 9 = H r1 9 := ((f1290 r1 9 _ g1 rfl).trans ((f1273 r1 9 _ g1 rfl).trans (f1243 r1 9 _ g1 rfl)))
          have k1530 : H1285 r1 10 = H r1 10 := ((f1290 r1 10 _ g1 rfl).trans ((f1273 r1 10 _ g1 rfl).trans (f1243 r1 10 _ g1 rfl)))
          have k1531 : H1285 r1 11 = H r1 11 := ((f1290 r1 11 _ g1 rfl).trans ((f1273 r1 11 _ g1 rfl).trans (f1243 r1 11 _ g1 rfl)))
          have k1532 : H1285 r1 12 = H r1 12 := ((f1290 r1 12 _ g1 rfl).trans ((f1273 r1 12 _ g1 rfl).trans (f1243 r1 12 _ g1 rfl)))
          have k1533 : H1285 r1 13 = H r1 13 := ((f1290 r1 13 _ g1 rfl).trans ((f1273 r1 13 _ g1 rfl).trans (f1243 r1 13 _ g1 rfl)))
          have k1534 : H1285 r1 14 = H r1 14 := ((f1290 r1 14 _ g1 rfl).trans ((f1273 r1 14 _ g1 rfl).trans (f1243 r1 14 _ g1 rfl)))
          have k1535 : H1285 r1 15 = H r1 15 := ((f1290 r1 15 _ g1 rfl).trans ((f1273 r1 15 _ g1 rfl).trans (f1243 r1 15 _ g1 rfl)))
          have k1536 : H1285 r1 16 = H r1 16 := ((f1290 r1 16 _ g1 rfl).trans ((f1273 r1 16 _ g1 rfl).trans (f1243 r1 16 _ g1 rfl)))
          have o1537 : (xap B n q d) = (xk B n ((xN B n q)) 4, ((xN B n q)), ((xN B n q))) := by
            unfold xap
            repeat first | rw [xs_0 (Int.le_antisymm (by omega -splitDisjunctions) (by omega -splitDisjunctions))] | rw [xs_1 (by omega -splitDisjunctions)] | rw [if_pos (Int.le_antisymm (by omega -splitDisjunctions) (by omega -splitDisjunctions))] | rw [if_pos (by omega -splitDisjunctions)] | rw [if_pos (And.intro (by omega -splitDisjunctions) (by omega -splitDisjunctions))] | rw [if_neg (by omega -splitDisjunctions)] | rw [xs_1 (by omega)] | rw [if_neg (by omega)] | rw [xs_0 (by omega)] | rw [if_pos (by omega)]
            first | done | rfl | assumption | (exfalso; omega -splitDisjunctions) | (refine Prod.ext ?_ (Prod.ext ?_ ?_) <;> (try dsimp only) <;> omega) | (exfalso; omega)
          have o1537a : ((xap B n q d)).1 = xk B n ((xN B n q)) 4 := by rw [o1537]
          have o1537b : ((xap B n q d)).2.1 = ((xN B n q)) := by rw [o1537]
          have o1537c : ((xap B n q d)).2.2 = ((xN B n q)) := by rw [o1537]
          have _l := @xdap_v B n q d
          exact wp_zreturn e34 c34_28 rfl (by omega) ⟨rfl, w1289, f1525, 0, rfl, ⟨by decide, by decide⟩, (Or.inr ⟨by omega, by omega, by omega, by omega, by omega⟩)⟩
    · exfalso
      omega
  · have f1538 := f0.tr f1243 rfl
    show wp _ _ 34 5 [(0, .ref r0), (1, .ref r1)] [vI z1244] _ H1238 _
    refine wp_of e34 c34_5 (rw_istore_n (pc' := 6) (z := z1244) (L' := [(2, vI z1244), (0, .ref r0), (1, .ref r1)]) rfl rfl rfl ?_)
    refine wp_of e34 c34_6 (rw_iload_n (pc' := 7) (z := z1244) rfl rfl ?_)
    refine wp_of e34 c34_7 (rw_if_ge (p1 := 12) (p2 := 10) (by decide) rfl ⟨b1245.1, b1245.2⟩ (fun c1539 => ?_) (fun c1539 => ?_))
    · exfalso
      omega
    · refine wp_of e34 c34_10 (rw_iconst (pc' := 11) rfl ?_)
      have k1540 : H1238 r1 7 = H r1 7 := (f1243 r1 7 _ g1 rfl)
      have k1541 : H1238 r1 8 = H r1 8 := (f1243 r1 8 _ g1 rfl)
      have k1542 : H1238 r1 9 = H r1 9 := (f1243 r1 9 _ g1 rfl)
      have k1543 : H1238 r1 10 = H r1 10 := (f1243 r1 10 _ g1 rfl)
      have k1544 : H1238 r1 11 = H r1 11 := (f1243 r1 11 _ g1 rfl)
      have k1545 : H1238 r1 12 = H r1 12 := (f1243 r1 12 _ g1 rfl)
      have k1546 : H1238 r1 13 = H r1 13 := (f1243 r1 13 _ g1 rfl)
      have k1547 : H1238 r1 14 = H r1 14 := (f1243 r1 14 _ g1 rfl)
      have k1548 : H1238 r1 15 = H r1 15 := (f1243 r1 15 _ g1 rfl)
      have k1549 : H1238 r1 16 = H r1 16 := (f1243 r1 16 _ g1 rfl)
      have o1550 : (xap B n q d) = (xkn B n q d, q, q) := by
        unfold xap
        repeat first | rw [xs_0 (Int.le_antisymm (by omega -splitDisjunctions) (by omega -splitDisjunctions))] | rw [xs_1 (by omega -splitDisjunctions)] | rw [if_pos (Int.le_antisymm (by omega -splitDisjunctions) (by omega -splitDisjunctions))] | rw [if_pos (by omega -splitDisjunctions)] | rw [if_pos (And.intro (by omega -splitDisjunctions) (by omega -splitDisjunctions))] | rw [if_neg (by omega -splitDisjunctions)] | rw [xs_1 (by omega)] | rw [if_neg (by omega)] | rw [xs_0 (by omega)] | rw [if_pos (by omega)]
        first | done | rfl | assumption | (exfalso; omega -splitDisjunctions) | (refine Prod.ext ?_ (Prod.ext ?_ ?_) <;> (try dsimp only) <;> omega) | (exfalso; omega)
      have o1550a : ((xap B n q d)).1 = xkn B n q d := by rw [o1550]
      have o1550b : ((xap B n q d)).2.1 = q := by rw [o1550]
      have o1550c : ((xap B n q d)).2.2 = q := by rw [o1550]
      have _l := @xdap_v B n q d
      exact wp_zreturn e34 c34_11 rfl (by omega) ⟨rfl, w1242, f1538, 0, rfl, ⟨by decide, by decide⟩, (Or.inr ⟨by omega, by omega, by omega, by omega, by omega⟩)⟩
/-! StrikeAwake$Person.clear(J)V  -/
abbrev uq_28 (r0 : Nat) (a1 : Int) (T : wq_T) (H : wq_H) : Option Value → wq_T → wq_H → Prop := fun r T' H' => T = T' ∧ WT T H' ∧ wfr [(35, 6), (35, 11), (35, 12), (35, 13), (35, 14), (35, 15), (35, 16), (35, 17)] T H H' ∧ none = r ∧ (((H' r0 6 = a1) ∧ (H' r0 11 = -1) ∧ (H' r0 12 = 0) ∧ (H' r0 13 = 0) ∧ (H' r0 14 = 0) ∧ (H' r0 15 = 0) ∧ (H' r0 16 = 0) ∧ (∀ a, a ≠ r0 → T.2.2.2 a = some 35 → H' a = H a)))
set_option maxHeartbeats 4000000 in
theorem u_28 {kt : Nat → Option mc_E} {T : wq_T} {H : wq_H} {r0 : Nat} {a1 : Int} (hW : WT T H) (g0 : T.2.2.2 r0 = some 35) (i1 : (-9223372036854775808) ≤ a1 ∧ a1 ≤ 9223372036854775807) : wpc kt 1 28 [.ref r0, vL a1] T H (uq_28 r0 a1 T H) := by
  refine wp_enter e28 (Nat.le_of_ble_eq_true rfl) rfl ?_
  have f0 : wfr [(35, 6), (35, 11), (35, 12), (35, 13), (35, 14), (35, 15), (35, 16), (35, 17)] T H H := wfr.rf
  show wp _ _ 28 0 [(0, .ref r0), (1, vL a1)] [] _ H _
  refine wp_of e28 c28_0 (rw_aload_n (pc' := 1) (v := .ref r0) rfl rfl rfl ?_)
  refine wp_of e28 c28_1 (rw_lload_n (pc' := 2) (z := a1) rfl rfl ?_)
  refine wp_of e28 c28_2 (xp_L (pc' := 5) lf_8_31 hW g0 sh_35 (by decide) (by decide) ty_35_6 rfl rfl (i1.1) (i1.2) ⟨i1.1, i1.2⟩ rfl (fun H1041 e1042 w1043 => ?_))
  have f1044 := f0.put' e1042 g0 rfl
  have k1045 : H1041 r0 6 = a1 := wq_u_s e1042
  refine wp_of e28 c28_5 (rw_aload_n (pc' := 6) (v := .ref r0) rfl rfl rfl ?_)
  refine wp_of e28 c28_6 (rw_iconst (pc' := 7) rfl ?_)
  refine wp_of e28 c28_7 (xp_I (pc' := 10) lf_8_35 w1043 g0 sh_35 (by decide) (by decide) ty_35_11 rfl rfl (by decide) (by decide) ⟨by decide, by decide⟩ rfl (fun H1046 e1047 w1048 => ?_))
  have f1049 := f1044.put' e1047 g0 rfl
  have k1050 : H1046 r0 11 = -1 := wq_u_s e1047
  refine wp_of e28 c28_10 (rw_aload_n (pc' := 11) (v := .ref r0) rfl rfl rfl ?_)
  refine wp_of e28 c28_11 (rw_iconst (pc' := 12) rfl ?_)
  refine wp_of e28 c28_12 (xp_I (pc' := 15) lf_8_39 w1048 g0 sh_35 (by decide) (by decide) ty_35_12 rfl rfl (by decide) (by decide) ⟨by decide, by decide⟩ rfl (fun H1051 e1052 w1053 => ?_))
  have f1054 := f1049.put' e1052 g0 rfl
  have k1055 : H1051 r0 12 = 0 := wq_u_s e1052
  refine wp_of e28 c28_15 (rw_aload_n (pc' := 16) (v := .ref r0) rfl rfl rfl ?_)
  refine wp_of e28 c28_16 (rw_iconst (pc' := 17) rfl ?_)
  refine wp_of e28 c28_17 (xp_Z (pc' := 20) lf_8_42 w1053 g0 sh_35 (by decide) (by decide) ty_35_13 rfl rfl (by decide) (by decide) rfl (fun H1056 e1057 w1058 => ?_))
  have f1059 := f1054.put' e1057 g0 rfl
  have k1060 : H1056 r0 13 = 0 := wq_u_s e1057
  refine wp_of e28 c28_20 (rw_aload_n (pc' := 21) (v := .ref r0) rfl rfl rfl ?_)
  refine wp_of e28 c28_21 (rw_iconst (pc' := 22) rfl ?_)
  refine wp_of e28 c28_22 (xp_I (pc' := 25) lf_8_46 w1058 g0 sh_35 (by decide) (by decide) ty_35_14 rfl rfl (by decide) (by decide) ⟨by decide, by decide⟩ rfl (fun H1061 e1062 w1063 => ?_))
  have f1064 := f1059.put' e1062 g0 rfl
  have k1065 : H1061 r0 14 = 0 := wq_u_s e1062
  refine wp_of e28 c28_25 (rw_aload_n (pc' := 26) (v := .ref r0) rfl rfl rfl ?_)
  refine wp_of e28 c28_26 (rw_iconst (pc' := 27) rfl ?_)
  refine wp_of e28 c28_27 (xp_I (pc' := 30) lf_8_49 w1063 g0 sh_35 (by decide) (by decide) ty_35_15 rfl rfl (by decide) (by decide) ⟨by decide, by decide⟩ rfl (fun H1066 e1067 w1068 => ?_))
  have f1069 := f1064.put' e1067 g0 rfl
  have k1070 : H1066 r0 15 = 0 := wq_u_s e1067
  refine wp_of e28 c28_30 (rw_aload_n (pc' := 31) (v := .ref r0) rfl rfl rfl ?_)
  refine wp_of e28 c28_31 (rw_iconst (pc' := 32) rfl ?_)
  refine wp_of e28 c28_32 (xp_I (pc' := 35) lf_8_52 w1068 g0 sh_35 (by decide) (by decide) ty_35_16 rfl rfl (by decide) (by decide) ⟨by decide, by decide⟩ rfl (fun H1071 e1072 w1073 => ?_))
  have f1074 := f1069.put' e1072 g0 rfl
  have k1075 : H1071 r0 16 = 0 := wq_u_s e1072
  refine wp_of e28 c28_35 (rw_aload_n (pc' := 36) (v := .ref r0) rfl rfl rfl ?_)
  refine wp_of e28 c28_36 (rw_iconst (pc' := 37) rfl ?_)
  refine wp_of e28 c28_37 (xp_I (pc' := 40) lf_8_55 w1073 g0 sh_35 (by decide) (by decide) ty_35_17 rfl rfl (by decide) (by decide) ⟨by decide, by decide⟩ rfl (fun H1076 e1077 w1078 => ?_))
  have f1079 := f1074.put' e1077 g0 rfl
  have k1080 : H1076 r0 17 = 0 := wq_u_s e1077
  have k1081 : H1076 r0 6 = H1041 r0 6 := ((wq_u_j e1077 rfl).trans ((wq_u_j e1072 rfl).trans ((wq_u_j e1067 rfl).trans ((wq_u_j e1062 rfl).trans ((wq_u_j e1057 rfl).trans ((wq_u_j e1052 rfl).trans (wq_u_j e1047 rfl)))))))
  have k1082 : H1076 r0 11 = H1046 r0 11 := ((wq_u_j e1077 rfl).trans ((wq_u_j e1072 rfl).trans ((wq_u_j e1067 rfl).trans ((wq_u_j e1062 rfl).trans ((wq_u_j e1057 rfl).trans (wq_u_j e1052 rfl))))))
  have k1083 : H1076 r0 12 = H1051 r0 12 := ((wq_u_j e1077 rfl).trans ((wq_u_j e1072 rfl).trans ((wq_u_j e1067 rfl).trans ((wq_u_j e1062 rfl).trans (wq_u_j e1057 rfl)))))
  have k1084 : H1076 r0 13 = H1056 r0 13 := ((wq_u_j e1077 rfl).trans ((wq_u_j e1072 rfl).trans ((wq_u_j e1067 rfl).trans (wq_u_j e1062 rfl))))
  have k1085 : H1076 r0 14 = H1061 r0 14 := ((wq_u_j e1077 rfl).trans ((wq_u_j e1072 rfl).trans (wq_u_j e1067 rfl)))
  have k1086 : H1076 r0 15 = H1066 r0 15 := ((wq_u_j e1077 rfl).trans (wq_u_j e1072 rfl))
  have k1087 : H1076 r0 16 = H1071 r0 16 := (wq_u_j e1077 rfl)
  exact wp_return e28 c28_40 rfl ⟨rfl, w1078, f1079, rfl, ⟨by omega, by omega, by omega, by omega, by omega, by omega, by omega, (fun a ha ga => ((wq_u_nf e1077 ha).trans ((wq_u_nf e1072 ha).trans ((wq_u_nf e1067 ha).trans ((wq_u_nf e1062 ha).trans ((wq_u_nf e1057 ha).trans ((wq_u_nf e1052 ha).trans ((wq_u_nf e1047 ha).trans (wq_u_nf e1042 ha)))))))))⟩⟩
