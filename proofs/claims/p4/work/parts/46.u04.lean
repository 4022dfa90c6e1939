/-! what methods do (own work, written by wip/gen3/sx3.py) -/
/-! StrikeAwakeModel.readApart()V k -/
abbrev uq_196_k (r0 : Nat) (rp : Nat) (rb : Nat) (B : Nat → Int) (n : Int) (q : Int) (d : xD) (T : wq_T) (H : wq_H) : Option Value → wq_T → wq_H → Prop := fun r T' H' => T = T' ∧ WT T H' ∧ wfr [(54, 4), (42, 8), (42, 9), (42, 10), (42, 11), (42, 12), (42, 13), (42, 14), (42, 15), (64, 999), (65, 999)] T H H' ∧ none = r ∧ ((((xl3 B n q d).1 = 0) ∧ ((xl3 B n q d).2.2 = (xN B n (xN B n (xN B n (xN B n q))))) ∧ (q ≤ (xN B n (xN B n (xN B n (xN B n q))))) ∧ RC T H' r0 B n (xN B n (xN B n (xN B n (xN B n q)))) ∧ DM T H' rp r0 (xdap B n (xN B n q) d)) ∨ (((xl3 B n q d).1 ≠ 0) ∧ RO T H' r0 ((xl3 B n q d).1) ((xl3 B n q d).2.1)))
set_option maxHeartbeats 4000000 in
theorem u_196_k {kt : Nat → Option mc_E} {T : wq_T} {H : wq_H} {r0 : Nat} {rp : Nat} {rb : Nat} {B : Nat → Int} {n : Int} {q : Int} {d : xD} (hW : WT T H) (g0 : T.2.2.2 r0 = some 42) (qrp : H r0 4 = (rp : Int)) (grp : T.2.2.2 rp = some 54) (qrb : H r0 5 = (rb : Int)) (grb : T.2.2.2 rb = some 43) (p0 : xK B n q = 1) (hRC_r0 : RC T H r0 B n q) (hDM_rp : DM T H rp r0 d) : wpc kt 6 196 [.ref r0] T H (uq_196_k r0 rp rb B n q d T H) := by
  refine wp_enter e196 (Nat.le_of_ble_eq_true rfl) rfl ?_
  have f0 : wfr [(54, 4), (42, 8), (42, 9), (42, 10), (42, 11), (42, 12), (42, 13), (42, 14), (42, 15), (64, 999), (65, 999)] T H H := wfr.rf
  show wp _ _ 196 0 [(0, .ref r0)] [] _ H _
  have u1091 := RC_k hRC_r0
  have u1092 := DM_k hDM_rp
  have h1093 : MA9 T H rp (d 1) := hDM_rp.2.2.2.1
  have h1094 : MA10 T H rp (d 2) := hDM_rp.2.2.2.2.1
  have h1095 : MA11 T H rp (d 3) := hDM_rp.2.2.2.2.2.1
  have h1096 : MA12 T H rp (d 4) := hDM_rp.2.2.2.2.2.2.1
  have h1097 : MA13 T H rp (d 5) := hDM_rp.2.2.2.2.2.2.2.1
  have h1098 : MA14 T H rp (d 6) := hDM_rp.2.2.2.2.2.2.2.2.1
  have h1099 : MA15 T H rp (d 7) := hDM_rp.2.2.2.2.2.2.2.2.2.1
  have h1100 : MA16 T H rp (d 8) := hDM_rp.2.2.2.2.2.2.2.2.2.2.1
  have h1101 : MA17 T H rp (d 9) := hDM_rp.2.2.2.2.2.2.2.2.2.2.2.1
  have h1102 : MA18 T H rp (d 10) := hDM_rp.2.2.2.2.2.2.2.2.2.2.2.2.1
  have h1103 : MA19 T H rp (d 11) := hDM_rp.2.2.2.2.2.2.2.2.2.2.2.2.2.1
  have h1104 : MA20 T H rp (d 12) := hDM_rp.2.2.2.2.2.2.2.2.2.2.2.2.2.2.1
  have h1105 : MA21 T H rp (d 13) := hDM_rp.2.2.2.2.2.2.2.2.2.2.2.2.2.2.2.1
  have h1106 : MA22 T H rp (d 14) := hDM_rp.2.2.2.2.2.2.2.2.2.2.2.2.2.2.2.2.1
  have h1107 : MA23 T H rp (d 15) := hDM_rp.2.2.2.2.2.2.2.2.2.2.2.2.2.2.2.2.2.1
  have h1108 : MA25 T H rp (d 17) := hDM_rp.2.2.2.2.2.2.2.2.2.2.2.2.2.2.2.2.2.2.1
  have h1109 : MA26 T H rp (d 16) := hDM_rp.2.2.2.2.2.2.2.2.2.2.2.2.2.2.2.2.2.2.2
  refine wp_of e196 c196_0 (rw_aload_n (pc' := 1) (v := .ref r0) rfl rfl rfl ?_)
  refine wp_of e196 c196_1 (rw_aload_n (pc' := 2) (v := .ref r0) rfl rfl rfl ?_)
  refine wp_of e196 c196_2 (xg_K (pc' := 5) lf_9_166 hW g0 sh_42 (by decide) (by decide) rfl qrp rfl ?_)
  refine wp_of e196 c196_5 (xg_I (pc' := 8) lf_9_276 hW grp sh_54 (by decide) (by decide) ty_54_4 rfl rfl (fun b1110 b1111 => ?_))
  refine wp_of e196 c196_8 (rw_iconst (pc' := 9) rfl ?_)
  refine wp_of e196 c196_9 (xc_V (pc' := 12) (r := r0) (as := [vI (H rp 4), vI 3]) (st := []) (lm_9_228) rfl rfl (Nat.le_of_ble_eq_true rfl) hW g0 sh_42 (by decide) rfl (by decide) (u_188_k (B := B) (n := n) (q := q) hW g0 ⟨by omega, by omega⟩ ⟨by omega, by omega⟩ qrb grb (by omega) hRC_r0) (fun R1112 T1113 H1114 p1115 => ?_))
  obtain ⟨e1116, w1118, f1119, e1117, p1120⟩ := p1115
  subst e1116
  subst e1117
  rcases p1120 with ⟨a1121, a1122⟩ | ⟨a1123, a1124⟩
  · have f1125 := f0.tr f1119 rfl
    show wp _ _ 196 12 [(0, .ref r0)] [] _ H1114 _
    have u1126 := RC_k a1122
    refine wp_of e196 c196_12 (rw_aload_n (pc' := 13) (v := .ref r0) rfl rfl rfl ?_)
    have k1127 : H1114 r0 4 = H r0 4 := (f1119 r0 4 _ g0 rfl)
    have q1128 : H1114 r0 4 = (rp : Int) := k1127.trans qrp
    have k1129 : H1114 r0 5 = H r0 5 := (f1119 r0 5 _ g0 rfl)
    have q1130 : H1114 r0 5 = (rb : Int) := k1129.trans qrb
    have h1131 : DM T H1114 rp r0 d := (DM_fr hW grp f1119 rfl hDM_rp)
    refine wp_of e196 c196_13 (xc_V (pc' := 16) (r := r0) (as := []) (st := []) (lm_9_273) rfl rfl (Nat.le_of_ble_eq_true rfl) w1118 g0 sh_42 (by decide) rfl (by decide) (u_194_k (B := B) (n := n) (q := ((xN B n q))) (d := d) w1118 g0 q1128 grp q1130 grb a1122 h1131) (fun R1132 T1133 H1134 p1135 => ?_))
    obtain ⟨e1136, w1138, f1139, z1140, e1137, b1141, p1142⟩ := p1135
    subst e1136
    subst e1137
    rcases p1142 with ⟨a1143, a1144, a1145, a1146, a1147⟩ | ⟨a1148, a1149, a1150⟩
    · have f1151 := f1125.tr f1139 rfl
      show wp _ _ 196 16 [(0, .ref r0)] [vI z1140] _ H1134 _
      have u1152 := RC_k a1147
      refine wp_of e196 c196_16 (rw_istore_n (pc' := 17) (z := z1140) (L' := [(1, vI z1140), (0, .ref r0)]) rfl rfl rfl ?_)
      refine wp_of e196 c196_17 (rw_aload_n (pc' := 18) (v := .ref r0) rfl rfl rfl ?_)
      refine wp_of e196 c196_18 (rw_bipush (pc' := 20) (z := 44) rfl (by decide) ?_)
      have k1153 : H1134 r0 5 = H1114 r0 5 := (f1139 r0 5 _ g0 rfl)
      have q1154 : H1134 r0 5 = (rb : Int) := k1153.trans q1130
      refine wp_of e196 c196_20 (xc_V (pc' := 23) (r := r0) (as := [vI 44]) (st := []) (lm_9_279) rfl rfl (Nat.le_of_ble_eq_true rfl) w1138 g0 sh_42 (by decide) rfl (by decide) (u_197_k (B := B) (n := n) (q := ((xN B n ((xN B n q))))) (kd := 4) w1138 g0 ⟨by omega, by omega⟩ q1154 grb (by omega) a1147) (fun R1155 T1156 H1157 p1158 => ?_))
      obtain ⟨e1159, w1161, f1162, e1160, p1163⟩ := p1158
      subst e1159
      subst e1160
      rcases p1163 with ⟨a1164, a1165⟩ | ⟨a1166, a1167⟩
      · have f1168 := f1151.tr f1162 rfl
        show wp _ _ 196 23 [(1, vI z1140), (0, .ref r0)] [] _ H1157 _
        have u1169 := RC_k a1165
        refine wp_of e196 c196_23 (rw_aload_n (pc' := 24) (v := .ref r0) rfl rfl rfl ?_)
        have k1170 : H1157 r0 4 = H1114 r0 4 := ((f1162 r0 4 _ g0 rfl).trans (f1139 r0 4 _ g0 rfl))
        have q1171 : H1157 r0 4 = (rp : Int) := k1170.trans q1128
        have h1172 : DM T H1157 rp r0 d := (DM_fr w1138 grp f1162 rfl (DM_fr w1118 grp f1139 rfl h1131))
        refine wp_of e196 c196_24 (xc_V (pc' := 27) (r := r0) (as := []) (st := []) (lm_9_176) rfl rfl (Nat.le_of_ble_eq_true rfl) w1161 g0 sh_42 (by decide) rfl (by decide) (u_195_k (B := B) (n := n) (q := ((xN B n ((xN B n ((xN B n q))))))) (d := d) w1161 g0 q1171 grp a1165 h1172) (fun R1173 T1174 H1175 p1176 => ?_))
        obtain ⟨e1177, w1179, f1180, z1181, e1178, b1182, p1183⟩ := p1176
        subst e1177
        subst e1178
        rcases p1183 with ⟨a1184, a1185, a1186, a1187, a1188, a1189⟩ | ⟨a1190, a1191, a1192⟩
        · have f1193 := f1168.tr f1180 rfl
          show wp _ _ 196 27 [(1, vI z1140), (0, .ref r0)] [vI z1181] _ H1175 _
          have u1194 := RC_k a1189
          refine wp_of e196 c196_27 (rw_istore_n (pc' := 28) (z := z1181) (L' := [(2, vI z1181), (1, vI z1140), (0, .ref r0)]) rfl rfl rfl ?_)
          refine wp_of e196 c196_28 (rw_iload_n (pc' := 29) (z := z1140) rfl rfl ?_)
          refine wp_of e196 c196_29 (rw_iload_n (pc' := 30) (z := z1181) rfl rfl ?_)
          refine wp_of e196 c196_30 (rw_icmp_ne (p1 := 37) (p2 := 33) (by decide) rfl ⟨by omega, by omega⟩ ⟨by omega, by omega⟩ (fun c1195 => ?_) (fun c1195 => ?_))
          · refine wp_of e196 c196_37 (rw_iconst (pc' := 38) rfl ?_)
            refine wp_of e196 c196_38 (rw_istore_n (pc' := 39) (z := 0) (L' := [(3, vI 0), (2, vI z1181), (1, vI z1140), (0, .ref r0)]) rfl rfl rfl ?_)
            refine wp_of e196 c196_39 (rw_iconst (pc' := 40) rfl ?_)
            refine wp_of e196 c196_40 (rw_istore (pc' := 42) (z := 0) (L' := [(4, vI 0), (3, vI 0), (2, vI z1181), (1, vI z1140), (0, .ref r0)]) rfl rfl rfl ?_)
            have k1337 : H1175 rp 4 = H rp 4 := ((f1180 rp 4 _ grp rfl).trans ((f1162 rp 4 _ grp rfl).trans ((f1139 rp 4 _ grp rfl).trans (f1119 rp 4 _ grp rfl))))
            have lp1332 : ∀ (n1333 : Nat) (v1335 : Int) (v1336 : Int), (0 ≤ v1335 ∧ v1335 ≤ 3) → (0 ≤ v1336 ∧ v1336 ≤ 1) → (v1336 = xgg d z1140 z1181 v1335) → (v1335 ≤ d 0 4) → (3 - v1335).toNat = n1333 → wp kt 5 196 42 [(4, vI v1335), (3, vI v1336), (2, vI z1181), (1, vI z1140), (0, .ref r0)] [] T H1175 (uq_196_k r0 rp rb B n q d T H) := by
              intro n1333
              induction n1333 using Nat.strongRecOn with
              | _ n1333 ih1334 =>
                intro v1335 v1336 b1340 b1341 x1342 x1343 m1344
                refine wp_of e196 c196_42 (rw_iload (pc' := 44) (z := v1335) rfl rfl ?_)
                refine wp_of e196 c196_44 (rw_aload_n (pc' := 45) (v := .ref r0) rfl rfl rfl ?_)
                have k1345 : H1175 r0 4 = H1157 r0 4 := (f1180 r0 4 _ g0 rfl)
                have q1346 : H1175 r0 4 = (rp : Int) := k1345.trans q1171
                refine wp_of e196 c196_45 (xg_K (pc' := 48) lf_9_166 w1179 g0 sh_42 (by decide) (by decide) rfl q1346 rfl ?_)
                refine wp_of e196 c196_48 (xg_I (pc' := 51) lf_9_276 w1179 grp sh_54 (by decide) (by decide) ty_54_4 rfl rfl (fun b1347 b1348 => ?_))
                refine wp_of e196 c196_51 (rw_icmp_ge (p1 := 126) (p2 := 54) (by decide) rfl ⟨by omega, by omega⟩ ⟨by omega, by omega⟩ (fun c1349 => ?_) (fun c1349 => ?_))
                · have _g := @xac_g d z1140 z1181 v1335 (by omega)
                  have _c : xac d (xwho B n (xN B n q) d) (xwho B n (xN B n (xN B n (xN B n q))) d) = xac d z1140 z1181 := by rw [show xwho B n (xN B n q) d = z1140 by omega, show xwho B n (xN B n (xN B n (xN B n q))) d = z1181 by omega]
                  refine wp_of e196 c196_126 (rw_iload_n (pc' := 127) (z := v1336) rfl rfl ?_)
                  refine wp_of e196 c196_127 (rw_if_eq (p1 := 135) (p2 := 130) (by decide) rfl ⟨by omega, by omega⟩ (fun c1350 => ?_) (fun c1350 => ?_))
                  · refine wp_of e196 c196_135 (rw_aload_n (pc' := 136) (v := .ref r0) rfl rfl rfl ?_)
                    have k1351 : H1175 r0 5 = H1134 r0 5 := ((f1180 r0 5 _ g0 rfl).trans (f1162 r0 5 _ g0 rfl))
                    have q1352 : H1175 r0 5 = (rb : Int) := k1351.trans q1154
                    have u1353 := RC_a a1189
                    have h1354 : TM T H1175 rb B := RC_tm a1189 q1352
                    refine wp_of e196 c196_136 (xc_V (pc' := 139) (r := r0) (as := []) (st := []) (lm_9_118) rfl rfl (Nat.le_of_ble_eq_true rfl) w1179 g0 sh_42 (by decide) rfl (by decide) (u_172_k (B := B) (n := n) (a := (xE B n ((xN B n ((xN B n ((xN B n q)))))))) (q := (xN B n ((xN B n ((xN B n ((xN B n q)))))))) w1179 g0 q1352 grb (by omega) (by omega) (by omega) (by omega) (by omega) (rfl) h1354) (fun R1355 T1356 H1357 p1358 => ?_))
                    obtain ⟨e1359, w1361, f1362, e1360, p1363⟩ := p1358
                    subst e1359
                    subst e1360
                    have f1365 := f1193.tr f1362 rfl
                    show wp _ _ 196 139 [(4, vI v1335), (3, vI v1336), (2, vI z1181), (1, vI z1140), (0, .ref r0)] [] _ H1357 _
                    have u1366 := RC_k p1363
                    refine wp_of e196 c196_139 (rw_aload_n (pc' := 140) (v := .ref r0) rfl rfl rfl ?_)
                    refine wp_of e196 c196_140 (xg_I (pc' := 143) lf_9_75 w1361 g0 sh_42 (by decide) (by decide) ty_42_9 rfl rfl (fun b1367 b1368 => ?_))
                    refine wp_of e196 c196_143 (rw_iconst (pc' := 144) rfl ?_)
                    refine wp_of e196 c196_144 (rw_icmp_ne (p1 := 148) (p2 := 147) (by decide) rfl ⟨by omega, by omega⟩ ⟨by omega, by omega⟩ (fun c1369 => ?_) (fun c1369 => ?_))
                    · refine wp_of e196 c196_148 (rw_aload_n (pc' := 149) (v := .ref r0) rfl rfl rfl ?_)
                      have k1370 : H1357 r0 4 = H1175 r0 4 := (f1362 r0 4 _ g0 rfl)
                      have q1371 : H1357 r0 4 = (rp : Int) := k1370.trans q1346
                      refine wp_of e196 c196_149 (xg_K (pc' := 152) lf_9_166 w1361 g0 sh_42 (by decide) (by decide) rfl q1371 rfl ?_)
                      refine wp_of e196 c196_152 (xg_R (pc' := 155) lf_9_282 w1361 grp sh_54 (by decide) (by decide) ty_54_18 rfl rfl (fun r1372 q1373 g1374 => ?_))
                      refine wp_of e196 c196_155 (rw_aload_n (pc' := 156) (v := .ref r0) rfl rfl rfl ?_)
                      refine wp_of e196 c196_156 (xg_K (pc' := 159) lf_9_166 w1361 g0 sh_42 (by decide) (by decide) rfl q1371 rfl ?_)
                      have k1375 : H1357 rp 4 = H1175 rp 4 := (f1362 rp 4 _ grp rfl)
                      refine wp_of e196 c196_159 (xg_I (pc' := 162) lf_9_276 w1361 grp sh_54 (by decide) (by decide) ty_54_4 rfl rfl (fun b1376 b1377 => ?_))
                      refine wp_of e196 c196_162 (rw_iload_n (pc' := 163) (z := z1140) rfl rfl ?_)
                      have h1378 : MA18 T H1357 rp (d 10) := (MA18_fr w1179 grp f1362 rfl (MA18_fr w1161 grp f1180 rfl (MA18_fr w1138 grp f1162 rfl (MA18_fr w1118 grp f1139 rfl (MA18_fr hW grp f1119 rfl h1102)))))
                      refine wp_of e196 c196_163 (xs_I (pc' := 164) w1361 g1374 (by decide) sh_64 (by decide) (ty_64 _) (by omega) (by omega) ⟨by omega, by omega⟩ (by omega) (by omega) rfl (fun H1379 e1380 w1381 => ?_))
                      have f1382 := f1365.put' e1380 g1374 rfl
                      have h1383 : MA18 T H1379 rp (xdap B n (xN B n q) d 10) := MA_put h1378 q1373 grp g1374 (by decide) e1380 ((xdap_c (k := ((H1357 rp 4).toNat)) (by omega)).1.trans (by omega)) (xdap_c (k := ((H1357 rp 4).toNat)) (by omega)).2
                      refine wp_of e196 c196_164 (rw_aload_n (pc' := 165) (v := .ref r0) rfl rfl rfl ?_)
                      have k1384 : H1379 r0 4 = H1357 r0 4 := (wq_u_t e1380 g1374 g0 rfl 4)
                      have q1385 : H1379 r0 4 = (rp : Int) := k1384.trans q1371
                      refine wp_of e196 c196_165 (xg_K (pc' := 168) lf_9_166 w1381 g0 sh_42 (by decide) (by decide) rfl q1385 rfl ?_)
                      refine wp_of e196 c196_168 (xg_R (pc' := 171) lf_9_285 w1381 grp sh_54 (by decide) (by decide) ty_54_19 rfl rfl (fun r1386 q1387 g1388 => ?_))
                      refine wp_of e196 c196_171 (rw_aload_n (pc' := 172) (v := .ref r0) rfl rfl rfl ?_)
                      refine wp_of e196 c196_172 (xg_K (pc' := 175) lf_9_166 w1381 g0 sh_42 (by decide) (by decide) rfl q1385 rfl ?_)
                      have k1389 : H1379 rp 4 = H1357 rp 4 := (wq_u_t e1380 g1374 grp rfl 4)
                      refine wp_of e196 c196_175 (xg_I (pc' := 178) lf_9_276 w1381 grp sh_54 (by decide) (by decide) ty_54_4 rfl rfl (fun b1390 b1391 => ?_))
                      refine wp_of e196 c196_178 (rw_iload_n (pc' := 179) (z := z1181) rfl rfl ?_)
                      have h1392 : MA19 T H1379 rp (d 11) := (MA19_fr w1361 grp ((wfr.rf (l := [(64, 999)])).put' e1380 g1374 rfl) rfl (MA19_fr w1179 grp f1362 rfl (MA19_fr w1161 grp f1180 rfl (MA19_fr w1138 grp f1162 rfl (MA19_fr w1118 grp f1139 rfl (MA19_fr hW grp f1119 rfl h1103))))))
                      refine wp_of e196 c196_179 (xs_I (pc' := 180) w1381 g1388 (by decide) sh_65 (by decide) (ty_65 _) (by omega) (by omega) ⟨by omega, by omega⟩ (by omega) (by omega) rfl (fun H1393 e1394 w1395 => ?_))
                      have f1396 := f1382.put' e1394 g1388 rfl
                      have h1397 : MA19 T H1393 rp (xdap B n (xN B n q) d 11) := MA_put h1392 q1387 grp g1388 (by decide) e1394 ((xdap_e (k := ((H1379 rp 4).toNat)) (by omega)).1.trans (by omega)) (xdap_e (k := ((H1379 rp 4).toNat)) (by omega)).2
                      refine wp_of e196 c196_180 (rw_aload_n (pc' := 181) (v := .ref r0) rfl rfl rfl ?_)
                      have k1398 : H1393 r0 4 = H1379 r0 4 := (wq_u_t e1394 g1388 g0 rfl 4)
                      have q1399 : H1393 r0 4 = (rp : Int) := k1398.trans q1385
                      refine wp_of e196 c196_181 (xg_K (pc' := 184) lf_9_166 w1395 g0 sh_42 (by decide) (by decide) rfl q1399 rfl ?_)
                      refine wp_of e196 c196_184 (rw_dup (pc' := 185) rfl rfl ?_)
                      have k1400 : H1393 rp 4 = H1379 rp 4 := (wq_u_t e1394 g1388 grp rfl 4)
                      refine wp_of e196 c196_185 (xg_I (pc' := 188) lf_9_276 w1395 grp sh_54 (by decide) (by decide) ty_54_4 rfl rfl (fun b1401 b1402 => ?_))
                      refine wp_of e196 c196_188 (rw_iconst (pc' := 189) rfl ?_)
                      refine wp_of e196 c196_189 (rw_iadd (pc' := 190) rfl ?_)
                      refine wp_of e196 c196_190 (xp_I (pc' := 193) lf_9_276 w1395 grp sh_54 (by decide) (by decide) ty_54_4 rfl rfl (by omega) (by omega) ⟨by omega, by omega⟩ rfl (fun H1403 e1404 w1405 => ?_))
                      have f1406 := f1396.put' e1404 grp rfl
                      have k1407 : H1403 rp 4 = (H1393 rp 4) + 1 := wq_u_s e1404
                      have k1408 : H1403 rp 0 = H rp 0 := ((wq_u_j e1404 rfl).trans ((wq_u_t e1394 g1388 grp rfl 0).trans ((wq_u_t e1380 g1374 grp rfl 0).trans ((f1362 rp 0 _ grp rfl).trans ((f1180 rp 0 _ grp rfl).trans ((f1162 rp 0 _ grp rfl).trans ((f1139 rp 0 _ grp rfl).trans (f1119 rp 0 _ grp rfl))))))))
                      have k1409 : H1403 rp 1 = H rp 1 := ((wq_u_j e1404 rfl).trans ((wq_u_t e1394 g1388 grp rfl 1).trans ((wq_u_t e1380 g1374 grp rfl 1).trans ((f1362 rp 1 _ grp rfl).trans ((f1180 rp 1 _ grp rfl).trans ((f1162 rp 1 _ grp rfl).trans ((f1139 rp 1 _ grp rfl).trans (f1119 rp 1 _ grp rfl))))))))
                      have k1410 : H1403 rp 2 = H rp 2 := ((wq_u_j e1404 rfl).trans ((wq_u_t e1394 g1388 grp rfl 2).trans ((wq_u_t e1380 g1374 grp rfl 2).trans ((f1362 rp 2 _ grp rfl).trans ((f1180 rp 2 _ grp rfl).trans ((f1162 rp 2 _ grp rfl).trans ((f1139 rp 2 _ grp rfl).trans (f1119 rp 2 _ grp rfl))))))))
                      have k1411 : H1403 rp 3 = H rp 3 := ((wq_u_j e1404 rfl).trans ((wq_u_t e1394 g1388 grp rfl 3).trans ((wq_u_t e1380 g1374 grp rfl 3).trans ((f1362 rp 3 _ grp rfl).trans ((f1180 rp 3 _ grp rfl).trans ((f1162 rp 3 _ grp rfl).trans ((f1139 rp 3 _ grp rfl).trans (f1119 rp 3 _ grp rfl))))))))
                      have k1412 : H1403 rp 5 = H rp 5 := ((wq_u_j e1404 rfl).trans ((wq_u_t e1394 g1388 grp rfl 5).trans ((wq_u_t e1380 g1374 grp rfl 5).trans ((f1362 rp 5 _ grp rfl).trans ((f1180 rp 5 _ grp rfl).trans ((f1162 rp 5 _ grp rfl).trans ((f1139 rp 5 _ grp rfl).trans (f1119 rp 5 _ grp rfl))))))))
                      have k1413 : H1403 rp 6 = H rp 6 := ((wq_u_j e1404 rfl).trans ((wq_u_t e1394 g1388 grp rfl 6).trans ((wq_u_t e1380 g1374 grp rfl 6).trans ((f1362 rp 6 _ grp rfl).trans ((f1180 rp 6 _ grp rfl).trans ((f1162 rp 6 _ grp rfl).trans ((f1139 rp 6 _ grp rfl).trans (f1119 rp 6 _ grp rfl))))))))
                      have k1414 : H1403 rp 7 = H rp 7 := ((wq_u_j e1404 rfl).trans ((wq_u_t e1394 g1388 grp rfl 7).trans ((wq_u_t e1380 g1374 grp rfl 7).trans ((f1362 rp 7 _ grp rfl).trans ((f1180 rp 7 _ grp rfl).trans ((f1162 rp 7 _ grp rfl).trans ((f1139 rp 7 _ grp rfl).trans (f1119 rp 7 _ grp rfl))))))))
                      have k1415 : H1403 rp 8 = H rp 8 := ((wq_u_j e1404 rfl).trans ((wq_u_t e1394 g1388 grp rfl 8).trans ((wq_u_t e1380 g1374 grp rfl 8).trans ((f1362 rp 8 _ grp rfl).trans ((f1180 rp 8 _ grp rfl).trans ((f1162 rp 8 _ grp rfl).trans ((f1139 rp 8 _ grp rfl).trans (f1119 rp 8 _ grp rfl))))))))
                      have k1416 : H1403 r0 16 = H r0 16 := ((wq_u_t e1404 grp g0 rfl 16).trans ((wq_u_t e1394 g1388 g0 rfl 16).trans ((wq_u_t e1380 g1374 g0 rfl 16).trans ((f1362 r0 16 _ g0 rfl).trans ((f1180 r0 16 _ g0 rfl).trans ((f1162 r0 16 _ g0 rfl).trans ((f1139 r0 16 _ g0 rfl).trans (f1119 r0 16 _ g0 rfl))))))))
                      have o1417 : (xl3 B n q d) = (0, (xN B n q), (xN B n ((xN B n ((xN B n ((xN B n q)))))))) := by
                        unfold xl3 xap
                        repeat first | rw [xs_0 (by omega)] | rw [xs_1 (by omega)] | rw [if_pos (by omega)] | rw [if_neg (by omega)]
                        first | done | rfl | assumption | (exfalso; omega) | (refine Prod.ext ?_ (Prod.ext ?_ ?_) <;> (try dsimp only) <;> omega)
                      have o1417a : ((xl3 B n q d)).1 = 0 := by rw [o1417]
                      have o1417b : ((xl3 B n q d)).2.1 = (xN B n q) := by rw [o1417]
                      have o1417c : ((xl3 B n q d)).2.2 = (xN B n ((xN B n ((xN B n ((xN B n q))))))) := by rw [o1417]
                      have _l := @xdap_v B n (xN B n q) d
                      have h1418 : RC T H1403 r0 B n (xN B n ((xN B n ((xN B n ((xN B n q))))))) := (RC_fr w1395 g0 ((wfr.rf (l := [(54, 4)])).put' e1404 grp rfl) rfl (RC_fr w1381 g0 ((wfr.rf (l := [(65, 999)])).put' e1394 g1388 rfl) rfl (RC_fr w1361 g0 ((wfr.rf (l := [(64, 999)])).put' e1380 g1374 rfl) rfl p1363)))
                      have h1419 : MA9 T H1403 rp (d 1) := (MA9_fr w1395 grp ((wfr.rf (l := [(54, 4)])).put' e1404 grp rfl) rfl (MA9_fr w1381 grp ((wfr.rf (l := [(65, 999)])).put' e1394 g1388 rfl) rfl (MA9_fr w1361 grp ((wfr.rf (l := [(64, 999)])).put' e1380 g1374 rfl) rfl (MA9_fr w1179 grp f1362 rfl (MA9_fr w1161 grp f1180 rfl (MA9_fr w1138 grp f1162 rfl (MA9_fr w1118 grp f1139 rfl (MA9_fr hW grp f1119 rfl h1093))))))))
                      have h1420 : MA10 T H1403 rp (d 2) := (MA10_fr w1395 grp ((wfr.rf (l := [(54, 4)])).put' e1404 grp rfl) rfl (MA10_fr w1381 grp ((wfr.rf (l := [(65, 999)])).put' e1394 g1388 rfl) rfl (MA10_fr w1361 grp ((wfr.rf (l := [(64, 999)])).put' e1380 g1374 rfl) rfl (MA10_fr w1179 grp f1362 rfl (MA10_fr w1161 grp f1180 rfl (MA10_fr w1138 grp f1162 rfl (MA10_fr w1118 grp f1139 rfl (MA10_fr hW grp f1119 rfl h1094))))))))
                      have h1421 : MA11 T H1403 rp (d 3) := (MA11_fr w1395 grp ((wfr.rf (l := [(54, 4)])).put' e1404 grp rfl) rfl (MA11_fr w1381 grp ((wfr.rf (l := [(65, 999)])).put' e1394 g1388 rfl) rfl (MA11_fr w1361 grp ((wfr.rf (l := [(64, 999)])).put' e1380 g1374 rfl) rfl (MA11_fr w1179 grp f1362 rfl (MA11_fr w1161 grp f1180 rfl (MA11_fr w1138 grp f1162 rfl (MA11_fr w1118 grp f1139 rfl (MA11_fr hW grp f1119 rfl h1095))))))))
                      have h1422 : MA12 T H1403 rp (d 4) := (MA12_fr w1395 grp ((wfr.rf (l := [(54, 4)])).put' e1404 grp rfl) rfl (MA12_fr w1381 grp ((wfr.rf (l := [(65, 999)])).put' e1394 g1388 rfl) rfl (MA12_fr w1361 grp ((wfr.rf (l := [(64, 999)])).put' e1380 g1374 rfl) rfl (MA12_fr w1179 grp f1362 rfl (MA12_fr w1161 grp f1180 rfl (MA12_fr w1138 grp f1162 rfl (MA12_fr w1118 grp f1139 rfl (MA12_fr hW grp f1119 rfl h1096))))))))
                      have h1423 : MA13 T H1403 rp (d 5) := (MA13_fr w1395 grp ((wfr.rf (l := [(54, 4)])).put' e1404 grp rfl) rfl (MA13_fr w1381 grp ((wfr.rf (l := [(65, 999)])).put' e1394 g1388 rfl) rfl (MA13_fr w1361 grp ((wfr.rf (l := [(64, 999)])).put' e1380 g1374 rfl) rfl (MA13_fr w1179 grp f1362 rfl (MA13_fr w1161 grp f1180 rfl (MA13_fr w1138 grp f1162 rfl (MA13_fr w1118 grp f1139 rfl (MA13_fr hW grp f1119 rfl h1097))))))))
                      have h1424 : MA14 T H1403 rp (d 6) := (MA14_fr w1395 grp ((wfr.rf (l := [(54, 4)])).put' e1404 grp rfl) rfl (MA14_fr w1381 grp ((wfr.rf (l := [(65, 999)])).put' e1394 g1388 rfl) rfl (MA14_fr w1361 grp ((wfr.rf (l := [(64, 999)])).put' e1380 g1374 rfl) rfl (MA14_fr w1179 grp f1362 rfl (MA14_fr w1161 grp f1180 rfl (MA14_fr w1138 grp f1162 rfl (MA14_fr w1118 grp f1139 rfl (MA14_fr hW grp f1119 rfl h1098))))))))
                      have h1425 : MA15 T H1403 rp (d 7) := (MA15_fr w1395 grp ((wfr.rf (l := [(54, 4)])).put' e1404 grp rfl) rfl (MA15_fr w1381 grp ((wfr.rf (l := [(65, 999)])).put' e1394 g1388 rfl) rfl (MA15_fr w1361 grp ((wfr.rf (l := [(64, 999)])).put' e1380 g1374 rfl) rfl (MA15_fr w1179 grp f1362 rfl (MA15_fr w1161 grp f1180 rfl (MA15_fr w1138 grp f1162 rfl (MA15_fr w1118 grp f1139 rfl (MA15_fr hW grp f1119 rfl h1099))))))))
                      have h1426 : MA16 T H1403 rp (d 8) := (MA16_fr w1395 grp ((wfr.rf (l := [(54, 4)])).put' e1404 grp rfl) rfl (MA16_fr w1381 grp ((wfr.rf (l := [(65, 999)])).put' e1394 g1388 rfl) rfl (MA16_fr w1361 grp ((wfr.rf (l := [(64, 999)])).put' e1380 g1374 rfl) rfl (MA16_fr w1179 grp f1362 rfl (MA16_fr w1161 grp f1180 rfl (MA16_fr w1138 grp f1162 rfl (MA16_fr w1118 grp f1139 rfl (MA16_fr hW grp f1119 rfl h1100))))))))
                      have h1427 : MA17 T H1403 rp (d 9) := (MA17_fr w1395 grp ((wfr.rf (l := [(54, 4)])).put' e1404 grp rfl) rfl (MA17_fr w1381 grp ((wfr.rf (l := [(65, 999)])).put' e1394 g1388 rfl) rfl (MA17_fr w1361 grp ((wfr.rf (l := [(64, 999)])).put' e1380 g1374 rfl) rfl (MA17_fr w1179 grp f1362 rfl (MA17_fr w1161 grp f1180 rfl (MA17_fr w1138 grp f1162 rfl (MA17_fr w1118 grp f1139 rfl (MA17_fr hW grp f1119 rfl h1101))))))))
                      have h1428 : MA18 T H1403 rp (xdap B n (xN B n q) d 10) := (MA18_fr w1395 grp ((wfr.rf (l := [(54, 4)])).put' e1404 grp rfl) rfl (MA18_fr w1381 grp ((wfr.rf (l := [(65, 999)])).put' e1394 g1388 rfl) rfl h1383))
                      have h1429 : MA19 T H1403 rp (xdap B n (xN B n q) d 11) := (MA19_fr w1395 grp ((wfr.rf (l := [(54, 4)])).put' e1404 grp rfl) rfl h1397)
                      have h1430 : MA20 T H1403 rp (d 12) := (MA20_fr w1395 grp ((wfr.rf (l := [(54, 4)])).put' e1404 grp rfl) rfl (MA20_fr w1381 grp ((wfr.rf (l := [(65, 999)])).put' e1394 g1388 rfl) rfl (MA20_fr w1361 grp ((wfr.rf (l := [(64, 999)])).put' e1380 g1374 rfl) rfl (MA20_fr w1179 grp f1362 rfl (MA20_fr w1161 grp f1180 rfl (MA20_fr w1138 grp f1162 rfl (MA20_fr w1118 grp f1139 rfl (MA20_fr hW grp f1119 rfl h1104))))))))
                      have h1431 : MA21 T H1403 rp (d 13) := (MA21_fr w1395 grp ((wfr.rf (l := [(54, 4)])).put' e1404 grp rfl) rfl (MA21_fr w1381 grp ((wfr.rf (l := [(65, 999)])).put' e1394 g1388 rfl) rfl (MA21_fr w1361 grp ((wfr.rf (l := [(64, 999)])).put' e1380 g1374 rfl) rfl (MA21_fr w1179 grp f1362 rfl (MA21_fr w1161 grp f1180 rfl (MA21_fr w1138 grp f1162 rfl (MA21_fr w1118 grp f1139 rfl (MA21_fr hW grp f1119 rfl h1105))))))))
                      have h1432 : MA22 T H1403 rp (d 14) := (MA22_fr w1395 grp ((wfr.rf (l := [(54, 4)])).put' e1404 grp rfl) rfl (MA22_fr w1381 grp ((wfr.rf (l := [(65, 999)])).put' e1394 g1388 rfl) rfl (MA22_fr w1361 grp ((wfr.rf (l := [(64, 999)])).put' e1380 g1374 rfl) rfl (MA22_fr w1179 grp f1362 rfl (MA22_fr w1161 grp f1180 rfl (MA22_fr w1138 grp f1162 rfl (MA22_fr w1118 grp f1139 rfl (MA22_fr hW grp f1119 rfl h1106))))))))
                      have h1433 : MA23 T H1403 rp (d 15) := (MA23_fr w1395 grp ((wfr.rf (l := [(54, 4)])).put' e1404 grp rfl) rfl (MA23_fr w1381 grp ((wfr.rf (l := [(65, 999)])).put' e1394 g1388 rfl) rfl (MA23_fr w1361 grp ((wfr.rf (l := [(64, 999)])).put' e1380 g1374 rfl) rfl (MA23_fr w1179 grp f1362 rfl (MA23_fr w1161 grp f1180 rfl (MA23_fr w1138 grp f1162 rfl (MA23_fr w1118 grp f1139 rfl (MA23_fr hW grp f1119 rfl h1107))))))))
                      have h1434 : MA25 T H1403 rp (d 17) := (MA25_fr w1395 grp ((wfr.rf (l := [(54, 4)])).put' e1404 grp rfl) rfl (MA25_fr w1381 grp ((wfr.rf (l := [(65, 999)])).put' e1394 g1388 rfl) rfl (MA25_fr w1361 grp ((wfr.rf (l := [(64, 999)])).put' e1380 g1374 rfl) rfl (MA25_fr w1179 grp f1362 rfl (MA25_fr w1161 grp f1180 rfl (MA25_fr w1138 grp f1162 rfl (MA25_fr w1118 grp f1139 rfl (MA25_fr hW grp f1119 rfl h1108))))))))
                      have h1435 : MA26 T H1403 rp (d 16) := (MA26_fr w1395 grp ((wfr.rf (l := [(54, 4)])).put' e1404 grp rfl) rfl (MA26_fr w1381 grp ((wfr.rf (l := [(65, 999)])).put' e1394 g1388 rfl) rfl (MA26_fr w1361 grp ((wfr.rf (l := [(64, 999)])).put' e1380 g1374 rfl) rfl (MA26_fr w1179 grp f1362 rfl (MA26_fr w1161 grp f1180 rfl (MA26_fr w1138 grp f1162 rfl (MA26_fr w1118 grp f1139 rfl (MA26_fr hW grp f1119 rfl h1109))))))))
                      exact wp_return e196 c196_193 rfl ⟨rfl, w1405, f1406, rfl, (Or.inl ⟨by omega, by omega, by omega, h1418, DM_mk hDM_rp.1 ⟨by omega, by omega, by omega, by omega, by omega, by omega, by omega, by omega, by omega, by omega, by omega, by omega⟩ (xdP_cg hDM_rp.2.2.1 (fun i h1 h2 => by unfold xdap; rw [wq_u_row (by omega), wq_u_row (by omega), wq_u_row (by omega)])) h1419 h1420 h1421 h1422 h1423 h1424 h1425 h1426 h1427 h1428 h1429 h1430 h1431 h1432 h1433 h1434 h1435 ⟨(by unfold xdap; rw [wq_u_row (by decide), wq_u_row (by decide), wq_u_row (by decide)]), (by unfold xdap; rw [wq_u_row (by decide), wq_u_row (by decide), wq_u_row (by decide)]), (by unfold xdap; rw [wq_u_row (by decide), wq_u_row (by decide), wq_u_row (by decide)]), (by unfold xdap; rw [wq_u_row (by decide), wq_u_row (by decide), wq_u_row (by decide)]), (by unfold xdap; rw [wq_u_row (by decide), wq_u_row (by decide), wq_u_row (by decide)]), (by unfold xdap; rw [wq_u_row (by decide), wq_u_row (by decide), wq_u_row (by decide)]), (by unfold xdap; rw [wq_u_row (by decide), wq_u_row (by decide), wq_u_row (by decide)]), (by unfold xdap; rw [wq_u_row (by decide), wq_u_row (by decide), wq_u_row (by decide)]), (by unfold xdap; rw [wq_u_row (by decide), wq_u_row (by decide), wq_u_row (by decide)]), rfl, rfl, (by unfold xdap; rw [wq_u_row (by decide), wq_u_row (by decide), wq_u_row (by decide)]), (by unfold xdap; rw [wq_u_row (by decide), wq_u_row (by decide), wq_u_row (by decide)]), (by unfold xdap; rw [wq_u_row (by decide), wq_u_row (by decide), wq_u_row (by decide)]), (by unfold xdap; rw [wq_u_row (by decide), wq_u_row (by decide), wq_u_row (by decide)]), (by unfold xdap; rw [wq_u_row (by decide), wq_u_row (by decide), wq_u_row (by decide)]), (by unfold xdap; rw [wq_u_row (by decide), wq_u_row (by decide), wq_u_row (by decide)])⟩⟩)⟩
                    · exfalso
                      omega
                  · refine wp_of e196 c196_130 (rw_aload_n (pc' := 131) (v := .ref r0) rfl rfl rfl ?_)
                    refine wp_of e196 c196_131 (rw_iconst (pc' := 132) rfl ?_)
                    refine wp_of e196 c196_132 (xc_V (pc' := 135) (r := r0) (as := [vI 3]) (st := []) (lm_9_121) rfl rfl (Nat.le_of_ble_eq_true rfl) w1179 g0 sh_42 (by decide) rfl (by decide) (u_181_k (B := B) (n := n) (q := ((xN B n ((xN B n ((xN B n q))))))) w1179 g0 ⟨by omega, by omega⟩ (by omega) a1189) (fun R1436 T1437 H1438 p1439 => ?_))
                    obtain ⟨e1440, w1442, f1443, e1441, p1444⟩ := p1439
                    subst e1440
                    subst e1441
                    have f1446 := f1193.tr f1443 rfl
                    show wp _ _ 196 135 [(4, vI v1335), (3, vI v1336), (2, vI z1181), (1, vI z1140), (0, .ref r0)] [] _ H1438 _
                    have u1447 := RO_k p1444
                    refine wp_of e196 c196_135 (rw_aload_n (pc' := 136) (v := .ref r0) rfl rfl rfl ?_)
                    refine wp_of e196 c196_136 (xc_V (pc' := 139) (r := r0) (as := []) (st := []) (lm_9_118) rfl rfl (Nat.le_of_ble_eq_true rfl) w1442 g0 sh_42 (by decide) rfl (by decide) (u_172_o (fo := 3) (po := (((xN B n ((xN B n ((xN B n q)))))))) w1442 g0 p1444) (fun R1448 T1449 H1450 p1451 => ?_))
                    obtain ⟨e1452, e1454, e1453, p1455⟩ := p1451
                    subst e1452
                    subst e1453
                    subst e1454
                    show wp _ _ 196 139 [(4, vI v1335), (3, vI v1336), (2, vI z1181), (1, vI z1140), (0, .ref r0)] [] _ H1438 _
                    have u1457 := RO_k p1455
                    refine wp_of e196 c196_139 (rw_aload_n (pc' := 140) (v := .ref r0) rfl rfl rfl ?_)
                    refine wp_of e196 c196_140 (xg_I (pc' := 143) lf_9_75 w1442 g0 sh_42 (by decide) (by decide) ty_42_9 rfl rfl (fun b1458 b1459 => ?_))
                    refine wp_of e196 c196_143 (rw_iconst (pc' := 144) rfl ?_)
                    refine wp_of e196 c196_144 (rw_icmp_ne (p1 := 148) (p2 := 147) (by decide) rfl ⟨by omega, by omega⟩ ⟨by omega, by omega⟩ (fun c1460 => ?_) (fun c1460 => ?_))
                    · exfalso
                      omega
                    · have o1461 : (xl3 B n q d) = (xac d (xwho B n (xN B n q) d) (xwho B n (xN B n (xN B n (xN B n q))) d), (xN B n (xN B n (xN B n q))), (xN B n (xN B n (xN B n q)))) := by
                        unfold xl3 xap
                        repeat first | rw [xs_0 (by omega)] | rw [xs_1 (by omega)] | rw [if_pos (by omega)] | rw [if_neg (by omega)]
                        first | done | rfl | assumption | (exfalso; omega) | (refine Prod.ext ?_ (Prod.ext ?_ ?_) <;> (try dsimp only) <;> omega)
                      have o1461a : ((xl3 B n q d)).1 = xac d (xwho B n (xN B n q) d) (xwho B n (xN B n (xN B n (xN B n q))) d) := by rw [o1461]
                      have o1461b : ((xl3 B n q d)).2.1 = (xN B n (xN B n (xN B n q))) := by rw [o1461]
                      have o1461c : ((xl3 B n q d)).2.2 = (xN B n (xN B n (xN B n q))) := by rw [o1461]
                      exact wp_return e196 c196_147 rfl ⟨rfl, w1442, f1446, rfl, (Or.inr ⟨by omega, RO_eq p1455 (by omega) (by omega)⟩)⟩
                · refine wp_of e196 c196_54 (rw_iload_n (pc' := 55) (z := v1336) rfl rfl ?_)
                  refine wp_of e196 c196_55 (rw_if_ne (p1 := 114) (p2 := 58) (by decide) rfl ⟨by omega, by omega⟩ (fun c1462 => ?_) (fun c1462 => ?_))
                  · refine wp_of e196 c196_114 (rw_iconst (pc' := 115) rfl ?_)
                    refine wp_of e196 c196_115 (rw_goto (p1 := 119) (by decide) ?_)
                    refine wp_of e196 c196_119 (rw_istore_n (pc' := 120) (z := 1) (L' := [(3, vI 1), (4, vI v1335), (2, vI z1181), (1, vI z1140), (0, .ref r0)]) rfl rfl rfl ?_)
                    refine wp_of e196 c196_120 (rw_iinc (pc' := 123) (z := v1335) (L' := [(4, vI (v1335 + 1)), (3, vI 1), (2, vI z1181), (1, vI z1140), (0, .ref r0)]) rfl rfl rfl rfl ?_)
                    refine wp_of e196 c196_123 (rw_goto (p1 := 42) (by decide) ?_)
                    have := xgg_s (d := d) (a := z1140) (b := z1181) (i := v1335) (by omega)
                    exact wp_lc (ks := [4, 3, 2, 1, 0]) (wl_c rfl (wl_c rfl (wl_c rfl (wl_c rfl (wl_c rfl wl_n))))) rfl (by decide) (ih1334 _ (by omega) (v1335 + 1) 1 ⟨by omega, by omega⟩ ⟨by omega, by omega⟩ (by omega) (by omega) rfl)
                  · refine wp_of e196 c196_58 (rw_aload_n (pc' := 59) (v := .ref r0) rfl rfl rfl ?_)
                    refine wp_of e196 c196_59 (xg_K (pc' := 62) lf_9_166 w1179 g0 sh_42 (by decide) (by decide) rfl q1346 rfl ?_)
                    refine wp_of e196 c196_62 (xg_R (pc' := 65) lf_9_282 w1179 grp sh_54 (by decide) (by decide) ty_54_18 rfl rfl (fun r1463 q1464 g1465 => ?_))
                    refine wp_of e196 c196_65 (rw_iload (pc' := 67) (z := v1335) rfl rfl ?_)
                    refine wp_of e196 c196_67 (xa_I (so := 0) (pc' := 68) w1179 g1465 sh_64 (by decide) (ty_64 _) (by omega) (by omega) rfl (fun b1466 b1467 => ?_))
                    have h1468 : MA18 T H1175 rp (d 10) := (MA18_fr w1161 grp f1180 rfl (MA18_fr w1138 grp f1162 rfl (MA18_fr w1118 grp f1139 rfl (MA18_fr hW grp f1119 rfl h1102))))
                    have := MA_at h1468 q1464 (k := (v1335.toNat)) (by omega)
                    refine wp_of e196 c196_68 (rw_iload_n (pc' := 69) (z := z1140) rfl rfl ?_)
                    refine wp_of e196 c196_69 (rw_icmp_ne (p1 := 86) (p2 := 72) (by decide) rfl ⟨by omega, by omega⟩ ⟨by omega, by omega⟩ (fun c1469 => ?_) (fun c1469 => ?_))
                    · refine wp_of e196 c196_86 (rw_aload_n (pc' := 87) (v := .ref r0) rfl rfl rfl ?_)
                      refine wp_of e196 c196_87 (xg_K (pc' := 90) lf_9_166 w1179 g0 sh_42 (by decide) (by decide) rfl q1346 rfl ?_)
                      refine wp_of e196 c196_90 (xg_K (pc' := 93) lf_9_282 w1179 grp sh_54 (by decide) (by decide) rfl q1464 rfl ?_)
                      refine wp_of e196 c196_93 (rw_iload (pc' := 95) (z := v1335) rfl rfl ?_)
                      refine wp_of e196 c196_95 (xa_I (so := 0) (pc' := 96) w1179 g1465 sh_64 (by decide) (ty_64 _) (by omega) (by omega) rfl (fun b1470 b1471 => ?_))
                      have := MA_at h1468 q1464 (k := (v1335.toNat)) (by omega)
                      refine wp_of e196 c196_96 (rw_iload_n (pc' := 97) (z := z1181) rfl rfl ?_)
                      refine wp_of e196 c196_97 (rw_icmp_ne (p1 := 118) (p2 := 100) (by decide) rfl ⟨by omega, by omega⟩ ⟨by omega, by omega⟩ (fun c1472 => ?_) (fun c1472 => ?_))
                      · refine wp_of e196 c196_118 (rw_iconst (pc' := 119) rfl ?_)
                        refine wp_of e196 c196_119 (rw_istore_n (pc' := 120) (z := 0) (L' := [(3, vI 0), (4, vI v1335), (2, vI z1181), (1, vI z1140), (0, .ref r0)]) rfl rfl rfl ?_)
                        refine wp_of e196 c196_120 (rw_iinc (pc' := 123) (z := v1335) (L' := [(4, vI (v1335 + 1)), (3, vI 0), (2, vI z1181), (1, vI z1140), (0, .ref r0)]) rfl rfl rfl rfl ?_)
                        refine wp_of e196 c196_123 (rw_goto (p1 := 42) (by decide) ?_)
                        have := xgg_s (d := d) (a := z1140) (b := z1181) (i := v1335) (by omega)
                        exact wp_lc (ks := [4, 3, 2, 1, 0]) (wl_c rfl (wl_c rfl (wl_c rfl (wl_c rfl (wl_c rfl wl_n))))) rfl (by decide) (ih1334 _ (by omega) (v1335 + 1) 0 ⟨by omega, by omega⟩ ⟨by omega, by omega⟩ (by omega) (by omega) rfl)
                      · refine wp_of e196 c196_100 (rw_aload_n (pc' := 101) (v := .ref r0) rfl rfl rfl ?_)
                        refine wp_of e196 c196_101 (xg_K (pc' := 104) lf_9_166 w1179 g0 sh_42 (by decide) (by decide) rfl q1346 rfl ?_)
                        refine wp_of e196 c196_104 (xg_R (pc' := 107) lf_9_285 w1179 grp sh_54 (by decide) (by decide) ty_54_19 rfl rfl (fun r1473 q1474 g1475 => ?_))
                        refine wp_of e196 c196_107 (rw_iload (pc' := 109) (z := v1335) rfl rfl ?_)
                        refine wp_of e196 c196_109 (xa_I (so := 0) (pc' := 110) w1179 g1475 sh_65 (by decide) (ty_65 _) (by omega) (by omega) rfl (fun b1476 b1477 => ?_))
                        have h1478 : MA19 T H1175 rp (d 11) := (MA19_fr w1161 grp f1180 rfl (MA19_fr w1138 grp f1162 rfl (MA19_fr w1118 grp f1139 rfl (MA19_fr hW grp f1119 rfl h1103))))
                        have := MA_at h1478 q1474 (k := (v1335.toNat)) (by omega)
                        refine wp_of e196 c196_110 (rw_iload_n (pc' := 111) (z := z1140) rfl rfl ?_)
                        refine wp_of e196 c196_111 (rw_icmp_ne (p1 := 118) (p2 := 114) (by decide) rfl ⟨by omega, by omega⟩ ⟨by omega, by omega⟩ (fun c1479 => ?_) (fun c1479 => ?_))
                        · refine wp_of e196 c196_118 (rw_iconst (pc' := 119) rfl ?_)
                          refine wp_of e196 c196_119 (rw_istore_n (pc' := 120) (z := 0) (L' := [(3, vI 0), (4, vI v1335), (2, vI z1181), (1, vI z1140), (0, .ref r0)]) rfl rfl rfl ?_)
                          refine wp_of e196 c196_120 (rw_iinc (pc' := 123) (z := v1335) (L' := [(4, vI (v1335 + 1)), (3, vI 0), (2, vI z1181), (1, vI z1140), (0, .ref r0)]) rfl rfl rfl rfl ?_)
                          refine wp_of e196 c196_123 (rw_goto (p1 := 42) (by decide) ?_)
                          have := xgg_s (d := d) (a := z1140) (b := z1181) (i := v1335) (by omega)
                          exact wp_lc (ks := [4, 3, 2, 1, 0]) (wl_c rfl (wl_c rfl (wl_c rfl (wl_c rfl (wl_c rfl wl_n))))) rfl (by decide) (ih1334 _ (by omega) (v1335 + 1) 0 ⟨by omega, by omega⟩ ⟨by omega, by omega⟩ (by omega) (by omega) rfl)
                        · refine wp_of e196 c196_114 (rw_iconst (pc' := 115) rfl ?_)
                          refine wp_of e196 c196_115 (rw_goto (p1 := 119) (by decide) ?_)
                          refine wp_of e196 c196_119 (rw_istore_n (pc' := 120) (z := 1) (L' := [(3, vI 1), (4, vI v1335), (2, vI z1181), (1, vI z1140), (0, .ref r0)]) rfl rfl rfl ?_)
                          refine wp_of e196 c196_120 (rw_iinc (pc' := 123) (z := v1335) (L' := [(4, vI (v1335 + 1)), (3, vI 1), (2, vI z1181), (1, vI z1140), (0, .ref r0)]) rfl rfl rfl rfl ?_)
                          refine wp_of e196 c196_123 (rw_goto (p1 := 42) (by decide) ?_)
                          have := xgg_s (d := d) (a := z1140) (b := z1181) (i := v1335) (by omega)
                          exact wp_lc (ks := [4, 3, 2, 1, 0]) (wl_c rfl (wl_c rfl (wl_c rfl (wl_c rfl (wl_c rfl wl_n))))) rfl (by decide) (ih1334 _ (by omega) (v1335 + 1) 1 ⟨by omega, by omega⟩ ⟨by omega, by omega⟩ (by omega) (by omega) rfl)
                    · refine wp_of e196 c196_72 (rw_aload_n (pc' := 73) (v := .ref r0) rfl rfl rfl ?_)
                      refine wp_of e196 c196_73 (xg_K (pc' := 76) lf_9_166 w1179 g0 sh_42 (by decide) (by decide) rfl q1346 rfl ?_)
                      refine wp_of e196 c196_76 (xg_R (pc' := 79) lf_9_285 w1179 grp sh_54 (by decide) (by decide) ty_54_19 rfl rfl (fun r1480 q1481 g1482 => ?_))
                      refine wp_of e196 c196_79 (rw_iload (pc' := 81) (z := v1335) rfl rfl ?_)
                      refine wp_of e196 c196_81 (xa_I (so := 0) (pc' := 82) w1179 g1482 sh_65 (by decide) (ty_65 _) (by omega) (by omega) rfl (fun b1483 b1484 => ?_))
                      have h1485 : MA19 T H1175 rp (d 11) := (MA19_fr w1161 grp f1180 rfl (MA19_fr w1138 grp f1162 rfl (MA19_fr w1118 grp f1139 rfl (MA19_fr hW grp f1119 rfl h1103))))
                      have := MA_at h1485 q1481 (k := (v1335.toNat)) (by omega)
                      refine wp_of e196 c196_82 (rw_iload_n (pc' := 83) (z := z1181) rfl rfl ?_)
                      refine wp_of e196 c196_83 (rw_icmp_eq (p1 := 114) (p2 := 86) (by decide) rfl ⟨by omega, by omega⟩ ⟨by omega, by omega⟩ (fun c1486 => ?_) (fun c1486 => ?_))
                      · refine wp_of e196 c196_114 (rw_iconst (pc' := 115) rfl ?_)
                        refine wp_of e196 c196_115 (rw_goto (p1 := 119) (by decide) ?_)
                        refine wp_of e196 c196_119 (rw_istore_n (pc' := 120) (z := 1) (L' := [(3, vI 1), (4, vI v1335), (2, vI z1181), (1, vI z1140), (0, .ref r0)]) rfl rfl rfl ?_)
                        refine wp_of e196 c196_120 (rw_iinc (pc' := 123) (z := v1335) (L' := [(4, vI (v1335 + 1)), (3, vI 1), (2, vI z1181), (1, vI z1140), (0, .ref r0)]) rfl rfl rfl rfl ?_)
                        refine wp_of e196 c196_123 (rw_goto (p1 := 42) (by decide) ?_)
                        have := xgg_s (d := d) (a := z1140) (b := z1181) (i := v1335) (by omega)
                        exact wp_lc (ks := [4, 3, 2, 1, 0]) (wl_c rfl (wl_c rfl (wl_c rfl (wl_c rfl (wl_c rfl wl_n))))) rfl (by decide) (ih1334 _ (by omega) (v1335 + 1) 1 ⟨by omega, by omega⟩ ⟨by omega, by omega⟩ (by omega) (by omega) rfl)
                      · refine wp_of e196 c196_86 (rw_aload_n (pc' := 87) (v := .ref r0) rfl rfl rfl ?_)
                        refine wp_of e196 c196_87 (xg_K (pc' := 90) lf_9_166 w1179 g0 sh_42 (by decide) (by decide) rfl q1346 rfl ?_)
                        refine wp_of e196 c196_90 (xg_K (pc' := 93) lf_9_282 w1179 grp sh_54 (by decide) (by decide) rfl q1464 rfl ?_)
                        refine wp_of e196 c196_93 (rw_iload (pc' := 95) (z := v1335) rfl rfl ?_)
                        refine wp_of e196 c196_95 (xa_I (so := 0) (pc' := 96) w1179 g1465 sh_64 (by decide) (ty_64 _) (by omega) (by omega) rfl (fun b1487 b1488 => ?_))
                        have := MA_at h1468 q1464 (k := (v1335.toNat)) (by omega)
                        refine wp_of e196 c196_96 (rw_iload_n (pc' := 97) (z := z1181) rfl rfl ?_)
                        refine wp_of e196 c196_97 (rw_icmp_ne (p1 := 118) (p2 := 100) (by decide) rfl ⟨by omega, by omega⟩ ⟨by omega, by omega⟩ (fun c1489 => ?_) (fun c1489 => ?_))
                        · refine wp_of e196 c196_118 (rw_iconst (pc' := 119) rfl ?_)
                          refine wp_of e196 c196_119 (rw_istore_n (pc' := 120) (z := 0) (L' := [(3, vI 0), (4, vI v1335), (2, vI z1181), (1, vI z1140), (0, .ref r0)]) rfl rfl rfl ?_)
                          refine wp_of e196 c196_120 (rw_iinc (pc' := 123) (z := v1335) (L' := [(4, vI (v1335 + 1)), (3, vI 0), (2, vI z1181), (1, vI z1140), (0, .ref r0)]) rfl rfl rfl rfl ?_)
                          refine wp_of e196 c196_123 (rw_goto (p1 := 42) (by decide) ?_)
                          have := xgg_s (d := d) (a := z1140) (b := z1181) (i := v1335) (by omega)
                          exact wp_lc (ks := [4, 3, 2, 1, 0]) (wl_c rfl (wl_c rfl (wl_c rfl (wl_c rfl (wl_c rfl wl_n))))) rfl (by decide) (ih1334 _ (by omega) (v1335 + 1) 0 ⟨by omega, by omega⟩ ⟨by omega, by omega⟩ (by omega) (by omega) rfl)
                        · refine wp_of e196 c196_100 (rw_aload_n (pc' := 101) (v := .ref r0) rfl rfl rfl ?_)
                          refine wp_of e196 c196_101 (xg_K (pc' := 104) lf_9_166 w1179 g0 sh_42 (by decide) (by decide) rfl q1346 rfl ?_)
                          refine wp_of e196 c196_104 (xg_K (pc' := 107) lf_9_285 w1179 grp sh_54 (by decide) (by decide) rfl q1481 rfl ?_)
                          refine wp_of e196 c196_107 (rw_iload (pc' := 109) (z := v1335) rfl rfl ?_)
                          refine wp_of e196 c196_109 (xa_I (so := 0) (pc' := 110) w1179 g1482 sh_65 (by decide) (ty_65 _) (by omega) (by omega) rfl (fun b1490 b1491 => ?_))
                          have := MA_at h1485 q1481 (k := (v1335.toNat)) (by omega)
                          refine wp_of e196 c196_110 (rw_iload_n (pc' := 111) (z := z1140) rfl rfl ?_)
                          refine wp_of e196 c196_111 (rw_icmp_ne (p1 := 118) (p2 := 114) (by decide) rfl ⟨by omega, by omega⟩ ⟨by omega, by omega⟩ (fun c1492 => ?_) (fun c1492 => ?_))
                          · refine wp_of e196 c196_118 (rw_iconst (pc' := 119) rfl ?_)
                            refine wp_of e196 c196_119 (rw_istore_n (pc' := 120) (z := 0) (L' := [(3, vI 0), (4, vI v1335), (2, vI z1181), (1, vI z1140), (0, .ref r0)]) rfl rfl rfl ?_)
                            refine wp_of e196 c196_120 (rw_iinc (pc' := 123) (z := v1335) (L' := [(4, vI (v1335 + 1)), (3, vI 0), (2, vI z1181), (1, vI z1140), (0, .ref r0)]) rfl rfl rfl rfl ?_)
                            refine wp_of e196 c196_123 (rw_goto (p1 := 42) (by decide) ?_)
                            have := xgg_s (d := d) (a := z1140) (b := z1181) (i := v1335) (by omega)
                            exact wp_lc (ks := [4, 3, 2, 1, 0]) (wl_c rfl (wl_c rfl (wl_c rfl (wl_c rfl (wl_c rfl wl_n))))) rfl (by decide) (ih1334 _ (by omega) (v1335 + 1) 0 ⟨by omega, by omega⟩ ⟨by omega, by omega⟩ (by omega) (by omega) rfl)
                          · refine wp_of e196 c196_114 (rw_iconst (pc' := 115) rfl ?_)
                            refine wp_of e196 c196_115 (rw_goto (p1 := 119) (by decide) ?_)
                            refine wp_of e196 c196_119 (rw_istore_n (pc' := 120) (z := 1) (L' := [(3, vI 1), (4, vI v1335), (2, vI z1181), (1, vI z1140), (0, .ref r0)]) rfl rfl rfl ?_)
                            refine wp_of e196 c196_120 (rw_iinc (pc' := 123) (z := v1335) (L' := [(4, vI (v1335 + 1)), (3, vI 1), (2, vI z1181), (1, vI z1140), (0, .ref r0)]) rfl rfl rfl rfl ?_)
                            refine wp_of e196 c196_123 (rw_goto (p1 := 42) (by decide) ?_)
                            have := xgg_s (d := d) (a := z1140) (b := z1181) (i := v1335) (by omega)
                            exact wp_lc (ks := [4, 3, 2, 1, 0]) (wl_c rfl (wl_c rfl (wl_c rfl (wl_c rfl (wl_c rfl wl_n))))) rfl (by decide) (ih1334 _ (by omega) (v1335 + 1) 1 ⟨by omega, by omega⟩ ⟨by omega, by omega⟩ (by omega) (by omega) rfl)
            have := @xgg_0 d z1140 z1181
            exact wp_lc (ks := [4, 3, 2, 1, 0]) (wl_c rfl (wl_c rfl (wl_c rfl (wl_c rfl (wl_c rfl wl_n))))) rfl (by decide) (lp1332 _ 0 0 ⟨by omega, by omega⟩ ⟨by omega, by omega⟩ (by omega) (by omega) rfl)
          · refine wp_of e196 c196_33 (rw_iconst (pc' := 34) rfl ?_)
            refine wp_of e196 c196_34 (rw_goto (p1 := 38) (by decide) ?_)
            refine wp_of e196 c196_38 (rw_istore_n (pc' := 39) (z := 1) (L' := [(3, vI 1), (2, vI z1181), (1, vI z1140), (0, .ref r0)]) rfl rfl rfl ?_)
            refine wp_of e196 c196_39 (rw_iconst (pc' := 40) rfl ?_)
            refine wp_of e196 c196_40 (rw_istore (pc' := 42) (z := 0) (L' := [(4, vI 0), (3, vI 1), (2, vI z1181), (1, vI z1140), (0, .ref r0)]) rfl rfl rfl ?_)
            have k1526 : H1175 rp 4 = H rp 4 := ((f1180 rp 4 _ grp rfl).trans ((f1162 rp 4 _ grp rfl).trans ((f1139 rp 4 _ grp rfl).trans (f1119 rp 4 _ grp rfl))))
            have lp1521 : ∀ (n1522 : Nat) (v1524 : Int) (v1525 : Int), (0 ≤ v1524 ∧ v1524 ≤ 3) → (1 ≤ v1525 ∧ v1525 ≤ 1) → (v1525 = xgg d z1140 z1181 v1524) → (v1524 ≤ d 0 4) → (3 - v1524).toNat = n1522 → wp kt 5 196 42 [(4, vI v1524), (3, vI v1525), (2, vI z1181), (1, vI z1140), (0, .ref r0)] [] T H1175 (uq_196_k r0 rp rb B n q d T H) := by
              intro n1522
              induction n1522 using Nat.strongRecOn with
              | _ n1522 ih1523 =>
                intro v1524 v1525 b1529 b1530 x1531 x1532 m1533
                refine wp_of e196 c196_42 (rw_iload (pc' := 44) (z := v1524) rfl rfl ?_)
                refine wp_of e196 c196_44 (rw_aload_n (pc' := 45) (v := .ref r0) rfl rfl rfl ?_)
                have k1534 : H1175 r0 4 = H1157 r0 4 := (f1180 r0 4 _ g0 rfl)
                have q1535 : H1175 r0 4 = (rp : Int) := k1534.trans q1171
                refine wp_of e196 c196_45 (xg_K (pc' := 48) lf_9_166 w1179 g0 sh_42 (by decide) (by decide) rfl q1535 rfl ?_)
                refine wp_of e196 c196_48 (xg_I (pc' := 51) lf_9_276 w1179 grp sh_54 (by decide) (by decide) ty_54_4 rfl rfl (fun b1536 b1537 => ?_))
                refine wp_of e196 c196_51 (rw_icmp_ge (p1 := 126) (p2 := 54) (by decide) rfl ⟨by omega, by omega⟩ ⟨by omega, by omega⟩ (fun c1538 => ?_) (fun c1538 => ?_))
                · have _g := @xac_g d z1140 z1181 v1524 (by omega)
                  have _c : xac d (xwho B n (xN B n q) d) (xwho B n (xN B n (xN B n (xN B n q))) d) = xac d z1140 z1181 := by rw [show xwho B n (xN B n q) d = z1140 by omega, show xwho B n (xN B n (xN B n (xN B n q))) d = z1181 by omega]
                  refine wp_of e196 c196_126 (rw_iload_n (pc' := 127) (z := v1525) rfl rfl ?_)
                  refine wp_of e196 c196_127 (rw_if_eq (p1 := 135) (p2 := 130) (by decide) rfl ⟨by omega, by omega⟩ (fun c1539 => ?_) (fun c1539 => ?_))
                  · exfalso
                    omega
                  · refine wp_of e196 c196_130 (rw_aload_n (pc' := 131) (v := .ref r0) rfl rfl rfl ?_)
                    refine wp_of e196 c196_131 (rw_iconst (pc' := 132) rfl ?_)
                    refine wp_of e196 c196_132 (xc_V (pc' := 135) (r := r0) (as := [vI 3]) (st := []) (lm_9_121) rfl rfl (Nat.le_of_ble_eq_true rfl) w1179 g0 sh_42 (by decide) rfl (by decide) (u_181_k (B := B) (n := n) (q := ((xN B n ((xN B n ((xN B n q))))))) w1179 g0 ⟨by omega, by omega⟩ (by omega) a1189) (fun R1540 T1541 H1542 p1543 => ?_))
                    obtain ⟨e1544, w1546, f1547, e1545, p1548⟩ := p1543
                    subst e1544
                    subst e1545
                    have f1550 := f1193.tr f1547 rfl
                    show wp _ _ 196 135 [(4, vI v1524), (3, vI v1525), (2, vI z1181), (1, vI z1140), (0, .ref r0)] [] _ H1542 _
                    have u1551 := RO_k p1548
                    refine wp_of e196 c196_135 (rw_aload_n (pc' := 136) (v := .ref r0) rfl rfl rfl ?_)
                    refine wp_of e196 c196_136 (xc_V (pc' := 139) (r := r0) (as := []) (st := []) (lm_9_118) rfl rfl (Nat.le_of_ble_eq_true rfl) w1546 g0 sh_42 (by decide) rfl (by decide) (u_172_o (fo := 3) (po := (((xN B n ((xN B n ((xN B n q)))))))) w1546 g0 p1548) (fun R1552 T1553 H1554 p1555 => ?_))
                    obtain ⟨e1556, e1558, e1557, p1559⟩ := p1555
                    subst e1556
                    subst e1557
                    subst e1558
                    show wp _ _ 196 139 [(4, vI v1524), (3, vI v1525), (2, vI z1181), (1, vI z1140), (0, .ref r0)] [] _ H1542 _
                    have u1561 := RO_k p1559
                    refine wp_of e196 c196_139 (rw_aload_n (pc' := 140) (v := .ref r0) rfl rfl rfl ?_)
                    refine wp_of e196 c196_140 (xg_I (pc' := 143) lf_9_75 w1546 g0 sh_42 (by decide) (by decide) ty_42_9 rfl rfl (fun b1562 b1563 => ?_))
                    refine wp_of e196 c196_143 (rw_iconst (pc' := 144) rfl ?_)
                    refine wp_of e196 c196_144 (rw_icmp_ne (p1 := 148) (p2 := 147) (by decide) rfl ⟨by omega, by omega⟩ ⟨by omega, by omega⟩ (fun c1564 => ?_) (fun c1564 => ?_))
                    · exfalso
                      omega
                    · have o1565 : (xl3 B n q d) = (xac d (xwho B n (xN B n q) d) (xwho B n (xN B n (xN B n (xN B n q))) d), (xN B n (xN B n (xN B n q))), (xN B n (xN B n (xN B n q)))) := by
                        unfold xl3 xap
                        repeat first | rw [xs_0 (by omega)] | rw [xs_1 (by omega)] | rw [if_pos (by omega)] | rw [if_neg (by omega)]
                        first | done | rfl | assumption | (exfalso; omega) | (refine Prod.ext ?_ (Prod.ext ?_ ?_) <;> (try dsimp only) <;> omega)
                      have o1565a : ((xl3 B n q d)).1 = xac d (xwho B n (xN B n q) d) (xwho B n (xN B n (xN B n (xN B n q))) d) := by rw [o1565]
                      have o1565b : ((xl3 B n q d)).2.1 = (xN B n (xN B n (xN B n q))) := by rw [o1565]
                      have o1565c : ((xl3 B n q d)).2.2 = (xN B n (xN B n (xN B n q))) := by rw [o1565]
                      exact wp_return e196 c196_147 rfl ⟨rfl, w1546, f1550, rfl, (Or.inr ⟨by omega, RO_eq p1559 (by omega) (by omega)⟩)⟩
                · refine wp_of e196 c196_54 (rw_iload_n (pc' := 55) (z := v1525) rfl rfl ?_)
                  refine wp_of e196 c196_55 (rw_if_ne (p1 := 114) (p2 := 58) (by decide) rfl ⟨by omega, by omega⟩ (fun c1566 => ?_) (fun c1566 => ?_))
                  · refine wp_of e196 c196_114 (rw_iconst (pc' := 115) rfl ?_)
                    refine wp_of e196 c196_115 (rw_goto (p1 := 119) (by decide) ?_)
                    refine wp_of e196 c196_119 (rw_istore_n (pc' := 120) (z := 1) (L' := [(3, vI 1), (4, vI v1524), (2, vI z1181), (1, vI z1140), (0, .ref r0)]) rfl rfl rfl ?_)
                    refine wp_of e196 c196_120 (rw_iinc (pc' := 123) (z := v1524) (L' := [(4, vI (v1524 + 1)), (3, vI 1), (2, vI z1181), (1, vI z1140), (0, .ref r0)]) rfl rfl rfl rfl ?_)
                    refine wp_of e196 c196_123 (rw_goto (p1 := 42) (by decide) ?_)
                    have := xgg_s (d := d) (a := z1140) (b := z1181) (i := v1524) (by omega)
                    exact wp_lc (ks := [4, 3, 2, 1, 0]) (wl_c rfl (wl_c rfl (wl_c rfl (wl_c rfl (wl_c rfl wl_n))))) rfl (by decide) (ih1523 _ (by omega) (v1524 + 1) 1 ⟨by omega, by omega⟩ ⟨by omega, by omega⟩ (by omega) (by omega) rfl)
                  · exfalso
                    omega
            have := @xgg_0 d z1140 z1181
            exact wp_lc (ks := [4, 3, 2, 1, 0]) (wl_c rfl (wl_c rfl (wl_c rfl (wl_c rfl (wl_c rfl wl_n))))) rfl (by decide) (lp1521 _ 0 1 ⟨by omega, by omega⟩ ⟨by omega, by omega⟩ (by omega) (by omega) rfl)
        · have f1567 := f1168.tr f1180 rfl
          show wp _ _ 196 27 [(1, vI z1140), (0, .ref r0)] [vI z1181] _ H1175 _
          have u1568 := RO_k a1192
          refine wp_of e196 c196_27 (rw_istore_n (pc' := 28) (z := z1181) (L' := [(2, vI z1181), (1, vI z1140), (0, .ref r0)]) rfl rfl rfl ?_)
          refine wp_of e196 c196_28 (rw_iload_n (pc' := 29) (z := z1140) rfl rfl ?_)
          refine wp_of e196 c196_29 (rw_iload_n (pc' := 30) (z := z1181) rfl rfl ?_)
          refine wp_of e196 c196_30 (rw_icmp_ne (p1 := 37) (p2 := 33) (by decide) rfl ⟨by omega, by omega⟩ ⟨by omega, by omega⟩ (fun c1569 => ?_) (fun c1569 => ?_))
          · refine wp_of e196 c196_37 (rw_iconst (pc' := 38) rfl ?_)
            refine wp_of e196 c196_38 (rw_istore_n (pc' := 39) (z := 0) (L' := [(3, vI 0), (2, vI z1181), (1, vI z1140), (0, .ref r0)]) rfl rfl rfl ?_)
            refine wp_of e196 c196_39 (rw_iconst (pc' := 40) rfl ?_)
            refine wp_of e196 c196_40 (rw_istore (pc' := 42) (z := 0) (L' := [(4, vI 0), (3, vI 0), (2, vI z1181), (1, vI z1140), (0, .ref r0)]) rfl rfl rfl ?_)
            have lp1694 : ∀ (n1695 : Nat) (v1697 : Int) (v1698 : Int), (0 ≤ v1697 ∧ v1697 ≤ 3) → (0 ≤ v1698 ∧ v1698 ≤ 1) → (3 - v1697).toNat = n1695 → wp kt 5 196 42 [(4, vI v1697), (3, vI v1698), (2, vI z1181), (1, vI z1140), (0, .ref r0)] [] T H1175 (uq_196_k r0 rp rb B n q d T H) := by
              intro n1695
              induction n1695 using Nat.strongRecOn with
              | _ n1695 ih1696 =>
                intro v1697 v1698 b1701 b1702 m1703
                refine wp_of e196 c196_42 (rw_iload (pc' := 44) (z := v1697) rfl rfl ?_)
                refine wp_of e196 c196_44 (rw_aload_n (pc' := 45) (v := .ref r0) rfl rfl rfl ?_)
                have k1704 : H1175 r0 4 = H1157 r0 4 := (f1180 r0 4 _ g0 rfl)
                have q1705 : H1175 r0 4 = (rp : Int) := k1704.trans q1171
                refine wp_of e196 c196_45 (xg_K (pc' := 48) lf_9_166 w1179 g0 sh_42 (by decide) (by decide) rfl q1705 rfl ?_)
                have k1706 : H1175 rp 4 = H rp 4 := ((f1180 rp 4 _ grp rfl).trans ((f1162 rp 4 _ grp rfl).trans ((f1139 rp 4 _ grp rfl).trans (f1119 rp 4 _ grp rfl))))
                refine wp_of e196 c196_48 (xg_I (pc' := 51) lf_9_276 w1179 grp sh_54 (by decide) (by decide) ty_54_4 rfl rfl (fun b1707 b1708 => ?_))
                refine wp_of e196 c196_51 (rw_icmp_ge (p1 := 126) (p2 := 54) (by decide) rfl ⟨by omega, by omega⟩ ⟨by omega, by omega⟩ (fun c1709 => ?_) (fun c1709 => ?_))
                · refine wp_of e196 c196_126 (rw_iload_n (pc' := 127) (z := v1698) rfl rfl ?_)
                  refine wp_of e196 c196_127 (rw_if_eq (p1 := 135) (p2 := 130) (by decide) rfl ⟨by omega, by omega⟩ (fun c1710 => ?_) (fun c1710 => ?_))
                  · refine wp_of e196 c196_135 (rw_aload_n (pc' := 136) (v := .ref r0) rfl rfl rfl ?_)
                    refine wp_of e196 c196_136 (xc_V (pc' := 139) (r := r0) (as := []) (st := []) (lm_9_118) rfl rfl (Nat.le_of_ble_eq_true rfl) w1179 g0 sh_42 (by decide) rfl (by decide) (u_172_o (fo := (xkn B n ((xN B n ((xN B n ((xN B n q)))))) d)) (po := (((xN B n ((xN B n ((xN B n q)))))))) w1179 g0 a1192) (fun R1711 T1712 H1713 p1714 => ?_))
                    obtain ⟨e1715, e1717, e1716, p1718⟩ := p1714
                    subst e1715
                    subst e1716
                    subst e1717
                    show wp _ _ 196 139 [(4, vI v1697), (3, vI v1698), (2, vI z1181), (1, vI z1140), (0, .ref r0)] [] _ H1175 _
                    have u1720 := RO_k p1718
                    refine wp_of e196 c196_139 (rw_aload_n (pc' := 140) (v := .ref r0) rfl rfl rfl ?_)
                    refine wp_of e196 c196_140 (xg_I (pc' := 143) lf_9_75 w1179 g0 sh_42 (by decide) (by decide) ty_42_9 rfl rfl (fun b1721 b1722 => ?_))
                    refine wp_of e196 c196_143 (rw_iconst (pc' := 144) rfl ?_)
                    refine wp_of e196 c196_144 (rw_icmp_ne (p1 := 148) (p2 := 147) (by decide) rfl ⟨by omega, by omega⟩ ⟨by omega, by omega⟩ (fun c1723 => ?_) (fun c1723 => ?_))
                    · exfalso
                      omega
                    · have o1724 : (xl3 B n q d) = (xkn B n ((xN B n ((xN B n ((xN B n q)))))) d, ((xN B n ((xN B n ((xN B n q)))))), ((xN B n ((xN B n ((xN B n q))))))) := by
                        unfold xl3 xap
                        repeat first | rw [xs_0 (by omega)] | rw [xs_1 (by omega)] | rw [if_pos (by omega)] | rw [if_neg (by omega)]
                        first | done | rfl | assumption | (exfalso; omega) | (refine Prod.ext ?_ (Prod.ext ?_ ?_) <;> (try dsimp only) <;> omega)
                      have o1724a : ((xl3 B n q d)).1 = xkn B n ((xN B n ((xN B n ((xN B n q)))))) d := by rw [o1724]
                      have o1724b : ((xl3 B n q d)).2.1 = ((xN B n ((xN B n ((xN B n q)))))) := by rw [o1724]
                      have o1724c : ((xl3 B n q d)).2.2 = ((xN B n ((xN B n ((xN B n q)))))) := by rw [o1724]
                      exact wp_return e196 c196_147 rfl ⟨rfl, w1179, f1567, rfl, (Or.inr ⟨by omega, RO_eq p1718 (by omega) (by omega)⟩)⟩
                  · refine wp_of e196 c196_130 (rw_aload_n (pc' := 131) (v := .ref r0) rfl rfl rfl ?_)
                    refine wp_of e196 c196_131 (rw_iconst (pc' := 132) rfl ?_)
                    refine wp_of e196 c196_132 (xc_V (pc' := 135) (r := r0) (as := [vI 3]) (st := []) (lm_9_121) rfl rfl (Nat.le_of_ble_eq_true rfl) w1179 g0 sh_42 (by decide) rfl (by decide) (u_181_o (fo := (xkn B n ((xN B n ((xN B n ((xN B n q)))))) d)) (po := (((xN B n ((xN B n ((xN B n q)))))))) w1179 g0 ⟨by omega, by omega⟩ a1192) (fun R1725 T1726 H1727 p1728 => ?_))
                    obtain ⟨e1729, e1731, e1730, p1732⟩ := p1728
                    subst e1729
                    subst e1730
                    subst e1731
                    show wp _ _ 196 135 [(4, vI v1697), (3, vI v1698), (2, vI z1181), (1, vI z1140), (0, .ref r0)] [] _ H1175 _
                    have u1734 := RO_k p1732
                    refine wp_of e196 c196_135 (rw_aload_n (pc' := 136) (v := .ref r0) rfl rfl rfl ?_)
                    refine wp_of e196 c196_136 (xc_V (pc' := 139) (r := r0) (as := []) (st := []) (lm_9_118) rfl rfl (Nat.le_of_ble_eq_true rfl) w1179 g0 sh_42 (by decide) rfl (by decide) (u_172_o (fo := (xkn B n ((xN B n ((xN B n ((xN B n q)))))) d)) (po := (((xN B n ((xN B n ((xN B n q)))))))) w1179 g0 p1732) (fun R1735 T1736 H1737 p1738 => ?_))
                    obtain ⟨e1739, e1741, e1740, p1742⟩ := p1738
                    subst e1739
                    subst e1740
                    subst e1741
                    show wp _ _ 196 139 [(4, vI v1697), (3, vI v1698), (2, vI z1181), (1, vI z1140), (0, .ref r0)] [] _ H1175 _
                    have u1744 := RO_k p1742
                    refine wp_of e196 c196_139 (rw_aload_n (pc' := 140) (v := .ref r0) rfl rfl rfl ?_)
                    refine wp_of e196 c196_140 (xg_I (pc' := 143) lf_9_75 w1179 g0 sh_42 (by decide) (by decide) ty_42_9 rfl rfl (fun b1745 b1746 => ?_))
                    refine wp_of e196 c196_143 (rw_iconst (pc' := 144) rfl ?_)
                    refine wp_of e196 c196_144 (rw_icmp_ne (p1 := 148) (p2 := 147) (by decide) rfl ⟨by omega, by omega⟩ ⟨by omega, by omega⟩ (fun c1747 => ?_) (fun c1747 => ?_))
                    · exfalso
                      omega
                    · have o1748 : (xl3 B n q d) = (xkn B n ((xN B n ((xN B n ((xN B n q)))))) d, ((xN B n ((xN B n ((xN B n q)))))), ((xN B n ((xN B n ((xN B n q))))))) := by
                        unfold xl3 xap
                        repeat first | rw [xs_0 (by omega)] | rw [xs_1 (by omega)] | rw [if_pos (by omega)] | rw [if_neg (by omega)]
                        first | done | rfl | assumption | (exfalso; omega) | (refine Prod.ext ?_ (Prod.ext ?_ ?_) <;> (try dsimp only) <;> omega)
                      have o1748a : ((xl3 B n q d)).1 = xkn B n ((xN B n ((xN B n ((xN B n q)))))) d := by rw [o1748]
                      have o1748b : ((xl3 B n q d)).2.1 = ((xN B n ((xN B n ((xN B n q)))))) := by rw [o1748]
                      have o1748c : ((xl3 B n q d)).2.2 = ((xN B n ((xN B n ((xN B n q)))))) := by rw [o1748]
                      exact wp_return e196 c196_147 rfl ⟨rfl, w1179, f1567, rfl, (Or.inr ⟨by omega, RO_eq p1742 (by omega) (by omega)⟩)⟩
                · refine wp_of e196 c196_54 (rw_iload_n (pc' := 55) (z := v1698) rfl rfl ?_)
                  refine wp_of e196 c196_55 (rw_if_ne (p1 := 114) (p2 := 58) (by decide) rfl ⟨by omega, by omega⟩ (fun c1749 => ?_) (fun c1749 => ?_))
                  · refine wp_of e196 c196_114 (rw_iconst (pc' := 115) rfl ?_)
                    refine wp_of e196 c196_115 (rw_goto (p1 := 119) (by decide) ?_)
                    refine wp_of e196 c196_119 (rw_istore_n (pc' := 120) (z := 1) (L' := [(3, vI 1), (4, vI v1697), (2, vI z1181), (1, vI z1140), (0, .ref r0)]) rfl rfl rfl ?_)
                    refine wp_of e196 c196_120 (rw_iinc (pc' := 123) (z := v1697) (L' := [(4, vI (v1697 + 1)), (3, vI 1), (2, vI z1181), (1, vI z1140), (0, .ref r0)]) rfl rfl rfl rfl ?_)
                    refine wp_of e196 c196_123 (rw_goto (p1 := 42) (by decide) ?_)
                    exact wp_lc (ks := [4, 3, 2, 1, 0]) (wl_c rfl (wl_c rfl (wl_c rfl (wl_c rfl (wl_c rfl wl_n))))) rfl (by decide) (ih1696 _ (by omega) (v1697 + 1) 1 ⟨by omega, by omega⟩ ⟨by omega, by omega⟩ rfl)
                  · refine wp_of e196 c196_58 (rw_aload_n (pc' := 59) (v := .ref r0) rfl rfl rfl ?_)
                    refine wp_of e196 c196_59 (xg_K (pc' := 62) lf_9_166 w1179 g0 sh_42 (by decide) (by decide) rfl q1705 rfl ?_)
                    refine wp_of e196 c196_62 (xg_R (pc' := 65) lf_9_282 w1179 grp sh_54 (by decide) (by decide) ty_54_18 rfl rfl (fun r1750 q1751 g1752 => ?_))
                    refine wp_of e196 c196_65 (rw_iload (pc' := 67) (z := v1697) rfl rfl ?_)
                    refine wp_of e196 c196_67 (xa_I (so := 0) (pc' := 68) w1179 g1752 sh_64 (by decide) (ty_64 _) (by omega) (by omega) rfl (fun b1753 b1754 => ?_))
                    have h1755 : MA18 T H1175 rp (d 10) := (MA18_fr w1161 grp f1180 rfl (MA18_fr w1138 grp f1162 rfl (MA18_fr w1118 grp f1139 rfl (MA18_fr hW grp f1119 rfl h1102))))
                    have := MA_at h1755 q1751 (k := (v1697.toNat)) (by omega)
                    refine wp_of e196 c196_68 (rw_iload_n (pc' := 69) (z := z1140) rfl rfl ?_)
                    refine wp_of e196 c196_69 (rw_icmp_ne (p1 := 86) (p2 := 72) (by decide) rfl ⟨by omega, by omega⟩ ⟨by omega, by omega⟩ (fun c1756 => ?_) (fun c1756 => ?_))
                    · refine wp_of e196 c196_86 (rw_aload_n (pc' := 87) (v := .ref r0) rfl rfl rfl ?_)
                      refine wp_of e196 c196_87 (xg_K (pc' := 90) lf_9_166 w1179 g0 sh_42 (by decide) (by decide) rfl q1705 rfl ?_)
                      refine wp_of e196 c196_90 (xg_K (pc' := 93) lf_9_282 w1179 grp sh_54 (by decide) (by decide) rfl q1751 rfl ?_)
                      refine wp_of e196 c196_93 (rw_iload (pc' := 95) (z := v1697) rfl rfl ?_)
                      refine wp_of e196 c196_95 (xa_I (so := 0) (pc' := 96) w1179 g1752 sh_64 (by decide) (ty_64 _) (by omega) (by omega) rfl (fun b1757 b1758 => ?_))
                      have := MA_at h1755 q1751 (k := (v1697.toNat)) (by omega)
                      refine wp_of e196 c196_96 (rw_iload_n (pc' := 97) (z := z1181) rfl rfl ?_)
                      refine wp_of e196 c196_97 (rw_icmp_ne (p1 := 118) (p2 := 100) (by decide) rfl ⟨by omega, by omega⟩ ⟨by omega, by omega⟩ (fun c1759 => ?_) (fun c1759 => ?_))
                      · refine wp_of e196 c196_118 (rw_iconst (pc' := 119) rfl ?_)
                        refine wp_of e196 c196_119 (rw_istore_n (pc' := 120) (z := 0) (L' := [(3, vI 0), (4, vI v1697), (2, vI z1181), (1, vI z1140), (0, .ref r0)]) rfl rfl rfl ?_)
                        refine wp_of e196 c196_120 (rw_iinc (pc' := 123) (z := v1697) (L' := [(4, vI (v1697 + 1)), (3, vI 0), (2, vI z1181), (1, vI z1140), (0, .ref r0)]) rfl rfl rfl rfl ?_)
                        refine wp_of e196 c196_123 (rw_goto (p1 := 42) (by decide) ?_)
                        exact wp_lc (ks := [4, 3, 2, 1, 0]) (wl_c rfl (wl_c rfl (wl_c rfl (wl_c rfl (wl_c rfl wl_n))))) rfl (by decide) (ih1696 _ (by omega) (v1697 + 1) 0 ⟨by omega, by omega⟩ ⟨by omega, by omega⟩ rfl)
                      · refine wp_of e196 c196_100 (rw_aload_n (pc' := 101) (v := .ref r0) rfl rfl rfl ?_)
                        refine wp_of e196 c196_101 (xg_K (pc' := 104) lf_9_166 w1179 g0 sh_42 (by decide) (by decide) rfl q1705 rfl ?_)
                        refine wp_of e196 c196_104 (xg_R (pc' := 107) lf_9_285 w1179 grp sh_54 (by decide) (by decide) ty_54_19 rfl rfl (fun r1760 q1761 g1762 => ?_))
                        refine wp_of e196 c196_107 (rw_iload (pc' := 109) (z := v1697) rfl rfl ?_)
                        refine wp_of e196 c196_109 (xa_I (so := 0) (pc' := 110) w1179 g1762 sh_65 (by decide) (ty_65 _) (by omega) (by omega) rfl (fun b1763 b1764 => ?_))
                        have h1765 : MA19 T H1175 rp (d 11) := (MA19_fr w1161 grp f1180 rfl (MA19_fr w1138 grp f1162 rfl (MA19_fr w1118 grp f1139 rfl (MA19_fr hW grp f1119 rfl h1103))))
                        have := MA_at h1765 q1761 (k := (v1697.toNat)) (by omega)
                        refine wp_of e196 c196_110 (rw_iload_n (pc' := 111) (z := z1140) rfl rfl ?_)
                        refine wp_of e196 c196_111 (rw_icmp_ne (p1 := 118) (p2 := 114) (by decide) rfl ⟨by omega, by omega⟩ ⟨by omega, by omega⟩ (fun c1766 => ?_) (fun c1766 => ?_))
                        · refine wp_of e196 c196_118 (rw_iconst (pc' := 119) rfl ?_)
                          refine wp_of e196 c196_119 (rw_istore_n (pc' := 120) (z := 0) (L' := [(3, vI 0), (4, vI v1697), (2, vI z1181), (1, vI z1140), (0, .ref r0)]) rfl rfl rfl ?_)
                          refine wp_of e196 c196_120 (rw_iinc (pc' := 123) (z := v1697) (L' := [(4, vI (v1697 + 1)), (3, vI 0), (2, vI z1181), (1, vI z1140), (0, .ref r0)]) rfl rfl rfl rfl ?_)
                          refine wp_of e196 c196_123 (rw_goto (p1 := 42) (by decide) ?_)
                          exact wp_lc (ks := [4, 3, 2, 1, 0]) (wl_c rfl (wl_c rfl (wl_c rfl (wl_c rfl (wl_c rfl wl_n))))) rfl (by decide) (ih1696 _ (by omega) (v1697 + 1) 0 ⟨by omega, by omega⟩ ⟨by omega, by omega⟩ rfl)
                        · refine wp_of e196 c196_114 (rw_iconst (pc' := 115) rfl ?_)
                          refine wp_of e196 c196_115 (rw_goto (p1 := 119) (by decide) ?_)
                          refine wp_of e196 c196_119 (rw_istore_n (pc' := 120) (z := 1) (L' := [(3, vI 1), (4, vI v1697), (2, vI z1181), (1, vI z1140), (0, .ref r0)]) rfl rfl rfl ?_)
                          refine wp_of e196 c196_120 (rw_iinc (pc' := 123) (z := v1697) (L' := [(4, vI (v1697 + 1)), (3, vI 1), (2, vI z1181), (1, vI z1140), (0, .ref r0)]) rfl rfl rfl rfl ?_)
                          refine wp_of e196 c196_123 (rw_goto (p1 := 42) (by decide) ?_)
                          exact wp_lc (ks := [4, 3, 2, 1, 0]) (wl_c rfl (wl_c rfl (wl_c rfl (wl_c rfl (wl_c rfl wl_n))))) rfl (by decide) (ih1696 _ (by omega) (v1697 + 1) 1 ⟨by omega, by omega⟩ ⟨by omega, by omega⟩ rfl)
                    · refine wp_of e196 c196_72 (rw_aload_n (pc' := 73) (v := .ref r0) rfl rfl rfl ?_)
                      refine wp_of e196 c196_73 (xg_K (pc' := 76) lf_9_166 w1179 g0 sh_42 (by decide) (by decide) rfl q1705 rfl ?_)
                      refine wp_of e196 c196_76 (xg_R (pc' := 79) lf_9_285 w1179 grp sh_54 (by decide) (by decide) ty_54_19 rfl rfl (fun r1767 q1768 g1769 => ?_))
                      refine wp_of e196 c196_79 (rw_iload (pc' := 81) (z := v1697) rfl rfl ?_)
                      refine wp_of e196 c196_81 (xa_I (so := 0) (pc' := 82) w1179 g1769 sh_65 (by decide) (ty_65 _) (by omega) (by omega) rfl (fun b1770 b1771 => ?_))
                      have h1772 : MA19 T H1175 rp (d 11) := (MA19_fr w1161 grp f1180 rfl (MA19_fr w1138 grp f1162 rfl (MA19_fr w1118 grp f1139 rfl (MA19_fr hW grp f1119 rfl h1103))))
                      have := MA_at h1772 q1768 (k := (v1697.toNat)) (by omega)
                      refine wp_of e196 c196_82 (rw_iload_n (pc' := 83) (z := z1181) rfl rfl ?_)
                      refine wp_of e196 c196_83 (rw_icmp_eq (p1 := 114) (p2 := 86) (by decide) rfl ⟨by omega, by omega⟩ ⟨by omega, by omega⟩ (fun c1773 => ?_) (fun c1773 => ?_))
                      · refine wp_of e196 c196_114 (rw_iconst (pc' := 115) rfl ?_)
                        refine wp_of e196 c196_115 (rw_goto (p1 := 119) (by decide) ?_)
                        refine wp_of e196 c196_119 (rw_istore_n (pc' := 120) (z := 1) (L' := [(3, vI 1), (4, vI v1697), (2, vI z1181), (1, vI z1140), (0, .ref r0)]) rfl rfl rfl ?_)
                        refine wp_of e196 c196_120 (rw_iinc (pc' := 123) (z := v1697) (L' := [(4, vI (v1697 + 1)), (3, vI 1), (2, vI z1181), (1, vI z1140), (0, .ref r0)]) rfl rfl rfl rfl ?_)
                        refine wp_of e196 c196_123 (rw_goto (p1 := 42) (by decide) ?_)
                        exact wp_lc (ks := [4, 3, 2, 1, 0]) (wl_c rfl (wl_c rfl (wl_c rfl (wl_c rfl (wl_c rfl wl_n))))) rfl (by decide) (ih1696 _ (by omega) (v1697 + 1) 1 ⟨by omega, by omega⟩ ⟨by omega, by omega⟩ rfl)
                      · refine wp_of e196 c196_86 (rw_aload_n (pc' := 87) (v := .ref r0) rfl rfl rfl ?_)
                        refine wp_of e196 c196_87 (xg_K (pc' := 90) lf_9_166 w1179 g0 sh_42 (by decide) (by decide) rfl q1705 rfl ?_)
                        refine wp_of e196 c196_90 (xg_K (pc' := 93) lf_9_282 w1179 grp sh_54 (by decide) (by decide) rfl q1751 rfl ?_)
                        refine wp_of e196 c196_93 (rw_iload (pc' := 95) (z := v1697) rfl rfl ?_)
                        refine wp_of e196 c196_95 (xa_I (so := 0) (pc' := 96) w1179 g1752 sh_64 (by decide) (ty_64 _) (by omega) (by omega) rfl (fun b1774 b1775 => ?_))
                        have := MA_at h1755 q1751 (k := (v1697.toNat)) (by omega)
                        refine wp_of e196 c196_96 (rw_iload_n (pc' := 97) (z := z1181) rfl rfl ?_)
                        refine wp_of e196 c196_97 (rw_icmp_ne (p1 := 118) (p2 := 100) (by decide) rfl ⟨by omega, by omega⟩ ⟨by omega, by omega⟩ (fun c1776 => ?_) (fun c1776 => ?_))
                        · refine wp_of e196 c196_118 (rw_iconst (pc' := 119) rfl ?_)
                          refine wp_of e196 c196_119 (rw_istore_n (pc' := 120) (z := 0) (L' := [(3, vI 0), (4, vI v1697), (2, vI z1181), (1, vI z1140), (0, .ref r0)]) rfl rfl rfl ?_)
                          refine wp_of e196 c196_120 (rw_iinc (pc' := 123) (z := v1697) (L' := [(4, vI (v1697 + 1)), (3, vI 0), (2, vI z1181), (1, vI z1140), (0, .ref r0)]) rfl rfl rfl rfl ?_)
                          refine wp_of e196 c196_123 (rw_goto (p1 := 42) (by decide) ?_)
                          exact wp_lc (ks := [4, 3, 2, 1, 0]) (wl_c rfl (wl_c rfl (wl_c rfl (wl_c rfl (wl_c rfl wl_n))))) rfl (by decide) (ih1696 _ (by omega) (v1697 + 1) 0 ⟨by omega, by omega⟩ ⟨by omega, by omega⟩ rfl)
                        · exfalso
                          omega
            exact wp_lc (ks := [4, 3, 2, 1, 0]) (wl_c rfl (wl_c rfl (wl_c rfl (wl_c rfl (wl_c rfl wl_n))))) rfl (by decide) (lp1694 _ 0 0 ⟨by omega, by omega⟩ ⟨by omega, by omega⟩ rfl)
          · refine wp_of e196 c196_33 (rw_iconst (pc' := 34) rfl ?_)
            refine wp_of e196 c196_34 (rw_goto (p1 := 38) (by decide) ?_)
            refine wp_of e196 c196_38 (rw_istore_n (pc' := 39) (z := 1) (L' := [(3, vI 1), (2, vI z1181), (1, vI z1140), (0, .ref r0)]) rfl rfl rfl ?_)
            refine wp_of e196 c196_39 (rw_iconst (pc' := 40) rfl ?_)
            refine wp_of e196 c196_40 (rw_istore (pc' := 42) (z := 0) (L' := [(4, vI 0), (3, vI 1), (2, vI z1181), (1, vI z1140), (0, .ref r0)]) rfl rfl rfl ?_)
            have lp1805 : ∀ (n1806 : Nat) (v1808 : Int) (v1809 : Int), (0 ≤ v1808 ∧ v1808 ≤ 3) → (1 ≤ v1809 ∧ v1809 ≤ 1) → (3 - v1808).toNat = n1806 → wp kt 5 196 42 [(4, vI v1808), (3, vI v1809), (2, vI z1181), (1, vI z1140), (0, .ref r0)] [] T H1175 (uq_196_k r0 rp rb B n q d T H) := by
              intro n1806
              induction n1806 using Nat.strongRecOn with
              | _ n1806 ih1807 =>
                intro v1808 v1809 b1812 b1813 m1814
                refine wp_of e196 c196_42 (rw_iload (pc' := 44) (z := v1808) rfl rfl ?_)
                refine wp_of e196 c196_44 (rw_aload_n (pc' := 45) (v := .ref r0) rfl rfl rfl ?_)
                have k1815 : H1175 r0 4 = H1157 r0 4 := (f1180 r0 4 _ g0 rfl)
                have q1816 : H1175 r0 4 = (rp : Int) := k1815.trans q1171
                refine wp_of e196 c196_45 (xg_K (pc' := 48) lf_9_166 w1179 g0 sh_42 (by decide) (by decide) rfl q1816 rfl ?_)
                have k1817 : H1175 rp 4 = H rp 4 := ((f1180 rp 4 _ grp rfl).trans ((f1162 rp 4 _ grp rfl).trans ((f1139 rp 4 _ grp rfl).trans (f1119 rp 4 _ grp rfl))))
                refine wp_of e196 c196_48 (xg_I (pc' := 51) lf_9_276 w1179 grp sh_54 (by decide) (by decide) ty_54_4 rfl rfl (fun b1818 b1819 => ?_))
                refine wp_of e196 c196_51 (rw_icmp_ge (p1 := 126) (p2 := 54) (by decide) rfl ⟨by omega, by omega⟩ ⟨by omega, by omega⟩ (fun c1820 => ?_) (fun c1820 => ?_))
                · refine wp_of e196 c196_126 (rw_iload_n (pc' := 127) (z := v1809) rfl rfl ?_)
                  refine wp_of e196 c196_127 (rw_if_eq (p1 := 135) (p2 := 130) (by decide) rfl ⟨by omega, by omega⟩ (fun c1821 => ?_) (fun c1821 => ?_))
                  · exfalso
                    omega
                  · refine wp_of e196 c196_130 (rw_aload_n (pc' := 131) (v := .ref r0) rfl rfl rfl ?_)
                    refine wp_of e196 c196_131 (rw_iconst (pc' := 132) rfl ?_)
                    refine wp_of e196 c196_132 (xc_V (pc' := 135) (r := r0) (as := [vI 3]) (st := []) (lm_9_121) rfl rfl (Nat.le_of_ble_eq_true rfl) w1179 g0 sh_42 (by decide) rfl (by decide) (u_181_o (fo := (xkn B n ((xN B n ((xN B n ((xN B n q)))))) d)) (po := (((xN B n ((xN B n ((xN B n q)))))))) w1179 g0 ⟨by omega, by omega⟩ a1192) (fun R1822 T1823 H1824 p1825 => ?_))
                    obtain ⟨e1826, e1828, e1827, p1829⟩ := p1825
                    subst e1826
                    subst e1827
                    subst e1828
                    show wp _ _ 196 135 [(4, vI v1808), (3, vI v1809), (2, vI z1181), (1, vI z1140), (0, .ref r0)] [] _ H1175 _
                    have u1831 := RO_k p1829
                    refine wp_of e196 c196_135 (rw_aload_n (pc' := 136) (v := .ref r0) rfl rfl rfl ?_)
                    refine wp_of e196 c196_136 (xc_V (pc' := 139) (r := r0) (as := []) (st := []) (lm_9_118) rfl rfl (Nat.le_of_ble_eq_true rfl) w1179 g0 sh_42 (by decide) rfl (by decide) (u_172_o (fo := (xkn B n ((xN B n ((xN B n ((xN B n q)))))) d)) (po := (((xN B n ((xN B n ((xN B n q)))))))) w1179 g0 p1829) (fun R1832 T1833 H1834 p1835 => ?_))
                    obtain ⟨e1836, e1838, e1837, p1839⟩ := p1835
                    subst e1836
                    subst e1837
                    subst e1838
                    show wp _ _ 196 139 [(4, vI v1808), (3, vI v1809), (2, vI z1181), (1, vI z1140), (0, .ref r0)] [] _ H1175 _
                    have u1841 := RO_k p1839
                    refine wp_of e196 c196_139 (rw_aload_n (pc' := 140) (v := .ref r0) rfl rfl rfl ?_)
                    refine wp_of e196 c196_140 (xg_I (pc' := 143) lf_9_75 w1179 g0 sh_42 (by decide) (by decide) ty_42_9 rfl rfl (fun b1842 b1843 => ?_))
                    refine wp_of e196 c196_143 (rw_iconst (pc' := 144) rfl ?_)
                    refine wp_of e196 c196_144 (rw_icmp_ne (p1 := 148) (p2 := 147) (by decide) rfl ⟨by omega, by omega⟩ ⟨by omega, by omega⟩ (fun c1844 => ?_) (fun c1844 => ?_))
                    · exfalso
                      omega
                    · have o1845 : (xl3 B n q d) = (xkn B n ((xN B n ((xN B n ((xN B n q)))))) d, ((xN B n ((xN B n ((xN B n q)))))), ((xN B n ((xN B n ((xN B n q))))))) := by
                        unfold xl3 xap
                        repeat first | rw [xs_0 (by omega)] | rw [xs_1 (by omega)] | rw [if_pos (by omega)] | rw [if_neg (by omega)]
                        first | done | rfl | assumption | (exfalso; omega) | (refine Prod.ext ?_ (Prod.ext ?_ ?_) <;> (try dsimp only) <;> omega)
                      have o1845a : ((xl3 B n q d)).1 = xkn B n ((xN B n ((xN B n ((xN B n q)))))) d := by rw [o1845]
                      have o1845b : ((xl3 B n q d)).2.1 = ((xN B n ((xN B n ((xN B n q)))))) := by rw [o1845]
                      have o1845c : ((xl3 B n q d)).2.2 = ((xN B n ((xN B n ((xN B n q)))))) := by rw [o1845]
                      exact wp_return e196 c196_147 rfl ⟨rfl, w1179, f1567, rfl, (Or.inr ⟨by omega, RO_eq p1839 (by omega) (by omega)⟩)⟩
                · refine wp_of e196 c196_54 (rw_iload_n (pc' := 55) (z := v1809) rfl rfl ?_)
                  refine wp_of e196 c196_55 (rw_if_ne (p1 := 114) (p2 := 58) (by decide) rfl ⟨by omega, by omega⟩ (fun c1846 => ?_) (fun c1846 => ?_))
                  · refine wp_of e196 c196_114 (rw_iconst (pc' := 115) rfl ?_)
                    refine wp_of e196 c196_115 (rw_goto (p1 := 119) (by decide) ?_)
                    refine wp_of e196 c196_119 (rw_istore_n (pc' := 120) (z := 1) (L' := [(3, vI 1), (4, vI v1808), (2, vI z1181), (1, vI z1140), (0, .ref r0)]) rfl rfl rfl ?_)
                    refine wp_of e196 c196_120 (rw_iinc (pc' := 123) (z := v1808) (L' := [(4, vI (v1808 + 1)), (3, vI 1), (2, vI z1181), (1, vI z1140), (0, .ref r0)]) rfl rfl rfl rfl ?_)
                    refine wp_of e196 c196_123 (rw_goto (p1 := 42) (by decide) ?_)
                    exact wp_lc (ks := [4, 3, 2, 1, 0]) (wl_c rfl (wl_c rfl (wl_c rfl (wl_c rfl (wl_c rfl wl_n))))) rfl (by decide) (ih1807 _ (by omega) (v1808 + 1) 1 ⟨by omega, by omega⟩ ⟨by omega, by omega⟩ rfl)
                  · exfalso
                    omega
            exact wp_lc (ks := [4, 3, 2, 1, 0]) (wl_c rfl (wl_c rfl (wl_c rfl (wl_c rfl (wl_c rfl wl_n))))) rfl (by decide) (lp1805 _ 0 1 ⟨by omega, by omega⟩ ⟨by omega, by omega⟩ rfl)
      · have f1847 := f1151.tr f1162 rfl
        show wp _ _ 196 23 [(1, vI z1140), (0, .ref r0)] [] _ H1157 _
        have u1848 := RO_k a1167
        refine wp_of e196 c196_23 (rw_aload_n (pc' := 24) (v := .ref r0) rfl rfl rfl ?_)
        have k1849 : H1157 r0 4 = H1114 r0 4 := ((f1162 r0 4 _ g0 rfl).trans (f1139 r0 4 _ g0 rfl))
        have q1850 : H1157 r0 4 = (rp : Int) := k1849.trans q1128
        refine wp_of e196 c196_24 (xc_V (pc' := 27) (r := r0) (as := []) (st := []) (lm_9_176) rfl rfl (Nat.le_of_ble_eq_true rfl) w1161 g0 sh_42 (by decide) rfl (by decide) (u_195_o (fo := (xk B n ((xN B n ((xN B n q)))) 4)) (po := (((xN B n ((xN B n q)))))) w1161 g0 q1850 grp a1167) (fun R1851 T1852 H1853 p1854 => ?_))
        obtain ⟨e1855, e1857, z1858, e1856, b1859, p1860⟩ := p1854
        subst e1855
        subst e1856
        subst e1857
        obtain ⟨a1861, a1862⟩ := p1860
        show wp _ _ 196 27 [(1, vI z1140), (0, .ref r0)] [vI z1858] _ H1157 _
        have u1863 := RO_k a1862
        refine wp_of e196 c196_27 (rw_istore_n (pc' := 28) (z := z1858) (L' := [(2, vI z1858), (1, vI z1140), (0, .ref r0)]) rfl rfl rfl ?_)
        refine wp_of e196 c196_28 (rw_iload_n (pc' := 29) (z := z1140) rfl rfl ?_)
        refine wp_of e196 c196_29 (rw_iload_n (pc' := 30) (z := z1858) rfl rfl ?_)
        refine wp_of e196 c196_30 (rw_icmp_ne (p1 := 37) (p2 := 33) (by decide) rfl ⟨by omega, by omega⟩ ⟨by omega, by omega⟩ (fun c1864 => ?_) (fun c1864 => ?_))
        · refine wp_of e196 c196_37 (rw_iconst (pc' := 38) rfl ?_)
          refine wp_of e196 c196_38 (rw_istore_n (pc' := 39) (z := 0) (L' := [(3, vI 0), (2, vI z1858), (1, vI z1140), (0, .ref r0)]) rfl rfl rfl ?_)
          refine wp_of e196 c196_39 (rw_iconst (pc' := 40) rfl ?_)
          refine wp_of e196 c196_40 (rw_istore (pc' := 42) (z := 0) (L' := [(4, vI 0), (3, vI 0), (2, vI z1858), (1, vI z1140), (0, .ref r0)]) rfl rfl rfl ?_)
          have lp1989 : ∀ (n1990 : Nat) (v1992 : Int) (v1993 : Int), (0 ≤ v1992 ∧ v1992 ≤ 3) → (0 ≤ v1993 ∧ v1993 ≤ 1) → (3 - v1992).toNat = n1990 → wp kt 5 196 42 [(4, vI v1992), (3, vI v1993), (2, vI z1858), (1, vI z1140), (0, .ref r0)] [] T H1157 (uq_196_k r0 rp rb B n q d T H) := by
            intro n1990
            induction n1990 using Nat.strongRecOn with
            | _ n1990 ih1991 =>
              intro v1992 v1993 b1996 b1997 m1998
              refine wp_of e196 c196_42 (rw_iload (pc' := 44) (z := v1992) rfl rfl ?_)
              refine wp_of e196 c196_44 (rw_aload_n (pc' := 45) (v := .ref r0) rfl rfl rfl ?_)
              refine wp_of e196 c196_45 (xg_K (pc' := 48) lf_9_166 w1161 g0 sh_42 (by decide) (by decide) rfl q1850 rfl ?_)
              have k1999 : H1157 rp 4 = H rp 4 := ((f1162 rp 4 _ grp rfl).trans ((f1139 rp 4 _ grp rfl).trans (f1119 rp 4 _ grp rfl)))
              refine wp_of e196 c196_48 (xg_I (pc' := 51) lf_9_276 w1161 grp sh_54 (by decide) (by decide) ty_54_4 rfl rfl (fun b2000 b2001 => ?_))
              refine wp_of e196 c196_51 (rw_icmp_ge (p1 := 126) (p2 := 54) (by decide) rfl ⟨by omega, by omega⟩ ⟨by omega, by omega⟩ (fun c2002 => ?_) (fun c2002 => ?_))
              · refine wp_of e196 c196_126 (rw_iload_n (pc' := 127) (z := v1993) rfl rfl ?_)
                refine wp_of e196 c196_127 (rw_if_eq (p1 := 135) (p2 := 130) (by decide) rfl ⟨by omega, by omega⟩ (fun c2003 => ?_) (fun c2003 => ?_))
                · refine wp_of e196 c196_135 (rw_aload_n (pc' := 136) (v := .ref r0) rfl rfl rfl ?_)
                  refine wp_of e196 c196_136 (xc_V (pc' := 139) (r := r0) (as := []) (st := []) (lm_9_118) rfl rfl (Nat.le_of_ble_eq_true rfl) w1161 g0 sh_42 (by decide) rfl (by decide) (u_172_o (fo := (xk B n ((xN B n ((xN B n q)))) 4)) (po := (((xN B n ((xN B n q)))))) w1161 g0 a1862) (fun R2004 T2005 H2006 p2007 => ?_))
                  obtain ⟨e2008, e2010, e2009, p2011⟩ := p2007
                  subst e2008
                  subst e2009
                  subst e2010
                  show wp _ _ 196 139 [(4, vI v1992), (3, vI v1993), (2, vI z1858), (1, vI z1140), (0, .ref r0)] [] _ H1157 _
                  have u2013 := RO_k p2011
                  refine wp_of e196 c196_139 (rw_aload_n (pc' := 140) (v := .ref r0) rfl rfl rfl ?_)
                  refine wp_of e196 c196_140 (xg_I (pc' := 143) lf_9_75 w1161 g0 sh_42 (by decide) (by decide) ty_42_9 rfl rfl (fun b2014 b2015 => ?_))
                  refine wp_of e196 c196_143 (rw_iconst (pc' := 144) rfl ?_)
                  refine wp_of e196 c196_144 (rw_icmp_ne (p1 := 148) (p2 := 147) (by decide) rfl ⟨by omega, by omega⟩ ⟨by omega, by omega⟩ (fun c2016 => ?_) (fun c2016 => ?_))
                  · exfalso
                    omega
                  · have o2017 : (xl3 B n q d) = (xk B n ((xN B n ((xN B n q)))) 4, ((xN B n ((xN B n q)))), ((xN B n ((xN B n q))))) := by
                      unfold xl3 xap
                      repeat first | rw [xs_0 (by omega)] | rw [xs_1 (by omega)] | rw [if_pos (by omega)] | rw [if_neg (by omega)]
                      first | done | rfl | assumption | (exfalso; omega) | (refine Prod.ext ?_ (Prod.ext ?_ ?_) <;> (try dsimp only) <;> omega)
                    have o2017a : ((xl3 B n q d)).1 = xk B n ((xN B n ((xN B n q)))) 4 := by rw [o2017]
                    have o2017b : ((xl3 B n q d)).2.1 = ((xN B n ((xN B n q)))) := by rw [o2017]
                    have o2017c : ((xl3 B n q d)).2.2 = ((xN B n ((xN B n q)))) := by rw [o2017]
                    exact wp_return e196 c196_147 rfl ⟨rfl, w1161, f1847, rfl, (Or.inr ⟨by omega, RO_eq p2011 (by omega) (by omega)⟩)⟩
                · refine wp_of e196 c196_130 (rw_aload_n (pc' := 131) (v := .ref r0) rfl rfl rfl ?_)
                  refine wp_of e196 c196_131 (rw_iconst (pc' := 132) rfl ?_)
                  refine wp_of e196 c196_132 (xc_V (pc' := 135) (r := r0) (as := [vI 3]) (st := []) (lm_9_121) rfl rfl (Nat.le_of_ble_eq_true rfl) w1161 g0 sh_42 (by decide) rfl (by decide) (u_181_o (fo := (xk B n ((xN B n ((xN B n q)))) 4)) (po := (((xN B n ((xN B n q)))))) w1161 g0 ⟨by omega, by omega⟩ a1862) (fun R2018 T2019 H2020 p2021 => ?_))
                  obtain ⟨e2022, e2024, e2023, p2025⟩ := p2021
                  subst e2022
                  subst e2023
                  subst e2024
                  show wp _ _ 196 135 [(4, vI v1992), (3, vI v1993), (2, vI z1858), (1, vI z1140), (0, .ref r0)] [] _ H1157 _
                  have u2027 := RO_k p2025
                  refine wp_of e196 c196_135 (rw_aload_n (pc' := 136) (v := .ref r0) rfl rfl rfl ?_)
                  refine wp_of e196 c196_136 (xc_V (pc' := 139) (r := r0) (as := []) (st := []) (lm_9_118) rfl rfl (Nat.le_of_ble_eq_true rfl) w1161 g0 sh_42 (by decide) rfl (by decide) (u_172_o (fo := (xk B n ((xN B n ((xN B n q)))) 4)) (po := (((xN B n ((xN B n q)))))) w1161 g0 p2025) (fun R2028 T2029 H2030 p2031 => ?_))
                  obtain ⟨e2032, e2034, e2033, p2035⟩ := p2031
                  subst e2032
                  subst e2033
                  subst e2034
                  show wp _ _ 196 139 [(4, vI v1992), (3, vI v1993), (2, vI z1858), (1, vI z1140), (0, .ref r0)] [] _ H1157 _
                  have u2037 := RO_k p2035
                  refine wp_of e196 c196_139 (rw_aload_n (pc' := 140) (v := .ref r0) rfl rfl rfl ?_)
                  refine wp_of e196 c196_140 (xg_I (pc' := 143) lf_9_75 w1161 g0 sh_42 (by decide) (by decide) ty_42_9 rfl rfl (fun b2038 b2039 => ?_))
                  refine wp_of e196 c196_143 (rw_iconst (pc' := 144) rfl ?_)
                  refine wp_of e196 c196_144 (rw_icmp_ne (p1 := 148) (p2 := 147) (by decide) rfl ⟨by omega, by omega⟩ ⟨by omega, by omega⟩ (fun c2040 => ?_) (fun c2040 => ?_))
                  · exfalso
                    omega
                  · have o2041 : (xl3 B n q d) = (xk B n ((xN B n ((xN B n q)))) 4, ((xN B n ((xN B n q)))), ((xN B n ((xN B n q))))) := by
                      unfold xl3 xap
                      repeat first | rw [xs_0 (by omega)] | rw [xs_1 (by omega)] | rw [if_pos (by omega)] | rw [if_neg (by omega)]
                      first | done | rfl | assumption | (exfalso; omega) | (refine Prod.ext ?_ (Prod.ext ?_ ?_) <;> (try dsimp only) <;> omega)
                    have o2041a : ((xl3 B n q d)).1 = xk B n ((xN B n ((xN B n q)))) 4 := by rw [o2041]
                    have o2041b : ((xl3 B n q d)).2.1 = ((xN B n ((xN B n q)))) := by rw [o2041]
                    have o2041c : ((xl3 B n q d)).2.2 = ((xN B n ((xN B n q)))) := by rw [o2041]
                    exact wp_return e196 c196_147 rfl ⟨rfl, w1161, f1847, rfl, (Or.inr ⟨by omega, RO_eq p2035 (by omega) (by omega)⟩)⟩
              · refine wp_of e196 c196_54 (rw_iload_n (pc' := 55) (z := v1993) rfl rfl ?_)
                refine wp_of e196 c196_55 (rw_if_ne (p1 := 114) (p2 := 58) (by decide) rfl ⟨by omega, by omega⟩ (fun c2042 => ?_) (fun c2042 => ?_))
                · refine wp_of e196 c196_114 (rw_iconst (pc' := 115) rfl ?_)
                  refine wp_of e196 c196_115 (rw_goto (p1 := 119) (by decide) ?_)
                  refine wp_of e196 c196_119 (rw_istore_n (pc' := 120) (z := 1) (L' := [(3, vI 1), (4, vI v1992), (2, vI z1858), (1, vI z1140), (0, .ref r0)]) rfl rfl rfl ?_)
                  refine wp_of e196 c196_120 (rw_iinc (pc' := 123) (z := v1992) (L' := [(4, vI (v1992 + 1)), (3, vI 1), (2, vI z1858), (1, vI z1140), (0, .ref r0)]) rfl rfl rfl rfl ?_)
                  refine wp_of e196 c196_123 (rw_goto (p1 := 42) (by decide) ?_)
                  exact wp_lc (ks := [4, 3, 2, 1, 0]) (wl_c rfl (wl_c rfl (wl_c rfl (wl_c rfl (wl_c rfl wl_n))))) rfl (by decide) (ih1991 _ (by omega) (v1992 + 1) 1 ⟨by omega, by omega⟩ ⟨by omega, by omega⟩ rfl)
                · refine wp_of e196 c196_58 (rw_aload_n (pc' := 59) (v := .ref r0) rfl rfl rfl ?_)
                  refine wp_of e196 c196_59 (xg_K (pc' := 62) lf_9_166 w1161 g0 sh_42 (by decide) (by decide) rfl q1850 rfl ?_)
                  refine wp_of e196 c196_62 (xg_R (pc' := 65) lf_9_282 w1161 grp sh_54 (by decide) (by decide) ty_54_18 rfl rfl (fun r2043 q2044 g2045 => ?_))
                  refine wp_of e196 c196_65 (rw_iload (pc' := 67) (z := v1992) rfl rfl ?_)
                  refine wp_of e196 c196_67 (xa_I (so := 0) (pc' := 68) w1161 g2045 sh_64 (by decide) (ty_64 _) (by omega) (by omega) rfl (fun b2046 b2047 => ?_))
                  have h2048 : MA18 T H1157 rp (d 10) := (MA18_fr w1138 grp f1162 rfl (MA18_fr w1118 grp f1139 rfl (MA18_fr hW grp f1119 rfl h1102)))
                  have := MA_at h2048 q2044 (k := (v1992.toNat)) (by omega)
                  refine wp_of e196 c196_68 (rw_iload_n (pc' := 69) (z := z1140) rfl rfl ?_)
                  refine wp_of e196 c196_69 (rw_icmp_ne (p1 := 86) (p2 := 72) (by decide) rfl ⟨by omega, by omega⟩ ⟨by omega, by omega⟩ (fun c2049 => ?_) (fun c2049 => ?_))
                  · refine wp_of e196 c196_86 (rw_aload_n (pc' := 87) (v := .ref r0) rfl rfl rfl ?_)
                    refine wp_of e196 c196_87 (xg_K (pc' := 90) lf_9_166 w1161 g0 sh_42 (by decide) (by decide) rfl q1850 rfl ?_)
                    refine wp_of e196 c196_90 (xg_K (pc' := 93) lf_9_282 w1161 grp sh_54 (by decide) (by decide) rfl q2044 rfl ?_)
                    refine wp_of e196 c196_93 (rw_iload (pc' := 95) (z := v1992) rfl rfl ?_)
                    refine wp_of e196 c196_95 (xa_I (so := 0) (pc' := 96) w1161 g2045 sh_64 (by decide) (ty_64 _) (by omega) (by omega) rfl (fun b2050 b2051 => ?_))
                    have := MA_at h2048 q2044 (k := (v1992.toNat)) (by omega)
                    refine wp_of e196 c196_96 (rw_iload_n (pc' := 97) (z := z1858) rfl rfl ?_)
                    refine wp_of e196 c196_97 (rw_icmp_ne (p1 := 118) (p2 := 100) (by decide) rfl ⟨by omega, by omega⟩ ⟨by omega, by omega⟩ (fun c2052 => ?_) (fun c2052 => ?_))
                    · refine wp_of e196 c196_118 (rw_iconst (pc' := 119) rfl ?_)
                      refine wp_of e196 c196_119 (rw_istore_n (pc' := 120) (z := 0) (L' := [(3, vI 0), (4, vI v1992), (2, vI z1858), (1, vI z1140), (0, .ref r0)]) rfl rfl rfl ?_)
                      refine wp_of e196 c196_120 (rw_iinc (pc' := 123) (z := v1992) (L' := [(4, vI (v1992 + 1)), (3, vI 0), (2, vI z1858), (1, vI z1140), (0, .ref r0)]) rfl rfl rfl rfl ?_)
                      refine wp_of e196 c196_123 (rw_goto (p1 := 42) (by decide) ?_)
                      exact wp_lc (ks := [4, 3, 2, 1, 0]) (wl_c rfl (wl_c rfl (wl_c rfl (wl_c rfl (wl_c rfl wl_n))))) rfl (by decide) (ih1991 _ (by omega) (v1992 + 1) 0 ⟨by omega, by omega⟩ ⟨by omega, by omega⟩ rfl)
                    · refine wp_of e196 c196_100 (rw_aload_n (pc' := 101) (v := .ref r0) rfl rfl rfl ?_)
                      refine wp_of e196 c196_101 (xg_K (pc' := 104) lf_9_166 w1161 g0 sh_42 (by decide) (by decide) rfl q1850 rfl ?_)
                      refine wp_of e196 c196_104 (xg_R (pc' := 107) lf_9_285 w1161 grp sh_54 (by decide) (by decide) ty_54_19 rfl rfl (fun r2053 q2054 g2055 => ?_))
                      refine wp_of e196 c196_107 (rw_iload (pc' := 109) (z := v1992) rfl rfl ?_)
                      refine wp_of e196 c196_109 (xa_I (so := 0) (pc' := 110) w1161 g2055 sh_65 (by decide) (ty_65 _) (by omega) (by omega) rfl (fun b2056 b2057 => ?_))
                      have h2058 : MA19 T H1157 rp (d 11) := (MA19_fr w1138 grp f1162 rfl (MA19_fr w1118 grp f1139 rfl (MA19_fr hW grp f1119 rfl h1103)))
                      have := MA_at h2058 q2054 (k := (v1992.toNat)) (by omega)
                      refine wp_of e196 c196_110 (rw_iload_n (pc' := 111) (z := z1140) rfl rfl ?_)
                      refine wp_of e196 c196_111 (rw_icmp_ne (p1 := 118) (p2 := 114) (by decide) rfl ⟨by omega, by omega⟩ ⟨by omega, by omega⟩ (fun c2059 => ?_) (fun c2059 => ?_))
                      · refine wp_of e196 c196_118 (rw_iconst (pc' := 119) rfl ?_)
                        refine wp_of e196 c196_119 (rw_istore_n (pc' := 120) (z := 0) (L' := [(3, vI 0), (4, vI v1992), (2, vI z1858), (1, vI z1140), (0, .ref r0)]) rfl rfl rfl ?_)
                        refine wp_of e196 c196_120 (rw_iinc (pc' := 123) (z := v1992) (L' := [(4, vI (v1992 + 1)), (3, vI 0), (2, vI z1858), (1, vI z1140), (0, .ref r0)]) rfl rfl rfl rfl ?_)
                        refine wp_of e196 c196_123 (rw_goto (p1 := 42) (by decide) ?_)
                        exact wp_lc (ks := [4, 3, 2, 1, 0]) (wl_c rfl (wl_c rfl (wl_c rfl (wl_c rfl (wl_c rfl wl_n))))) rfl (by decide) (ih1991 _ (by omega) (v1992 + 1) 0 ⟨by omega, by omega⟩ ⟨by omega, by omega⟩ rfl)
                      · refine wp_of e196 c196_114 (rw_iconst (pc' := 115) rfl ?_)
                        refine wp_of e196 c196_115 (rw_goto (p1 := 119) (by decide) ?_)
                        refine wp_of e196 c196_119 (rw_istore_n (pc' := 120) (z := 1) (L' := [(3, vI 1), (4, vI v1992), (2, vI z1858), (1, vI z1140), (0, .ref r0)]) rfl rfl rfl ?_)
                        refine wp_of e196 c196_120 (rw_iinc (pc' := 123) (z := v1992) (L' := [(4, vI (v1992 + 1)), (3, vI 1), (2, vI z1858), (1, vI z1140), (0, .ref r0)]) rfl rfl rfl rfl ?_)
                        refine wp_of e196 c196_123 (rw_goto (p1 := 42) (by decide) ?_)
                        exact wp_lc (ks := [4, 3, 2, 1, 0]) (wl_c rfl (wl_c rfl (wl_c rfl (wl_c rfl (wl_c rfl wl_n))))) rfl (by decide) (ih1991 _ (by omega) (v1992 + 1) 1 ⟨by omega, by omega⟩ ⟨by omega, by omega⟩ rfl)
                  · refine wp_of e196 c196_72 (rw_aload_n (pc' := 73) (v := .ref r0) rfl rfl rfl ?_)
                    refine wp_of e196 c196_73 (xg_K (pc' := 76) lf_9_166 w1161 g0 sh_42 (by decide) (by decide) rfl q1850 rfl ?_)
                    refine wp_of e196 c196_76 (xg_R (pc' := 79) lf_9_285 w1161 grp sh_54 (by decide) (by decide) ty_54_19 rfl rfl (fun r2060 q2061 g2062 => ?_))
                    refine wp_of e196 c196_79 (rw_iload (pc' := 81) (z := v1992) rfl rfl ?_)
                    refine wp_of e196 c196_81 (xa_I (so := 0) (pc' := 82) w1161 g2062 sh_65 (by decide) (ty_65 _) (by omega) (by omega) rfl (fun b2063 b2064 => ?_))
                    have h2065 : MA19 T H1157 rp (d 11) := (MA19_fr w1138 grp f1162 rfl (MA19_fr w1118 grp f1139 rfl (MA19_fr hW grp f1119 rfl h1103)))
                    have := MA_at h2065 q2061 (k := (v1992.toNat)) (by omega)
                    refine wp_of e196 c196_82 (rw_iload_n (pc' := 83) (z := z1858) rfl rfl ?_)
                    refine wp_of e196 c196_83 (rw_icmp_eq (p1 := 114) (p2 := 86) (by decide) rfl ⟨by omega, by omega⟩ ⟨by omega, by omega⟩ (fun c2066 => ?_) (fun c2066 => ?_))
                    · refine wp_of e196 c196_114 (rw_iconst (pc' := 115) rfl ?_)
                      refine wp_of e196 c196_115 (rw_goto (p1 := 119) (by decide) ?_)
                      refine wp_of e196 c196_119 (rw_istore_n (pc' := 120) (z := 1) (L' := [(3, vI 1), (4, vI v1992), (2, vI z1858), (1, vI z1140), (0, .ref r0)]) rfl rfl rfl ?_)
                      refine wp_of e196 c196_120 (rw_iinc (pc' := 123) (z := v1992) (L' := [(4, vI (v1992 + 1)), (3, vI 1), (2, vI z1858), (1, vI z1140), (0, .ref r0)]) rfl rfl rfl rfl ?_)
                      refine wp_of e196 c196_123 (rw_goto (p1 := 42) (by decide) ?_)
                      exact wp_lc (ks := [4, 3, 2, 1, 0]) (wl_c rfl (wl_c rfl (wl_c rfl (wl_c rfl (wl_c rfl wl_n))))) rfl (by decide) (ih1991 _ (by omega) (v1992 + 1) 1 ⟨by omega, by omega⟩ ⟨by omega, by omega⟩ rfl)
                    · refine wp_of e196 c196_86 (rw_aload_n (pc' := 87) (v := .ref r0) rfl rfl rfl ?_)
                      refine wp_of e196 c196_87 (xg_K (pc' := 90) lf_9_166 w1161 g0 sh_42 (by decide) (by decide) rfl q1850 rfl ?_)
                      refine wp_of e196 c196_90 (xg_K (pc' := 93) lf_9_282 w1161 grp sh_54 (by decide) (by decide) rfl q2044 rfl ?_)
                      refine wp_of e196 c196_93 (rw_iload (pc' := 95) (z := v1992) rfl rfl ?_)
                      refine wp_of e196 c196_95 (xa_I (so := 0) (pc' := 96) w1161 g2045 sh_64 (by decide) (ty_64 _) (by omega) (by omega) rfl (fun b2067 b2068 => ?_))
                      have := MA_at h2048 q2044 (k := (v1992.toNat)) (by omega)
                      refine wp_of e196 c196_96 (rw_iload_n (pc' := 97) (z := z1858) rfl rfl ?_)
                      refine wp_of e196 c196_97 (rw_icmp_ne (p1 := 118) (p2 := 100) (by decide) rfl ⟨by omega, by omega⟩ ⟨by omega, by omega⟩ (fun c2069 => ?_) (fun c2069 => ?_))
                      · refine wp_of e196 c196_118 (rw_iconst (pc' := 119) rfl ?_)
                        refine wp_of e196 c196_119 (rw_istore_n (pc' := 120) (z := 0) (L' := [(3, vI 0), (4, vI v1992), (2, vI z1858), (1, vI z1140), (0, .ref r0)]) rfl rfl rfl ?_)
                        refine wp_of e196 c196_120 (rw_iinc (pc' := 123) (z := v1992) (L' := [(4, vI (v1992 + 1)), (3, vI 0), (2, vI z1858), (1, vI z1140), (0, .ref r0)]) rfl rfl rfl rfl ?_)
                        refine wp_of e196 c196_123 (rw_goto (p1 := 42) (by decide) ?_)
                        exact wp_lc (ks := [4, 3, 2, 1, 0]) (wl_c rfl (wl_c rfl (wl_c rfl (wl_c rfl (wl_c rfl wl_n))))) rfl (by decide) (ih1991 _ (by omega) (v1992 + 1) 0 ⟨by omega, by omega⟩ ⟨by omega, by omega⟩ rfl)
                      · exfalso
                        omega
          exact wp_lc (ks := [4, 3, 2, 1, 0]) (wl_c rfl (wl_c rfl (wl_c rfl (wl_c rfl (wl_c rfl wl_n))))) rfl (by decide) (lp1989 _ 0 0 ⟨by omega, by omega⟩ ⟨by omega, by omega⟩ rfl)
        · refine wp_of e196 c196_33 (rw_iconst (pc' := 34) rfl ?_)
          refine wp_of e196 c196_34 (rw_goto (p1 := 38) (by decide) ?_)
          refine wp_of e196 c196_38 (rw_istore_n (pc' := 39) (z := 1) (L' := [(3, vI 1), (2, vI z1858), (1, vI z1140), (0, .ref r0)]) rfl rfl rfl ?_)
          refine wp_of e196 c196_39 (rw_iconst (pc' := 40) rfl ?_)
          refine wp_of e196 c196_40 (rw_istore (pc' := 42) (z := 0) (L' := [(4, vI 0), (3, vI 1), (2, vI z1858), (1, vI z1140), (0, .ref r0)]) rfl rfl rfl ?_)
          have lp2098 : ∀ (n2099 : Nat) (v2101 : Int) (v2102 : Int), (0 ≤ v2101 ∧ v2101 ≤ 3) → (1 ≤ v2102 ∧ v2102 ≤ 1) → (3 - v2101).toNat = n2099 → wp kt 5 196 42 [(4, vI v2101), (3, vI v2102), (2, vI z1858), (1, vI z1140), (0, .ref r0)] [] T H1157 (uq_196_k r0 rp rb B n q d T H) := by
            intro n2099
            induction n2099 using Nat.strongRecOn with
            | _ n2099 ih2100 =>
              intro v2101 v2102 b2105 b2106 m2107
              refine wp_of e196 c196_42 (rw_iload (pc' := 44) (z := v2101) rfl rfl ?_)
              refine wp_of e196 c196_44 (rw_aload_n (pc' := 45) (v := .ref r0) rfl rfl rfl ?_)
              refine wp_of e196 c196_45 (xg_K (pc' := 48) lf_9_166 w1161 g0 sh_42 (by decide) (by decide) rfl q1850 rfl ?_)
              have k2108 : H1157 rp 4 = H rp 4 := ((f1162 rp 4 _ grp rfl).trans ((f1139 rp 4 _ grp rfl).trans (f1119 rp 4 _ grp rfl)))
              refine wp_of e196 c196_48 (xg_I (pc' := 51) lf_9_276 w1161 grp sh_54 (by decide) (by decide) ty_54_4 rfl rfl (fun b2109 b2110 => ?_))
              refine wp_of e196 c196_51 (rw_icmp_ge (p1 := 126) (p2 := 54) (by decide) rfl ⟨by omega, by omega⟩ ⟨by omega, by omega⟩ (fun c2111 => ?_) (fun c2111 => ?_))
              · refine wp_of e196 c196_126 (rw_iload_n (pc' := 127) (z := v2102) rfl rfl ?_)
                refine wp_of e196 c196_127 (rw_if_eq (p1 := 135) (p2 := 130) (by decide) rfl ⟨by omega, by omega⟩ (fun c2112 => ?_) (fun c2112 => ?_))
                · exfalso
                  omega
                · refine wp_of e196 c196_130 (rw_aload_n (pc' := 131) (v := .ref r0) rfl rfl rfl ?_)
                  refine wp_of e196 c196_131 (rw_iconst (pc' := 132) rfl ?_)
                  refine wp_of e196 c196_132 (xc_V (pc' := 135) (r := r0) (as := [vI 3]) (st := []) (lm_9_121) rfl rfl (Nat.le_of_ble_eq_true rfl) w1161 g0 sh_42 (by decide) rfl (by decide) (u_181_o (fo := (xk B n ((xN B n ((xN B n q)))) 4)) (po := (((xN B n ((xN B n q)))))) w1161 g0 ⟨by omega, by omega⟩ a1862) (fun R2113 T2114 H2115 p2116 => ?_))
                  obtain ⟨e2117, e2119, e2118, p2120⟩ := p2116
                  subst e2117
                  subst e2118
                  subst e2119
                  show wp _ _ 196 135 [(4, vI v2101), (3, vI v2102), (2, vI z1858), (1, vI z1140), (0, .ref r0)] [] _ H1157 _
                  have u2122 := RO_k p2120
                  refine wp_of e196 c196_135 (rw_aload_n (pc' := 136) (v := .ref r0) rfl rfl rfl ?_)
                  refine wp_of e196 c196_136 (xc_V (pc' := 139) (r := r0) (as := []) (st := []) (lm_9_118) rfl rfl (Nat.le_of_ble_eq_true rfl) w1161 g0 sh_42 (by decide) rfl (by decide) (u_172_o (fo := (xk B n ((xN B n ((xN B n q)))) 4)) (po := (((xN B n ((xN B n q)))))) w1161 g0 p2120) (fun R2123 T2124 H2125 p2126 => ?_))
                  obtain ⟨e2127, e2129, e2128, p2130⟩ := p2126
                  subst e2127
                  subst e2128
                  subst e2129
                  show wp _ _ 196 139 [(4, vI v2101), (3, vI v2102), (2, vI z1858), (1, vI z1140), (0, .ref r0)] [] _ H1157 _
                  have u2132 := RO_k p2130
                  refine wp_of e196 c196_139 (rw_aload_n (pc' := 140) (v := .ref r0) rfl rfl rfl ?_)
                  refine wp_of e196 c196_140 (xg_I (pc' := 143) lf_9_75 w1161 g0 sh_42 (by decide) (by decide) ty_42_9 rfl rfl (fun b2133 b2134 => ?_))
                  refine wp_of e196 c196_143 (rw_iconst (pc' := 144) rfl ?_)
                  refine wp_of e196 c196_144 (rw_icmp_ne (p1 := 148) (p2 := 147) (by decide) rfl ⟨by omega, by omega⟩ ⟨by omega, by omega⟩ (fun c2135 => ?_) (fun c2135 => ?_))
                  · exfalso
                    omega
                  · have o2136 : (xl3 B n q d) = (xk B n ((xN B n ((xN B n q)))) 4, ((xN B n ((xN B n q)))), ((xN B n ((xN B n q))))) := by
                      unfold xl3 xap
                      repeat first | rw [xs_0 (by omega)] | rw [xs_1 (by omega)] | rw [if_pos (by omega)] | rw [if_neg (by omega)]
                      first | done | rfl | assumption | (exfalso; omega) | (refine Prod.ext ?_ (Prod.ext ?_ ?_) <;> (try dsimp only) <;> omega)
                    have o2136a : ((xl3 B n q d)).1 = xk B n ((xN B n ((xN B n q)))) 4 := by rw [o2136]
                    have o2136b : ((xl3 B n q d)).2.1 = ((xN B n ((xN B n q)))) := by rw [o2136]
                    have o2136c : ((xl3 B n q d)).2.2 = ((xN B n ((xN B n q)))) := by rw [o2136]
                    exact wp_return e196 c196_147 rfl ⟨rfl, w1161, f1847, rfl, (Or.inr ⟨by omega, RO_eq p2130 (by omega) (by omega)⟩)⟩
              · refine wp_of e196 c196_54 (rw_iload_n (pc' := 55) (z := v2102) rfl rfl ?_)
                refine wp_of e196 c196_55 (rw_if_ne (p1 := 114) (p2 := 58) (by decide) rfl ⟨by omega, by omega⟩ (fun c2137 => ?_) (fun c2137 => ?_))
                · refine wp_of e196 c196_114 (rw_iconst (pc' := 115) rfl ?_)
                  refine wp_of e196 c196_115 (rw_goto (p1 := 119) (by decide) ?_)
                  refine wp_of e196 c196_119 (rw_istore_n (pc' := 120) (z := 1) (L' := [(3, vI 1), (4, vI v2101), (2, vI z1858), (1, vI z1140), (0, .ref r0)]) rfl rfl rfl ?_)
                  refine wp_of e196 c196_120 (rw_iinc (pc' := 123) (z := v2101) (L' := [(4, vI (v2101 + 1)), (3, vI 1), (2, vI z1858), (1, vI z1140), (0, .ref r0)]) rfl rfl rfl rfl ?_)
                  refine wp_of e196 c196_123 (rw_goto (p1 := 42) (by decide) ?_)
                  exact wp_lc (ks := [4, 3, 2, 1, 0]) (wl_c rfl (wl_c rfl (wl_c rfl (wl_c rfl (wl_c rfl wl_n))))) rfl (by decide) (ih2100 _ (by omega) (v2101 + 1) 1 ⟨by omega, by omega⟩ ⟨by omega, by omega⟩ rfl)
                · exfalso
                  omega
          exact wp_lc (ks := [4, 3, 2, 1, 0]) (wl_c rfl (wl_c rfl (wl_c rfl (wl_c rfl (wl_c rfl wl_n))))) rfl (by decide) (lp2098 _ 0 1 ⟨by omega, by omega⟩ ⟨by omega, by omega⟩ rfl)
    · have f2138 := f1125.tr f1139 rfl
      show wp _ _ 196 16 [(0, .ref r0)] [vI z1140] _ H1134 _
      have u2139 := RO_k a1150
      refine wp_of e196 c196_16 (rw_istore_n (pc' := 17) (z := z1140) (L' := [(1, vI z1140), (0, .ref r0)]) rfl rfl rfl ?_)
      refine wp_of e196 c196_17 (rw_aload_n (pc' := 18) (v := .ref r0) rfl rfl rfl ?_)
      refine wp_of e196 c196_18 (rw_bipush (pc' := 20) (z := 44) rfl (by decide) ?_)
      have k2140 : H1134 r0 5 = H1114 r0 5 := (f1139 r0 5 _ g0 rfl)
      have q2141 : H1134 r0 5 = (rb : Int) := k2140.trans q1130
      refine wp_of e196 c196_20 (xc_V (pc' := 23) (r := r0) (as := [vI 44]) (st := []) (lm_9_279) rfl rfl (Nat.le_of_ble_eq_true rfl) w1138 g0 sh_42 (by decide) rfl (by decide) (u_197_o (fo := (xkn B n ((xN B n q)) d)) (po := (((xN B n q)))) w1138 g0 ⟨by omega, by omega⟩ q2141 grb a1150) (fun R2142 T2143 H2144 p2145 => ?_))
      obtain ⟨e2146, e2148, e2147, p2149⟩ := p2145
      subst e2146
      subst e2147
      subst e2148
      show wp _ _ 196 23 [(1, vI z1140), (0, .ref r0)] [] _ H1134 _
      have u2151 := RO_k p2149
      refine wp_of e196 c196_23 (rw_aload_n (pc' := 24) (v := .ref r0) rfl rfl rfl ?_)
      have k2152 : H1134 r0 4 = H1114 r0 4 := (f1139 r0 4 _ g0 rfl)
      have q2153 : H1134 r0 4 = (rp : Int) := k2152.trans q1128
      refine wp_of e196 c196_24 (xc_V (pc' := 27) (r := r0) (as := []) (st := []) (lm_9_176) rfl rfl (Nat.le_of_ble_eq_true rfl) w1138 g0 sh_42 (by decide) rfl (by decide) (u_195_o (fo := (xkn B n ((xN B n q)) d)) (po := (((xN B n q)))) w1138 g0 q2153 grp p2149) (fun R2154 T2155 H2156 p2157 => ?_))
      obtain ⟨e2158, e2160, z2161, e2159, b2162, p2163⟩ := p2157
      subst e2158
      subst e2159
      subst e2160
      obtain ⟨a2164, a2165⟩ := p2163
      show wp _ _ 196 27 [(1, vI z1140), (0, .ref r0)] [vI z2161] _ H1134 _
      have u2166 := RO_k a2165
      refine wp_of e196 c196_27 (rw_istore_n (pc' := 28) (z := z2161) (L' := [(2, vI z2161), (1, vI z1140), (0, .ref r0)]) rfl rfl rfl ?_)
      refine wp_of e196 c196_28 (rw_iload_n (pc' := 29) (z := z1140) rfl rfl ?_)
      refine wp_of e196 c196_29 (rw_iload_n (pc' := 30) (z := z2161) rfl rfl ?_)
      refine wp_of e196 c196_30 (rw_icmp_ne (p1 := 37) (p2 := 33) (by decide) rfl ⟨by omega, by omega⟩ ⟨by omega, by omega⟩ (fun c2167 => ?_) (fun c2167 => ?_))
      · exfalso
        omega
      · refine wp_of e196 c196_33 (rw_iconst (pc' := 34) rfl ?_)
        refine wp_of e196 c196_34 (rw_goto (p1 := 38) (by decide) ?_)
        refine wp_of e196 c196_38 (rw_istore_n (pc' := 39) (z := 1) (L' := [(3, vI 1), (2, vI z2161), (1, vI z1140), (0, .ref r0)]) rfl rfl rfl ?_)
        refine wp_of e196 c196_39 (rw_iconst (pc' := 40) rfl ?_)
        refine wp_of e196 c196_40 (rw_istore (pc' := 42) (z := 0) (L' := [(4, vI 0), (3, vI 1), (2, vI z2161), (1, vI z1140), (0, .ref r0)]) rfl rfl rfl ?_)
        have lp2196 : ∀ (n2197 : Nat) (v2199 : Int) (v2200 : Int), (0 ≤ v2199 ∧ v2199 ≤ 3) → (1 ≤ v2200 ∧ v2200 ≤ 1) → (3 - v2199).toNat = n2197 → wp kt 5 196 42 [(4, vI v2199), (3, vI v2200), (2, vI z2161), (1, vI z1140), (0, .ref r0)] [] T H1134 (uq_196_k r0 rp rb B n q d T H) := by
          intro n2197
          induction n2197 using Nat.strongRecOn with
          | _ n2197 ih2198 =>
            intro v2199 v2200 b2203 b2204 m2205
            refine wp_of e196 c196_42 (rw_iload (pc' := 44) (z := v2199) rfl rfl ?_)
            refine wp_of e196 c196_44 (rw_aload_n (pc' := 45) (v := .ref r0) rfl rfl rfl ?_)
            refine wp_of e196 c196_45 (xg_K (pc' := 48) lf_9_166 w1138 g0 sh_42 (by decide) (by decide) rfl q2153 rfl ?_)
            have k2206 : H1134 rp 4 = H rp 4 := ((f1139 rp 4 _ grp rfl).trans (f1119 rp 4 _ grp rfl))
            refine wp_of e196 c196_48 (xg_I (pc' := 51) lf_9_276 w1138 grp sh_54 (by decide) (by decide) ty_54_4 rfl rfl (fun b2207 b2208 => ?_))
            refine wp_of e196 c196_51 (rw_icmp_ge (p1 := 126) (p2 := 54) (by decide) rfl ⟨by omega, by omega⟩ ⟨by omega, by omega⟩ (fun c2209 => ?_) (fun c2209 => ?_))
            · refine wp_of e196 c196_126 (rw_iload_n (pc' := 127) (z := v2200) rfl rfl ?_)
              refine wp_of e196 c196_127 (rw_if_eq (p1 := 135) (p2 := 130) (by decide) rfl ⟨by omega, by omega⟩ (fun c2210 => ?_) (fun c2210 => ?_))
              · exfalso
                omega
              · refine wp_of e196 c196_130 (rw_aload_n (pc' := 131) (v := .ref r0) rfl rfl rfl ?_)
                refine wp_of e196 c196_131 (rw_iconst (pc' := 132) rfl ?_)
                refine wp_of e196 c196_132 (xc_V (pc' := 135) (r := r0) (as := [vI 3]) (st := []) (lm_9_121) rfl rfl (Nat.le_of_ble_eq_true rfl) w1138 g0 sh_42 (by decide) rfl (by decide) (u_181_o (fo := (xkn B n ((xN B n q)) d)) (po := (((xN B n q)))) w1138 g0 ⟨by omega, by omega⟩ a2165) (fun R2211 T2212 H2213 p2214 => ?_))
                obtain ⟨e2215, e2217, e2216, p2218⟩ := p2214
                subst e2215
                subst e2216
                subst e2217
                show wp _ _ 196 135 [(4, vI v2199), (3, vI v2200), (2, vI z2161), (1, vI z1140), (0, .ref r0)] [] _ H1134 _
                have u2220 := RO_k p2218
                refine wp_of e196 c196_135 (rw_aload_n (pc' := 136) (v := .ref r0) rfl rfl rfl ?_)
                refine wp_of e196 c196_136 (xc_V (pc' := 139) (r := r0) (as := []) (st := []) (lm_9_118) rfl rfl (Nat.le_of_ble_eq_true rfl) w1138 g0 sh_42 (by decide) rfl (by decide) (u_172_o (fo := (xkn B n ((xN B n q)) d)) (po := (((xN B n q)))) w1138 g0 p2218) (fun R2221 T2222 H2223 p2224 => ?_))
                obtain ⟨e2225, e2227, e2226, p2228⟩ := p2224
                subst e2225
                subst e2226
                subst e2227
                show wp _ _ 196 139 [(4, vI v2199), (3, vI v2200), (2, vI z2161), (1, vI z1140), (0, .ref r0)] [] _ H1134 _
                have u2230 := RO_k p2228
                refine wp_of e196 c196_139 (rw_aload_n (pc' := 140) (v := .ref r0) rfl rfl rfl ?_)
                refine wp_of e196 c196_140 (xg_I (pc' := 143) lf_9_75 w1138 g0 sh_42 (by decide) (by decide) ty_42_9 rfl rfl (fun b2231 b2232 => ?_))
                refine wp_of e196 c196_143 (rw_iconst (pc' := 144) rfl ?_)
                refine wp_of e196 c196_144 (rw_icmp_ne (p1 := 148) (p2 := 147) (by decide) rfl ⟨by omega, by omega⟩ ⟨by omega, by omega⟩ (fun c2233 => ?_) (fun c2233 => ?_))
                · exfalso
                  omega
                · have o2234 : (xl3 B n q d) = (xkn B n ((xN B n q)) d, ((xN B n q)), ((xN B n q))) := by
                    unfold xl3 xap
                    repeat first | rw [xs_0 (by omega)] | rw [xs_1 (by omega)] | rw [if_pos (by omega)] | rw [if_neg (by omega)]
                    first | done | rfl | assumption | (exfalso; omega) | (refine Prod.ext ?_ (Prod.ext ?_ ?_) <;> (try dsimp only) <;> omega)
                  have o2234a : ((xl3 B n q d)).1 = xkn B n ((xN B n q)) d := by rw [o2234]
                  have o2234b : ((xl3 B n q d)).2.1 = ((xN B n q)) := by rw [o2234]
                  have o2234c : ((xl3 B n q d)).2.2 = ((xN B n q)) := by rw [o2234]
                  exact wp_return e196 c196_147 rfl ⟨rfl, w1138, f2138, rfl, (Or.inr ⟨by omega, RO_eq p2228 (by omega) (by omega)⟩)⟩
            · refine wp_of e196 c196_54 (rw_iload_n (pc' := 55) (z := v2200) rfl rfl ?_)
              refine wp_of e196 c196_55 (rw_if_ne (p1 := 114) (p2 := 58) (by decide) rfl ⟨by omega, by omega⟩ (fun c2235 => ?_) (fun c2235 => ?_))
              · refine wp_of e196 c196_114 (rw_iconst (pc' := 115) rfl ?_)
                refine wp_of e196 c196_115 (rw_goto (p1 := 119) (by decide) ?_)
                refine wp_of e196 c196_119 (rw_istore_n (pc' := 120) (z := 1) (L' := [(3, vI 1), (4, vI v2199), (2, vI z2161), (1, vI z1140), (0, .ref r0)]) rfl rfl rfl ?_)
                refine wp_of e196 c196_120 (rw_iinc (pc' := 123) (z := v2199) (L' := [(4, vI (v2199 + 1)), (3, vI 1), (2, vI z2161), (1, vI z1140), (0, .ref r0)]) rfl rfl rfl rfl ?_)
                refine wp_of e196 c196_123 (rw_goto (p1 := 42) (by decide) ?_)
                exact wp_lc (ks := [4, 3, 2, 1, 0]) (wl_c rfl (wl_c rfl (wl_c rfl (wl_c rfl (wl_c rfl wl_n))))) rfl (by decide) (ih2198 _ (by omega) (v2199 + 1) 1 ⟨by omega, by omega⟩ ⟨by omega, by omega⟩ rfl)
              · exfalso
                omega
        exact wp_lc (ks := [4, 3, 2, 1, 0]) (wl_c rfl (wl_c rfl (wl_c rfl (wl_c rfl (wl_c rfl wl_n))))) rfl (by decide) (lp2196 _ 0 1 ⟨by omega, by omega⟩ ⟨by omega, by omega⟩ rfl)
  · have f2236 := f0.tr f1119 rfl
    show wp _ _ 196 12 [(0, .ref r0)] [] _ H1114 _
    have u2237 := RO_k a1124
    refine wp_of e196 c196_12 (rw_aload_n (pc' := 13) (v := .ref r0) rfl rfl rfl ?_)
    have k2238 : H1114 r0 4 = H r0 4 := (f1119 r0 4 _ g0 rfl)
    have q2239 : H1114 r0 4 = (rp : Int) := k2238.trans qrp
    have k2240 : H1114 r0 5 = H r0 5 := (f1119 r0 5 _ g0 rfl)
    have q2241 : H1114 r0 5 = (rb : Int) := k2240.trans qrb
    refine wp_of e196 c196_13 (xc_V (pc' := 16) (r := r0) (as := []) (st := []) (lm_9_273) rfl rfl (Nat.le_of_ble_eq_true rfl) w1118 g0 sh_42 (by decide) rfl (by decide) (u_194_o (fo := 5) (po := q) w1118 g0 q2239 grp q2241 grb a1124) (fun R2242 T2243 H2244 p2245 => ?_))
    obtain ⟨e2246, e2248, z2249, e2247, b2250, p2251⟩ := p2245
    subst e2246
    subst e2247
    subst e2248
    obtain ⟨a2252, a2253⟩ := p2251
    show wp _ _ 196 16 [(0, .ref r0)] [vI z2249] _ H1114 _
    have u2254 := RO_k a2253
    refine wp_of e196 c196_16 (rw_istore_n (pc' := 17) (z := z2249) (L' := [(1, vI z2249), (0, .ref r0)]) rfl rfl rfl ?_)
    refine wp_of e196 c196_17 (rw_aload_n (pc' := 18) (v := .ref r0) rfl rfl rfl ?_)
    refine wp_of e196 c196_18 (rw_bipush (pc' := 20) (z := 44) rfl (by decide) ?_)
    refine wp_of e196 c196_20 (xc_V (pc' := 23) (r := r0) (as := [vI 44]) (st := []) (lm_9_279) rfl rfl (Nat.le_of_ble_eq_true rfl) w1118 g0 sh_42 (by decide) rfl (by decide) (u_197_o (fo := 5) (po := q) w1118 g0 ⟨by omega, by omega⟩ q2241 grb a2253) (fun R2255 T2256 H2257 p2258 => ?_))
    obtain ⟨e2259, e2261, e2260, p2262⟩ := p2258
    subst e2259
    subst e2260
    subst e2261
    show wp _ _ 196 23 [(1, vI z2249), (0, .ref r0)] [] _ H1114 _
    have u2264 := RO_k p2262
    refine wp_of e196 c196_23 (rw_aload_n (pc' := 24) (v := .ref r0) rfl rfl rfl ?_)
    refine wp_of e196 c196_24 (xc_V (pc' := 27) (r := r0) (as := []) (st := []) (lm_9_176) rfl rfl (Nat.le_of_ble_eq_true rfl) w1118 g0 sh_42 (by decide) rfl (by decide) (u_195_o (fo := 5) (po := q) w1118 g0 q2239 grp p2262) (fun R2265 T2266 H2267 p2268 => ?_))
    obtain ⟨e2269, e2271, z2272, e2270, b2273, p2274⟩ := p2268
    subst e2269
    subst e2270
    subst e2271
    obtain ⟨a2275, a2276⟩ := p2274
    show wp _ _ 196 27 [(1, vI z2249), (0, .ref r0)] [vI z2272] _ H1114 _
    have u2277 := RO_k a2276
    refine wp_of e196 c196_27 (rw_istore_n (pc' := 28) (z := z2272) (L' := [(2, vI z2272), (1, vI z2249), (0, .ref r0)]) rfl rfl rfl ?_)
    refine wp_of e196 c196_28 (rw_iload_n (pc' := 29) (z := z2249) rfl rfl ?_)
    refine wp_of e196 c196_29 (rw_iload_n (pc' := 30) (z := z2272) rfl rfl ?_)
    refine wp_of e196 c196_30 (rw_icmp_ne (p1 := 37) (p2 := 33) (by decide) rfl ⟨by omega, by omega⟩ ⟨by omega, by omega⟩ (fun c2278 => ?_) (fun c2278 => ?_))
    · exfalso
      omega
    · refine wp_of e196 c196_33 (rw_iconst (pc' := 34) rfl ?_)
      refine wp_of e196 c196_34 (rw_goto (p1 := 38) (by decide) ?_)
      refine wp_of e196 c196_38 (rw_istore_n (pc' := 39) (z := 1) (L' := [(3, vI 1), (2, vI z2272), (1, vI z2249), (0, .ref r0)]) rfl rfl rfl ?_)
      refine wp_of e196 c196_39 (rw_iconst (pc' := 40) rfl ?_)
      refine wp_of e196 c196_40 (rw_istore (pc' := 42) (z := 0) (L' := [(4, vI 0), (3, vI 1), (2, vI z2272), (1, vI z2249), (0, .ref r0)]) rfl rfl rfl ?_)
      have lp2307 : ∀ (n2308 : Nat) (v2310 : Int) (v2311 : Int), (0 ≤ v2310 ∧ v2310 ≤ 3) → (1 ≤ v2311 ∧ v2311 ≤ 1) → (3 - v2310).toNat = n2308 → wp kt 5 196 42 [(4, vI v2310), (3, vI v2311), (2, vI z2272), (1, vI z2249), (0, .ref r0)] [] T H1114 (uq_196_k r0 rp rb B n q d T H) := by
        intro n2308
        induction n2308 using Nat.strongRecOn with
        | _ n2308 ih2309 =>
          intro v2310 v2311 b2314 b2315 m2316
          refine wp_of e196 c196_42 (rw_iload (pc' := 44) (z := v2310) rfl rfl ?_)
          refine wp_of e196 c196_44 (rw_aload_n (pc' := 45) (v := .ref r0) rfl rfl rfl ?_)
          refine wp_of e196 c196_45 (xg_K (pc' := 48) lf_9_166 w1118 g0 sh_42 (by decide) (by decide) rfl q2239 rfl ?_)
          have k2317 : H1114 rp 4 = H rp 4 := (f1119 rp 4 _ grp rfl)
          refine wp_of e196 c196_48 (xg_I (pc' := 51) lf_9_276 w1118 grp sh_54 (by decide) (by decide) ty_54_4 rfl rfl (fun b2318 b2319 => ?_))
          refine wp_of e196 c196_51 (rw_icmp_ge (p1 := 126) (p2 := 54) (by decide) rfl ⟨by omega, by omega⟩ ⟨by omega, by omega⟩ (fun c2320 => ?_) (fun c2320 => ?_))
          · refine wp_of e196 c196_126 (rw_iload_n (pc' := 127) (z := v2311) rfl rfl ?_)
            refine wp_of e196 c196_127 (rw_if_eq (p1 := 135) (p2 := 130) (by decide) rfl ⟨by omega, by omega⟩ (fun c2321 => ?_) (fun c2321 => ?_))
            · exfalso
              omega
            · refine wp_of e196 c196_130 (rw_aload_n (pc' := 131) (v := .ref r0) rfl rfl rfl ?_)
              refine wp_of e196 c196_131 (rw_iconst (pc' := 132) rfl ?_)
              refine wp_of e196 c196_132 (xc_V (pc' := 135) (r := r0) (as := [vI 3]) (st := []) (lm_9_121) rfl rfl (Nat.le_of_ble_eq_true rfl) w1118 g0 sh_42 (by decide) rfl (by decide) (u_181_o (fo := 5) (po := q) w1118 g0 ⟨by omega, by omega⟩ a2276) (fun R2322 T2323 H2324 p2325 => ?_))
              obtain ⟨e2326, e2328, e2327, p2329⟩ := p2325
              subst e2326
              subst e2327
              subst e2328
              show wp _ _ 196 135 [(4, vI v2310), (3, vI v2311), (2, vI z2272), (1, vI z2249), (0, .ref r0)] [] _ H1114 _
              have u2331 := RO_k p2329
              refine wp_of e196 c196_135 (rw_aload_n (pc' := 136) (v := .ref r0) rfl rfl rfl ?_)
              refine wp_of e196 c196_136 (xc_V (pc' := 139) (r := r0) (as := []) (st := []) (lm_9_118) rfl rfl (Nat.le_of_ble_eq_true rfl) w1118 g0 sh_42 (by decide) rfl (by decide) (u_172_o (fo := 5) (po := q) w1118 g0 p2329) (fun R2332 T2333 H2334 p2335 => ?_))
              obtain ⟨e2336, e2338, e2337, p2339⟩ := p2335
              subst e2336
              subst e2337
              subst e2338
              show wp _ _ 196 139 [(4, vI v2310), (3, vI v2311), (2, vI z2272), (1, vI z2249), (0, .ref r0)] [] _ H1114 _
              have u2341 := RO_k p2339
              refine wp_of e196 c196_139 (rw_aload_n (pc' := 140) (v := .ref r0) rfl rfl rfl ?_)
              refine wp_of e196 c196_140 (xg_I (pc' := 143) lf_9_75 w1118 g0 sh_42 (by decide) (by decide) ty_42_9 rfl rfl (fun b2342 b2343 => ?_))
              refine wp_of e196 c196_143 (rw_iconst (pc' := 144) rfl ?_)
              refine wp_of e196 c196_144 (rw_icmp_ne (p1 := 148) (p2 := 147) (by decide) rfl ⟨by omega, by omega⟩ ⟨by omega, by omega⟩ (fun c2344 => ?_) (fun c2344 => ?_))
              · exfalso
                omega
              · have o2345 : (xl3 B n q d) = (5, q, q) := by
                  unfold xl3 xap
                  repeat first | rw [xs_0 (by omega)] | rw [xs_1 (by omega)] | rw [if_pos (by omega)] | rw [if_neg (by omega)]
                  first | done | rfl | assumption | (exfalso; omega) | (refine Prod.ext ?_ (Prod.ext ?_ ?_) <;> (try dsimp only) <;> omega)
                have o2345a : ((xl3 B n q d)).1 = 5 := by rw [o2345]
                have o2345b : ((xl3 B n q d)).2.1 = q := by rw [o2345]
                have o2345c : ((xl3 B n q d)).2.2 = q := by rw [o2345]
                exact wp_return e196 c196_147 rfl ⟨rfl, w1118, f2236, rfl, (Or.inr ⟨by omega, RO_eq p2339 (by omega) (by omega)⟩)⟩
          · refine wp_of e196 c196_54 (rw_iload_n (pc' := 55) (z := v2311) rfl rfl ?_)
            refine wp_of e196 c196_55 (rw_if_ne (p1 := 114) (p2 := 58) (by decide) rfl ⟨by omega, by omega⟩ (fun c2346 => ?_) (fun c2346 => ?_))
            · refine wp_of e196 c196_114 (rw_iconst (pc' := 115) rfl ?_)
              refine wp_of e196 c196_115 (rw_goto (p1 := 119) (by decide) ?_)
              refine wp_of e196 c196_119 (rw_istore_n (pc' := 120) (z := 1) (L' := [(3, vI 1), (4, vI v2310), (2, vI z2272), (1, vI z2249), (0, .ref r0)]) rfl rfl rfl ?_)
              refine wp_of e196 c196_120 (rw_iinc (pc' := 123) (z := v2310) (L' := [(4, vI (v2310 + 1)), (3, vI 1), (2, vI z2272), (1, vI z2249), (0, .ref r0)]) rfl rfl rfl rfl ?_)
              refine wp_of e196 c196_123 (rw_goto (p1 := 42) (by decide) ?_)
              exact wp_lc (ks := [4, 3, 2, 1, 0]) (wl_c rfl (wl_c rfl (wl_c rfl (wl_c rfl (wl_c rfl wl_n))))) rfl (by decide) (ih2309 _ (by omega) (v2310 + 1) 1 ⟨by omega, by omega⟩ ⟨by omega, by omega⟩ rfl)
            · exfalso
              omega
      exact wp_lc (ks := [4, 3, 2, 1, 0]) (wl_c rfl (wl_c rfl (wl_c rfl (wl_c rfl (wl_c rfl wl_n))))) rfl (by decide) (lp2307 _ 0 1 ⟨by omega, by omega⟩ ⟨by omega, by omega⟩ rfl)
/-! StrikeAwakeModel.readApart()V o -/
abbrev uq_196_o (r0 : Nat) (rp : Nat) (rb : Nat) (fo : Int) (po : Int) (T : wq_T) (H : wq_H) : Option Value → wq_T → wq_H → Prop := fun r T' H' => T = T' ∧ H = H' ∧ none = r ∧ ((RO T H r0 fo po))
set_option maxHeartbeats 4000000 in
theorem u_196_o {kt : Nat → Option mc_E} {T : wq_T} {H : wq_H} {r0 : Nat} {rp : Nat} {rb : Nat} {fo : Int} {po : Int} (hW : WT T H) (g0 : T.2.2.2 r0 = some 42) (qrp : H r0 4 = (rp : Int)) (grp : T.2.2.2 rp = some 54) (qrb : H r0 5 = (rb : Int)) (grb : T.2.2.2 rb = some 43) (hRO_r0 : RO T H r0 fo po) : wpc kt 6 196 [.ref r0] T H (uq_196_o r0 rp rb fo po T H) := by
  refine wp_enter e196 (Nat.le_of_ble_eq_true rfl) rfl ?_
  show wp _ _ 196 0 [(0, .ref r0)] [] _ H _
  have u101 := RO_k hRO_r0
  refine wp_of e196 c196_0 (rw_aload_n (pc' := 1) (v := .ref r0) rfl rfl rfl ?_)
  refine wp_of e196 c196_1 (rw_aload_n (pc' := 2) (v := .ref r0) rfl rfl rfl ?_)
  refine wp_of e196 c196_2 (xg_K (pc' := 5) lf_9_166 hW g0 sh_42 (by decide) (by decide) rfl qrp rfl ?_)
  refine wp_of e196 c196_5 (xg_I (pc' := 8) lf_9_276 hW grp sh_54 (by decide) (by decide) ty_54_4 rfl rfl (fun b102 b103 => ?_))
  refine wp_of e196 c196_8 (rw_iconst (pc' := 9) rfl ?_)
  refine wp_of e196 c196_9 (xc_V (pc' := 12) (r := r0) (as := [vI (H rp 4), vI 3]) (st := []) (lm_9_228) rfl rfl (Nat.le_of_ble_eq_true rfl) hW g0 sh_42 (by decide) rfl (by decide) (u_188_o (fo := fo) (po := po) hW g0 ⟨by omega, by omega⟩ ⟨by omega, by omega⟩ qrb grb hRO_r0) (fun R104 T105 H106 p107 => ?_))
  obtain ⟨e108, e110, e109, p111⟩ := p107
  subst e108
  subst e109
  subst e110
  show wp _ _ 196 12 [(0, .ref r0)] [] _ H _
  have u113 := RO_k p111
  refine wp_of e196 c196_12 (rw_aload_n (pc' := 13) (v := .ref r0) rfl rfl rfl ?_)
  refine wp_of e196 c196_13 (xc_V (pc' := 16) (r := r0) (as := []) (st := []) (lm_9_273) rfl rfl (Nat.le_of_ble_eq_true rfl) hW g0 sh_42 (by decide) rfl (by decide) (u_194_o (fo := fo) (po := po) hW g0 qrp grp qrb grb p111) (fun R114 T115 H116 p117 => ?_))
  obtain ⟨e118, e120, z121, e119, b122, p123⟩ := p117
  subst e118
  subst e119
  subst e120
  obtain ⟨a124, a125⟩ := p123
  show wp _ _ 196 16 [(0, .ref r0)] [vI z121] _ H _
  have u126 := RO_k a125
  refine wp_of e196 c196_16 (rw_istore_n (pc' := 17) (z := z121) (L' := [(1, vI z121), (0, .ref r0)]) rfl rfl rfl ?_)
  refine wp_of e196 c196_17 (rw_aload_n (pc' := 18) (v := .ref r0) rfl rfl rfl ?_)
  refine wp_of e196 c196_18 (rw_bipush (pc' := 20) (z := 44) rfl (by decide) ?_)
  refine wp_of e196 c196_20 (xc_V (pc' := 23) (r := r0) (as := [vI 44]) (st := []) (lm_9_279) rfl rfl (Nat.le_of_ble_eq_true rfl) hW g0 sh_42 (by decide) rfl (by decide) (u_197_o (fo := fo) (po := po) hW g0 ⟨by omega, by omega⟩ qrb grb a125) (fun R127 T128 H129 p130 => ?_))
  obtain ⟨e131, e133, e132, p134⟩ := p130
  subst e131
  subst e132
  subst e133
  show wp _ _ 196 23 [(1, vI z121), (0, .ref r0)] [] _ H _
  have u136 := RO_k p134
  refine wp_of e196 c196_23 (rw_aload_n (pc' := 24) (v := .ref r0) rfl rfl rfl ?_)
  refine wp_of e196 c196_24 (xc_V (pc' := 27) (r := r0) (as := []) (st := []) (lm_9_176) rfl rfl (Nat.le_of_ble_eq_true rfl) hW g0 sh_42 (by decide) rfl (by decide) (u_195_o (fo := fo) (po := po) hW g0 qrp grp p134) (fun R137 T138 H139 p140 => ?_))
  obtain ⟨e141, e143, z144, e142, b145, p146⟩ := p140
  subst e141
  subst e142
  subst e143
  obtain ⟨a147, a148⟩ := p146
  show wp _ _ 196 27 [(1, vI z121), (0, .ref r0)] [vI z144] _ H _
  have u149 := RO_k a148
  refine wp_of e196 c196_27 (rw_istore_n (pc' := 28) (z := z144) (L' := [(2, vI z144), (1, vI z121), (0, .ref r0)]) rfl rfl rfl ?_)
  refine wp_of e196 c196_28 (rw_iload_n (pc' := 29) (z := z121) rfl rfl ?_)
  refine wp_of e196 c196_29 (rw_iload_n (pc' := 30) (z := z144) rfl rfl ?_)
  refine wp_of e196 c196_30 (rw_icmp_ne (p1 := 37) (p2 := 33) (by decide) rfl ⟨by omega, by omega⟩ ⟨by omega, by omega⟩ (fun c150 => ?_) (fun c150 => ?_))
  · exfalso
    omega
  · refine wp_of e196 c196_33 (rw_iconst (pc' := 34) rfl ?_)
    refine wp_of e196 c196_34 (rw_goto (p1 := 38) (by decide) ?_)
    refine wp_of e196 c196_38 (rw_istore_n (pc' := 39) (z := 1) (L' := [(3, vI 1), (2, vI z144), (1, vI z121), (0, .ref r0)]) rfl rfl rfl ?_)
    refine wp_of e196 c196_39 (rw_iconst (pc' := 40) rfl ?_)
    refine wp_of e196 c196_40 (rw_istore (pc' := 42) (z := 0) (L' := [(4, vI 0), (3, vI 1), (2, vI z144), (1, vI z121), (0, .ref r0)]) rfl rfl rfl ?_)
    have lp179 : ∀ (n180 : Nat) (v182 : Int) (v183 : Int), (0 ≤ v182 ∧ v182 ≤ 3) → (1 ≤ v183 ∧ v183 ≤ 1) → (3 - v182).toNat = n180 → wp kt 5 196 42 [(4, vI v182), (3, vI v183), (2, vI z144), (1, vI z121), (0, .ref r0)] [] T H (uq_196_o r0 rp rb fo po T H) := by
      intro n180
      induction n180 using Nat.strongRecOn with
      | _ n180 ih181 =>
        intro v182 v183 b186 b187 m188
        refine wp_of e196 c196_42 (rw_iload (pc' := 44) (z := v182) rfl rfl ?_)
        refine wp_of e196 c196_44 (rw_aload_n (pc' := 45) (v := .ref r0) rfl rfl rfl ?_)
        refine wp_of e196 c196_45 (xg_K (pc' := 48) lf_9_166 hW g0 sh_42 (by decide) (by decide) rfl qrp rfl ?_)
        refine wp_of e196 c196_48 (xg_I (pc' := 51) lf_9_276 hW grp sh_54 (by decide) (by decide) ty_54_4 rfl rfl (fun b189 b190 => ?_))
        refine wp_of e196 c196_51 (rw_icmp_ge (p1 := 126) (p2 := 54) (by decide) rfl ⟨by omega, by omega⟩ ⟨by omega, by omega⟩ (fun c191 => ?_) (fun c191 => ?_))
        · refine wp_of e196 c196_126 (rw_iload_n (pc' := 127) (z := v183) rfl rfl ?_)
          refine wp_of e196 c196_127 (rw_if_eq (p1 := 135) (p2 := 130) (by decide) rfl ⟨by omega, by omega⟩ (fun c192 => ?_) (fun c192 => ?_))
          · exfalso
            omega
          · refine wp_of e196 c196_130 (rw_aload_n (pc' := 131) (v := .ref r0) rfl rfl rfl ?_)
            refine wp_of e196 c196_131 (rw_iconst (pc' := 132) rfl ?_)
            refine wp_of e196 c196_132 (xc_V (pc' := 135) (r := r0) (as := [vI 3]) (st := []) (lm_9_121) rfl rfl (Nat.le_of_ble_eq_true rfl) hW g0 sh_42 (by decide) rfl (by decide) (u_181_o (fo := fo) (po := po) hW g0 ⟨by omega, by omega⟩ a148) (fun R193 T194 H195 p196 => ?_))
            obtain ⟨e197, e199, e198, p200⟩ := p196
            subst e197
            subst e198
            subst e199
            show wp _ _ 196 135 [(4, vI v182), (3, vI v183), (2, vI z144), (1, vI z121), (0, .ref r0)] [] _ H _
            have u202 := RO_k p200
            refine wp_of e196 c196_135 (rw_aload_n (pc' := 136) (v := .ref r0) rfl rfl rfl ?_)
            refine wp_of e196 c196_136 (xc_V (pc' := 139) (r := r0) (as := []) (st := []) (lm_9_118) rfl rfl (Nat.le_of_ble_eq_true rfl) hW g0 sh_42 (by decide) rfl (by decide) (u_172_o (fo := fo) (po := po) hW g0 p200) (fun R203 T204 H205 p206 => ?_))
            obtain ⟨e207, e209, e208, p210⟩ := p206
            subst e207
            subst e208
            subst e209
            show wp _ _ 196 139 [(4, vI v182), (3, vI v183), (2, vI z144), (1, vI z121), (0, .ref r0)] [] _ H _
            have u212 := RO_k p210
            refine wp_of e196 c196_139 (rw_aload_n (pc' := 140) (v := .ref r0) rfl rfl rfl ?_)
            refine wp_of e196 c196_140 (xg_I (pc' := 143) lf_9_75 hW g0 sh_42 (by decide) (by decide) ty_42_9 rfl rfl (fun b213 b214 => ?_))
            refine wp_of e196 c196_143 (rw_iconst (pc' := 144) rfl ?_)
            refine wp_of e196 c196_144 (rw_icmp_ne (p1 := 148) (p2 := 147) (by decide) rfl ⟨by omega, by omega⟩ ⟨by omega, by omega⟩ (fun c215 => ?_) (fun c215 => ?_))
            · exfalso
              omega
            · exact wp_return e196 c196_147 rfl ⟨rfl, rfl, rfl, (p210)⟩
        · refine wp_of e196 c196_54 (rw_iload_n (pc' := 55) (z := v183) rfl rfl ?_)
          refine wp_of e196 c196_55 (rw_if_ne (p1 := 114) (p2 := 58) (by decide) rfl ⟨by omega, by omega⟩ (fun c216 => ?_) (fun c216 => ?_))
          · refine wp_of e196 c196_114 (rw_iconst (pc' := 115) rfl ?_)
            refine wp_of e196 c196_115 (rw_goto (p1 := 119) (by decide) ?_)
            refine wp_of e196 c196_119 (rw_istore_n (pc' := 120) (z := 1) (L' := [(3, vI 1), (4, vI v182), (2, vI z144), (1, vI z121), (0, .ref r0)]) rfl rfl rfl ?_)
            refine wp_of e196 c196_120 (rw_iinc (pc' := 123) (z := v182) (L' := [(4, vI (v182 + 1)), (3, vI 1), (2, vI z144), (1, vI z121), (0, .ref r0)]) rfl rfl rfl rfl ?_)
            refine wp_of e196 c196_123 (rw_goto (p1 := 42) (by decide) ?_)
            exact wp_lc (ks := [4, 3, 2, 1, 0]) (wl_c rfl (wl_c rfl (wl_c rfl (wl_c rfl (wl_c rfl wl_n))))) rfl (by decide) (ih181 _ (by omega) (v182 + 1) 1 ⟨by omega, by omega⟩ ⟨by omega, by omega⟩ rfl)
          · exfalso
            omega
    exact wp_lc (ks := [4, 3, 2, 1, 0]) (wl_c rfl (wl_c rfl (wl_c rfl (wl_c rfl (wl_c rfl wl_n))))) rfl (by decide) (lp179 _ 0 1 ⟨by omega, by omega⟩ ⟨by omega, by omega⟩ rfl)
