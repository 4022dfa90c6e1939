/-! StrikeAwake$Parish.clear()V  -/
abbrev uq_14 (r0 : Nat) (T : wq_T) (H : wq_H) : Option Value → wq_T → wq_H → Prop := fun r T' H' => T = T' ∧ WT T H' ∧ wfr [(27, 7), (27, 8), (27, 9), (27, 10), (27, 11), (27, 12), (27, 13), (27, 14), (27, 15), (27, 16), (27, 17), (27, 18), (29, 999)] T H H' ∧ none = r ∧ ((DC T H' r0 xD0 ∧ CZ T H' r0 (xD0 0 3)))
set_option maxHeartbeats 4000000 in
theorem u_14 {kt : Nat → Option mc_E} {T : wq_T} {H : wq_H} {r0 : Nat} (hW : WT T H) (g0 : T.2.2.2 r0 = some 27) : wpc kt 1 14 [.ref r0] T H (uq_14 r0 T H) := by
  refine wp_enter e14 (Nat.le_of_ble_eq_true rfl) rfl ?_
  have f0 : wfr [(27, 7), (27, 8), (27, 9), (27, 10), (27, 11), (27, 12), (27, 13), (27, 14), (27, 15), (27, 16), (27, 17), (27, 18), (29, 999)] T H H := wfr.rf
  show wp _ _ 14 0 [(0, .ref r0)] [] _ H _
  refine wp_of e14 c14_0 (rw_aload_n (pc' := 1) (v := .ref r0) rfl rfl rfl ?_)
  refine wp_of e14 c14_1 (rw_iconst (pc' := 2) rfl ?_)
  refine wp_of e14 c14_2 (xp_I (pc' := 5) lf_7_41 hW g0 sh_27 (by decide) (by decide) ty_27_7 rfl rfl (by decide) (by decide) ⟨by decide, by decide⟩ rfl (fun H1134 e1135 w1136 => ?_))
  have f1137 := f0.put' e1135 g0 rfl
  have k1138 : H1134 r0 7 = 0 := wq_u_s e1135
  refine wp_of e14 c14_5 (rw_aload_n (pc' := 6) (v := .ref r0) rfl rfl rfl ?_)
  refine wp_of e14 c14_6 (rw_iconst (pc' := 7) rfl ?_)
  refine wp_of e14 c14_7 (xp_I (pc' := 10) lf_7_44 w1136 g0 sh_27 (by decide) (by decide) ty_27_8 rfl rfl (by decide) (by decide) ⟨by decide, by decide⟩ rfl (fun H1139 e1140 w1141 => ?_))
  have f1142 := f1137.put' e1140 g0 rfl
  have k1143 : H1139 r0 8 = 0 := wq_u_s e1140
  refine wp_of e14 c14_10 (rw_aload_n (pc' := 11) (v := .ref r0) rfl rfl rfl ?_)
  refine wp_of e14 c14_11 (rw_iconst (pc' := 12) rfl ?_)
  refine wp_of e14 c14_12 (xp_I (pc' := 15) lf_7_47 w1141 g0 sh_27 (by decide) (by decide) ty_27_9 rfl rfl (by decide) (by decide) ⟨by decide, by decide⟩ rfl (fun H1144 e1145 w1146 => ?_))
  have f1147 := f1142.put' e1145 g0 rfl
  have k1148 : H1144 r0 9 = 0 := wq_u_s e1145
  refine wp_of e14 c14_15 (rw_aload_n (pc' := 16) (v := .ref r0) rfl rfl rfl ?_)
  refine wp_of e14 c14_16 (rw_iconst (pc' := 17) rfl ?_)
  refine wp_of e14 c14_17 (xp_I (pc' := 20) lf_7_50 w1146 g0 sh_27 (by decide) (by decide) ty_27_10 rfl rfl (by decide) (by decide) ⟨by decide, by decide⟩ rfl (fun H1149 e1150 w1151 => ?_))
  have f1152 := f1147.put' e1150 g0 rfl
  have k1153 : H1149 r0 10 = 0 := wq_u_s e1150
  refine wp_of e14 c14_20 (rw_aload_n (pc' := 21) (v := .ref r0) rfl rfl rfl ?_)
  refine wp_of e14 c14_21 (rw_iconst (pc' := 22) rfl ?_)
  refine wp_of e14 c14_22 (xp_I (pc' := 25) lf_7_53 w1151 g0 sh_27 (by decide) (by decide) ty_27_11 rfl rfl (by decide) (by decide) ⟨by decide, by decide⟩ rfl (fun H1154 e1155 w1156 => ?_))
  have f1157 := f1152.put' e1155 g0 rfl
  have k1158 : H1154 r0 11 = 0 := wq_u_s e1155
  refine wp_of e14 c14_25 (rw_aload_n (pc' := 26) (v := .ref r0) rfl rfl rfl ?_)
  refine wp_of e14 c14_26 (rw_iconst (pc' := 27) rfl ?_)
  refine wp_of e14 c14_27 (xp_I (pc' := 30) lf_7_56 w1156 g0 sh_27 (by decide) (by decide) ty_27_12 rfl rfl (by decide) (by decide) ⟨by decide, by decide⟩ rfl (fun H1159 e1160 w1161 => ?_))
  have f1162 := f1157.put' e1160 g0 rfl
  have k1163 : H1159 r0 12 = 0 := wq_u_s e1160
  refine wp_of e14 c14_30 (rw_aload_n (pc' := 31) (v := .ref r0) rfl rfl rfl ?_)
  refine wp_of e14 c14_31 (rw_iconst (pc' := 32) rfl ?_)
  refine wp_of e14 c14_32 (xp_I (pc' := 35) lf_7_59 w1161 g0 sh_27 (by decide) (by decide) ty_27_13 rfl rfl (by decide) (by decide) ⟨by decide, by decide⟩ rfl (fun H1164 e1165 w1166 => ?_))
  have f1167 := f1162.put' e1165 g0 rfl
  have k1168 : H1164 r0 13 = 0 := wq_u_s e1165
  refine wp_of e14 c14_35 (rw_aload_n (pc' := 36) (v := .ref r0) rfl rfl rfl ?_)
  refine wp_of e14 c14_36 (rw_iconst (pc' := 37) rfl ?_)
  refine wp_of e14 c14_37 (xp_I (pc' := 40) lf_7_62 w1166 g0 sh_27 (by decide) (by decide) ty_27_14 rfl rfl (by decide) (by decide) ⟨by decide, by decide⟩ rfl (fun H1169 e1170 w1171 => ?_))
  have f1172 := f1167.put' e1170 g0 rfl
  have k1173 : H1169 r0 14 = 0 := wq_u_s e1170
  refine wp_of e14 c14_40 (rw_aload_n (pc' := 41) (v := .ref r0) rfl rfl rfl ?_)
  refine wp_of e14 c14_41 (rw_bipush (pc' := 43) (z := -2) rfl (by decide) ?_)
  refine wp_of e14 c14_43 (xp_I (pc' := 46) lf_7_37 w1171 g0 sh_27 (by decide) (by decide) ty_27_15 rfl rfl (by decide) (by decide) ⟨by decide, by decide⟩ rfl (fun H1174 e1175 w1176 => ?_))
  have f1177 := f1172.put' e1175 g0 rfl
  have k1178 : H1174 r0 15 = -2 := wq_u_s e1175
  refine wp_of e14 c14_46 (rw_aload_n (pc' := 47) (v := .ref r0) rfl rfl rfl ?_)
  refine wp_of e14 c14_47 (rw_iconst (pc' := 48) rfl ?_)
  refine wp_of e14 c14_48 (xp_I (pc' := 51) lf_7_65 w1176 g0 sh_27 (by decide) (by decide) ty_27_16 rfl rfl (by decide) (by decide) ⟨by decide, by decide⟩ rfl (fun H1179 e1180 w1181 => ?_))
  have f1182 := f1177.put' e1180 g0 rfl
  have k1183 : H1179 r0 16 = 0 := wq_u_s e1180
  refine wp_of e14 c14_51 (rw_aload_n (pc' := 52) (v := .ref r0) rfl rfl rfl ?_)
  refine wp_of e14 c14_52 (rw_iconst (pc' := 53) rfl ?_)
  refine wp_of e14 c14_53 (xp_I (pc' := 56) lf_7_68 w1181 g0 sh_27 (by decide) (by decide) ty_27_17 rfl rfl (by decide) (by decide) ⟨by decide, by decide⟩ rfl (fun H1184 e1185 w1186 => ?_))
  have f1187 := f1182.put' e1185 g0 rfl
  have k1188 : H1184 r0 17 = 0 := wq_u_s e1185
  refine wp_of e14 c14_56 (rw_aload_n (pc' := 57) (v := .ref r0) rfl rfl rfl ?_)
  refine wp_of e14 c14_57 (rw_lconst (pc' := 58) (z := 0) rfl rfl ?_)
  refine wp_of e14 c14_58 (xp_L (pc' := 61) lf_7_71 w1186 g0 sh_27 (by decide) (by decide) ty_27_18 rfl rfl (by decide) (by decide) ⟨by decide, by decide⟩ rfl (fun H1189 e1190 w1191 => ?_))
  have f1192 := f1187.put' e1190 g0 rfl
  have k1193 : H1189 r0 18 = 0 := wq_u_s e1190
  refine wp_of e14 c14_61 (rw_iconst (pc' := 62) rfl ?_)
  refine wp_of e14 c14_62 (rw_istore_n (pc' := 63) (z := 0) (L' := [(1, vI 0), (0, .ref r0)]) rfl rfl rfl ?_)
  have lp1258 : ∀ (n1259 : Nat) (v1261 : Int) (H1262 : wq_H), WT T H1262 → wfr [(29, 999)] T H1189 H1262 → (0 ≤ v1261 ∧ v1261 ≤ 24) → SZ T H1262 r0 v1261 → (24 - v1261).toNat = n1259 → wp kt 0 14 63 [(1, vI v1261), (0, .ref r0)] [] T H1262 (uq_14 r0 T H) := by
    intro n1259
    induction n1259 using Nat.strongRecOn with
    | _ n1259 ih1260 =>
      intro v1261 H1262 w1263 f1264 b1265 h1267 m1266
      have f1268 := f1192.tr f1264 rfl
      refine wp_of e14 c14_63 (rw_iload_n (pc' := 64) (z := v1261) rfl rfl ?_)
      refine wp_of e14 c14_64 (rw_bipush (pc' := 66) (z := 24) rfl (by decide) ?_)
      refine wp_of e14 c14_66 (rw_icmp_ge (p1 := 83) (p2 := 69) (by decide) rfl ⟨Int.le_trans (by decide) b1265.1, Int.le_trans b1265.2 (by decide)⟩ ⟨by decide, by decide⟩ (fun c1269 => ?_) (fun c1269 => ?_))
      · have k1270 : H1262 r0 7 = H1134 r0 7 := ((f1264 r0 7 _ g0 rfl).trans ((wq_u_j e1190 rfl).trans ((wq_u_j e1185 rfl).trans ((wq_u_j e1180 rfl).trans ((wq_u_j e1175 rfl).trans ((wq_u_j e1170 rfl).trans ((wq_u_j e1165 rfl).trans ((wq_u_j e1160 rfl).trans ((wq_u_j e1155 rfl).trans ((wq_u_j e1150 rfl).trans ((wq_u_j e1145 rfl).trans (wq_u_j e1140 rfl))))))))))))
        have k1271 : H1262 r0 8 = H1139 r0 8 := ((f1264 r0 8 _ g0 rfl).trans ((wq_u_j e1190 rfl).trans ((wq_u_j e1185 rfl).trans ((wq_u_j e1180 rfl).trans ((wq_u_j e1175 rfl).trans ((wq_u_j e1170 rfl).trans ((wq_u_j e1165 rfl).trans ((wq_u_j e1160 rfl).trans ((wq_u_j e1155 rfl).trans ((wq_u_j e1150 rfl).trans (wq_u_j e1145 rfl)))))))))))
        have k1272 : H1262 r0 9 = H1144 r0 9 := ((f1264 r0 9 _ g0 rfl).trans ((wq_u_j e1190 rfl).trans ((wq_u_j e1185 rfl).trans ((wq_u_j e1180 rfl).trans ((wq_u_j e1175 rfl).trans ((wq_u_j e1170 rfl).trans ((wq_u_j e1165 rfl).trans ((wq_u_j e1160 rfl).trans ((wq_u_j e1155 rfl).trans (wq_u_j e1150 rfl))))))))))
        have k1273 : H1262 r0 10 = H1149 r0 10 := ((f1264 r0 10 _ g0 rfl).trans ((wq_u_j e1190 rfl).trans ((wq_u_j e1185 rfl).trans ((wq_u_j e1180 rfl).trans ((wq_u_j e1175 rfl).trans ((wq_u_j e1170 rfl).trans ((wq_u_j e1165 rfl).trans ((wq_u_j e1160 rfl).trans (wq_u_j e1155 rfl)))))))))
        have k1274 : H1262 r0 11 = H1154 r0 11 := ((f1264 r0 11 _ g0 rfl).trans ((wq_u_j e1190 rfl).trans ((wq_u_j e1185 rfl).trans ((wq_u_j e1180 rfl).trans ((wq_u_j e1175 rfl).trans ((wq_u_j e1170 rfl).trans ((wq_u_j e1165 rfl).trans (wq_u_j e1160 rfl))))))))
        have k1275 : H1262 r0 12 = H1159 r0 12 := ((f1264 r0 12 _ g0 rfl).trans ((wq_u_j e1190 rfl).trans ((wq_u_j e1185 rfl).trans ((wq_u_j e1180 rfl).trans ((wq_u_j e1175 rfl).trans ((wq_u_j e1170 rfl).trans (wq_u_j e1165 rfl)))))))
        have k1276 : H1262 r0 13 = H1164 r0 13 := ((f1264 r0 13 _ g0 rfl).trans ((wq_u_j e1190 rfl).trans ((wq_u_j e1185 rfl).trans ((wq_u_j e1180 rfl).trans ((wq_u_j e1175 rfl).trans (wq_u_j e1170 rfl))))))
        have k1277 : H1262 r0 14 = H1169 r0 14 := ((f1264 r0 14 _ g0 rfl).trans ((wq_u_j e1190 rfl).trans ((wq_u_j e1185 rfl).trans ((wq_u_j e1180 rfl).trans (wq_u_j e1175 rfl)))))
        have k1278 : H1262 r0 15 = H1174 r0 15 := ((f1264 r0 15 _ g0 rfl).trans ((wq_u_j e1190 rfl).trans ((wq_u_j e1185 rfl).trans (wq_u_j e1180 rfl))))
        have k1279 : H1262 r0 16 = H1179 r0 16 := ((f1264 r0 16 _ g0 rfl).trans ((wq_u_j e1190 rfl).trans (wq_u_j e1185 rfl)))
        have k1280 : H1262 r0 17 = H1184 r0 17 := ((f1264 r0 17 _ g0 rfl).trans (wq_u_j e1190 rfl))
        have _0 : xD0 0 0 = 0 ∧ xD0 0 1 = 0 ∧ xD0 0 2 = 0 ∧ xD0 0 3 = 0 ∧ xD0 0 4 = 0 ∧ xD0 0 5 = 0 ∧ xD0 0 6 = 0 ∧ xD0 0 7 = 0 ∧ xD0 0 8 = -1 ∧ xsx (xD0 0 8) = -2 ∧ xcn (xD0 13) 24 = 0 := ⟨rfl, rfl, rfl, rfl, rfl, rfl, rfl, rfl, rfl, rfl, rfl⟩
        exact wp_return e14 c14_83 rfl ⟨rfl, w1263, f1268, rfl, ⟨DC_mk ⟨by omega, by omega, by omega, by omega, by omega, by omega, by omega, by omega, by omega, by omega, by omega, by omega, by omega, by omega, by omega, by omega⟩ (DQ_0 (by omega) (by omega)) (ST_z h1267 (by omega) (fun k _ => rfl)) (SV_z w1263 g0 (fun k => Int.le_refl _)) (DA_0 (n := 19) w1263 g0 rfl (by decide) rfl (Int.le_refl _)) (DA_0 (n := 19) w1263 g0 rfl (by decide) rfl (Int.le_refl _)) (DA_0 (n := 19) w1263 g0 rfl (by decide) rfl (Int.le_refl _)) (DA_0 (n := 19) w1263 g0 rfl (by decide) rfl (Int.le_refl _)) ⟨rfl, rfl, rfl, rfl, rfl⟩ ⟨rfl, rfl, rfl⟩, CZ_0 (by omega) (Int.le_refl _)⟩⟩
      · refine wp_of e14 c14_69 (rw_aload_n (pc' := 70) (v := .ref r0) rfl rfl rfl ?_)
        refine wp_of e14 c14_70 (xg_R (pc' := 73) lf_7_17 w1263 g0 sh_27 (by decide) (by decide) ty_27_1 rfl rfl (fun r1281 q1282 g1283 => ?_))
        refine wp_of e14 c14_73 (rw_iload_n (pc' := 74) (z := v1261) rfl rfl ?_)
        refine wp_of e14 c14_74 (rw_bipush (pc' := 76) (z := -2) rfl (by decide) ?_)
        refine wp_of e14 c14_76 (xs_I (pc' := 77) w1263 g1283 (by decide) sh_29 (by decide) (ty_29 _) (by decide) (by decide) ⟨by decide, by decide⟩ (b1265.1) (by omega) rfl (fun H1284 e1285 w1286 => ?_))
        have f1287 := f1268.put' e1285 g1283 rfl
        have f1288 := f1264.put' e1285 g1283 rfl
        have h1289 : SZ T H1284 r0 (v1261 + 1) := SZ_put h1267 q1282 g0 g1283 e1285 (by omega) rfl
        refine wp_of e14 c14_77 (rw_iinc (pc' := 80) (z := v1261) (L' := [(1, vI (v1261 + 1)), (0, .ref r0)]) rfl rfl rfl rfl ?_)
        refine wp_of e14 c14_80 (rw_goto (p1 := 63) (by decide) ?_)
        exact wp_lc (ks := [1, 0]) (wl_c rfl (wl_c rfl wl_n)) rfl (by decide) (ih1260 _ (by omega) (v1261 + 1) H1284 w1286 f1288 ⟨by omega, by omega⟩ h1289 rfl)
  have h1290 : SZ T H1189 r0 0 := SZ_0 w1191 g0
  exact wp_lc (ks := [1, 0]) (wl_c rfl (wl_c rfl wl_n)) rfl (by decide) (lp1258 _ 0 H1189 w1191 wfr.rf ⟨by decide, by decide⟩ h1290 rfl)
