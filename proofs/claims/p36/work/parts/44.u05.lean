/-! what methods do (own work, written by wip/gen3/sx3.py) -/
/-! StrikeAwake$Parish.clear()V  -/
abbrev uq_14 (r0 : Nat) (T : wq_T) (H : wq_H) : Option Value → wq_T → wq_H → Prop := fun r T' H' => T = T' ∧ WT T H' ∧ wfr [(27, 7), (27, 8), (27, 9), (27, 10), (27, 11), (27, 12), (27, 13), (27, 14), (27, 15), (27, 16), (27, 17), (27, 18), (29, 999)] T H H' ∧ none = r ∧ ((DC T H' r0 xD0 ∧ CZ T H' r0 (xD0 0 3)))
set_option maxHeartbeats 4000000 in
theorem u_14 {kt : Nat → Option mc_E} {T : wq_T} {H : wq_H} {r0 : Nat} (hW : WT T H) (g0 : T.2.2.2 r0 = some 27) : wpc kt 1 14 [.ref r0] T H (uq_14 r0 T H) := by
  refine wp_enter e14 (Nat.le_of_ble_eq_true rfl) rfl ?_
  have f0 : wfr [(27, 7), (27, 8), (27, 9), (27, 10), (27, 11), (27, 12), (27, 13), (27, 14), (27, 15), (27, 16), (27, 17), (27, 18), (29, 999)] T H H := wfr.rf
  show wp _ _ 14 0 [(0, .ref r0)] [] _ H _
  refine wp_of e14 c14_0 (rw_aload_n (pc' := 1) (v := .ref r0) rfl rfl rfl ?_)
  refine wp_of e14 c14_1 (rw_iconst (pc' := 2) rfl ?_)
  refine wp_of e14 c14_2 (xp_I (pc' := 5) lf_7_41 hW g0 sh_27 (by decide) (by decide) ty_27_7 rfl rfl (by decide) (by decide) ⟨by decide, by decide⟩ rfl (fun H1134 e1135 w1136 => ?_))
  have f1137 := f0.put' e1135 g0 rfl
  have k1138 : H1134 r0 7 = 0 := wq_u_s e1135
  refine wp_of e14 c14_5 (rw_aload_n (pc' := 6) (v := .ref r0) rfl rfl rfl ?_)
  refine wp_of e14 c14_6 (rw_iconst (pc' := 7) rfl ?_)
  refine wp_of e14 c14_7 (xp_I (pc' := 10) lf_7_44 w1136 g0 sh_27 (by decide) (by decide) ty_27_8 rfl rfl (by decide) (by decide) ⟨by decide, by decide⟩ rfl (fun H1139 e1140 w1141 => ?_))
  have f1142 := f1137.put' e1140 g0 rfl
  have k1143 : H1139 r0 8 = 0 := wq_u_s e1140
  refine wp_of e14 c14_10 (rw_aload_n (pc' := 11) (v := .ref r0) rfl rfl rfl ?_)
  refine wp_of e14 c14_11 (rw_iconst (pc' := 12) rfl ?_)
  refine wp_of e14 c14_12 (xp_I (pc' := 15) lf_7_47 w1141 g0 sh_27 (by decide) (by decide) ty_27_9 rfl rfl (by decide) (by decide) ⟨by decide, by decide⟩ rfl (fun H1144 e1145 w1146 => ?_))
  have f1147 := f1142.put' e1145 g0 rfl
  have k1148 : H1144 r0 9 = 0 := wq_u_s e1145
  refine wp_of e14 c14_15 (rw_aload_n (pc' := 16) (v := .ref r0) rfl rfl rfl ?_)
  refine wp_of e14 c14_16 (rw_iconst (pc' := 17) rfl ?_)
  refine wp_of e14 c14_17 (xp_I (pc' := 20) lf_7_50 w1146 g0 sh_27 (by decide) (by decide) ty_27_10 rfl rfl (by decide) (by decide) ⟨by decide, by decide⟩ rfl (fun H1149 e1150 w1151 => ?_))
  have f1152 := f1147.put' e1150 g0 rfl
  have k1153 : H1149 r0 10 = 0 := wq_u_s e1150
  refine wp_of e14 c14_20 (rw_aload_n (pc' := 21) (v := .ref r0) rfl rfl rfl ?_)
  refine wp_of e14 c14_21 (rw_iconst (pc' := 22) rfl ?_)
  refine wp_of e14 c14_22 (xp_I (pc' := 25) lf_7_53 w1151 g0 sh_27 (by decide) (by decide) ty_27_11 rfl rfl (by decide) (by decide) ⟨by decide, by decide⟩ rfl (fun H1154 e1155 w1156 => ?_))
  have f1157 := f1152.put' e1155 g0 rfl
  have k1158 : H1154 r0 11 = 0 := wq_u_s e1155
  refine wp_of e14 c14_25 (rw_aload_n (pc' := 26) (v := .ref r0) rfl rfl rfl ?_)
  refine wp_of e14 c14_26 (rw_iconst (pc' := 27) rfl ?_)
  refine wp_of e14 c14_27 (xp_I (pc' := 30) lf_7_56 w1156 g0 sh_27 (by decide) (by decide) ty_27_12 rfl rfl (by decide) (by decide) ⟨by decide, by decide⟩ rfl (fun H1159 e1160 w1161 => ?_))
  have f1162 := f1157.put' e1160 g0 rfl
  have k1163 : H1159 r0 12 = 0 := wq_u_s e1160
  refine wp_of e14 c14_30 (rw_aload_n (pc' := 31) (v := .ref r0) rfl rfl rfl ?_)
  refine wp_of e14 c14_31 (rw_iconst (pc' := 32) rfl ?_)
  refine wp_of e14 c14_32 (xp_I (pc' := 35) lf_7_59 w1161 g0 sh_27 (by decide) (by decide) ty_27_13 rfl rfl (by decide) (by decide) ⟨by decide, by decide⟩ rfl (fun H1164 e1165 w1166 => ?_))
  have f1167 := f1162.put' e1165 g0 rfl
  have k1168 : H1164 r0 13 = 0 := wq_u_s e1165
  refine wp_of e14 c14_35 (rw_aload_n (pc' := 36) (v := .ref r0) rfl rfl rfl ?_)
  refine wp_of e14 c14_36 (rw_iconst (pc' := 37) rfl ?_)
  refine wp_of e14 c14_37 (xp_I (pc' := 40) lf_7_62 w1166 g0 sh_27 (by decide) (by decide) ty_27_14 rfl rfl (by decide) (by decide) ⟨by decide, by decide⟩ rfl (fun H1169 e1170 w1171 => ?_))
  have f1172 := f1167.put' e1170 g0 rfl
  have k1173 : H1169 r0 14 = 0 := wq_u_s e1170
  refine wp_of e14 c14_40 (rw_aload_n (pc' := 41) (v := .ref r0) rfl rfl rfl ?_)
  refine wp_of e14 c14_41 (rw_bipush (pc' := 43) (z := -2) rfl (by decide) ?_)
  refine wp_of e14 c14_43 (xp_I (pc' := 46) lf_7_37 w1171 g0 sh_27 (by decide) (by decide) ty_27_15 rfl rfl (by decide) (by decide) ⟨by decide, by decide⟩ rfl (fun H1174 e1175 w1176 => ?_))
  have f1177 := f1172.put' e1175 g0 rfl
  have k1178 : H1174 r0 15 = -2 := wq_u_s e1175
  refine wp_of e14 c14_46 (rw_aload_n (pc' := 47) (v := .ref r0) rfl rfl rfl ?_)
  refine wp_of e14 c14_47 (rw_iconst (pc' := 48) rfl ?_)
  refine wp_of e14 c14_48 (xp_I (pc' := 51) lf_7_65 w1176 g0 sh_27 (by decide) (by decide) ty_27_16 rfl rfl (by decide) (by decide) ⟨by decide, by decide⟩ rfl (fun H1179 e1180 w1181 => ?_))
  have f1182 := f1177.put' e1180 g0 rfl
  have k1183 : H1179 r0 16 = 0 := wq_u_s e1180
  refine wp_of e14 c14_51 (rw_aload_n (pc' := 52) (v := .ref r0) rfl rfl rfl ?_)
  refine wp_of e14 c14_52 (rw_iconst (pc' := 53) rfl ?_)
  refine wp_of e14 c14_53 (xp_I (pc' := 56) lf_7_68 w1181 g0 sh_27 (by decide) (by decide) ty_27_17 rfl rfl (by decide) (by decide) ⟨by decide, by decide⟩ rfl (fun H1184 e1185 w1186 => ?_))
  have f1187 := f1182.put' e1185 g0 rfl
  have k1188 : H1184 r0 17 = 0 := wq_u_s e1185
  refine wp_of e14 c14_56 (rw_aload_n (pc' := 57) (v := .ref r0) rfl rfl rfl ?_)
  refine wp_of e14 c14_57 (rw_lconst (pc' := 58) (z := 0) rfl rfl ?_)
  refine wp_of e14 c14_58 (xp_L (pc' := 61) lf_7_71 w1186 g0 sh_27 (by decide) (by decide) ty_27_18 rfl rfl (by decide) (by decide) ⟨by decide, by decide⟩ rfl (fun H1189 e1190 w1191 => ?_))
  have f1192 := f1187.put' e1190 g0 rfl
  have k1193 : H1189 r0 18 = 0 := wq_u_s e1190
  refine wp_of e14 c14_61 (rw_iconst (pc' := 62) rfl ?_)
  refine wp_of e14 c14_62 (rw_istore_n (pc' := 63) (z := 0) (L' := [(1, vI 0), (0, .ref r0)]) rfl rfl rfl ?_)
  have lp1258 : ∀ (n1259 : Nat) (v1261 : Int) (H1262 : wq_H), WT T H1262 → wfr [(29, 999)] T H1189 H1262 → (0 ≤ v1261 ∧ v1261 ≤ 24) → SZ T H1262 r0 v1261 → (24 - v1261).toNat = n1259 → wp kt 0 14 63 [(1, vI v1261), (0, .ref r0)] [] T H1262 (uq_14 r0 T H) := by
    intro n1259
    induction n1259 using Nat.strongRecOn with
    | _ n1259 ih1260 =>
      intro v1261 H1262 w1263 f1264 b1265 h1267 m1266
      have f1268 := f1192.tr f1264 rfl
      refine wp_of e14 c14_63 (rw_iload_n (pc' := 64) (z := v1261) rfl rfl ?_)
      refine wp_of e14 c14_64 (rw_bipush (pc' := 66) (z := 24) rfl (by decide) ?_)
      refine wp_of e14 c14_66 (rw_icmp_ge (p1 := 83) (p2 := 69) (by decide) rfl ⟨Int.le_trans (by decide) b1265.1, Int.le_trans b1265.2 (by decide)⟩ ⟨by decide, by decide⟩ (fun c1269 => ?_) (fun c1269 => ?_))
      · have k1270 : H1262 r0 7 = H1134 r0 7 := ((f1264 r0 7 _ g0 rfl).trans ((wq_u_j e1190 rfl).trans ((wq_u_j e1185 rfl).trans ((wq_u_j e1180 rfl).trans ((wq_u_j e1175 rfl).trans ((wq_u_j e1170 rfl).trans ((wq_u_j e1165 rfl).trans ((wq_u_j e1160 rfl).trans ((wq_u_j e1155 rfl).trans ((wq_u_j e1150 rfl).trans ((wq_u_j e1145 rfl).trans (wq_u_j e1140 rfl))))))))))))
        have k1271 : H1262 r0 8 = H1139 r0 8 := ((f1264 r0 8 _ g0 rfl).trans ((wq_u_j e1190 rfl).trans ((wq_u_j e1185 rfl).trans ((wq_u_j e1180 rfl).trans ((wq_u_j e1175 rfl).trans ((wq_u_j e1170 rfl).trans ((wq_u_j e1165 rfl).trans ((wq_u_j e1160 rfl).trans ((wq_u_j e1155 rfl).trans ((wq_u_j e1150 rfl).trans (wq_u_j e1145 rfl)))))))))))
        have k1272 : H1262 r0 9 = H1144 r0 9 := ((f1264 r0 9 _ g0 rfl).trans ((wq_u_j e1190 rfl).trans ((wq_u_j e1185 rfl).trans ((wq_u_j e1180 rfl).trans ((wq_u_j e1175 rfl).trans ((wq_u_j e1170 rfl).trans ((wq_u_j e1165 rfl).trans ((wq_u_j e1160 rfl).trans ((wq_u_j e1155 rfl).trans (wq_u_j e1150 rfl))))))))))
        have k1273 : H1262 r0 10 = H1149 r0 10 := ((f1264 r0 10 _ g0 rfl).trans ((wq_u_j e1190 rfl).trans ((wq_u_j e1185 rfl).trans ((wq_u_j e1180 rfl).trans ((wq_u_j e1175 rfl).trans ((wq_u_j e1170 rfl).trans ((wq_u_j e1165 rfl).trans ((wq_u_j e1160 rfl).trans (wq_u_j e1155 rfl)))))))))
        have k1274 : H1262 r0 11 = H1154 r0 11 := ((f1264 r0 11 _ g0 rfl).trans ((wq_u_j e1190 rfl).trans ((wq_u_j e1185 rfl).trans ((wq_u_j e1180 rfl).trans ((wq_u_j e1175 rfl).trans ((wq_u_j e1170 rfl).trans ((wq_u_j e1165 rfl).trans (wq_u_j e1160 rfl))))))))
        have k1275 : H1262 r0 12 = H1159 r0 12 := ((f1264 r0 12 _ g0 rfl).trans ((wq_u_j e1190 rfl).trans ((wq_u_j e1185 rfl).trans ((wq_u_j e1180 rfl).trans ((wq_u_j e1175 rfl).trans ((wq_u_j e1170 rfl).trans (wq_u_j e1165 rfl)))))))
        have k1276 : H1262 r0 13 = H1164 r0 13 := ((f1264 r0 13 _ g0 rfl).trans ((wq_u_j e1190 rfl).trans ((wq_u_j e1185 rfl).trans ((wq_u_j e1180 rfl).trans ((wq_u_j e1175 rfl).trans (wq_u_j e1170 rfl))))))
        have k1277 : H1262 r0 14 = H1169 r0 14 := ((f1264 r0 14 _ g0 rfl).trans ((wq_u_j e1190 rfl).trans ((wq_u_j e1185 rfl).trans ((wq_u_j e1180 rfl).trans (wq_u_j e1175 rfl)))))
        have k1278 : H1262 r0 15 = H1174 r0 15 := ((f1264 r0 15 _ g0 rfl).trans ((wq_u_j e1190 rfl).trans ((wq_u_j e1185 rfl).trans (wq_u_j e1180 rfl))))
        have k1279 : H1262 r0 16 = H1179 r0 16 := ((f1264 r0 16 _ g0 rfl).trans ((wq_u_j e1190 rfl).trans (wq_u_j e1185 rfl)))
        have k1280 : H1262 r0 17 = H1184 r0 17 := ((f1264 r0 17 _ g0 rfl).trans (wq_u_j e1190 rfl))
        have _0 : xD0 0 0 = 0 ∧ xD0 0 1 = 0 ∧ xD0 0 2 = 0 ∧ xD0 0 3 = 0 ∧ xD0 0 4 = 0 ∧ xD0 0 5 = 0 ∧ xD0 0 6 = 0 ∧ xD0 0 7 = 0 ∧ xD0 0 8 = -1 ∧ xsx (xD0 0 8) = -2 ∧ xcn (xD0 13) 24 = 0 := ⟨rfl, rfl, rfl, rfl, rfl, rfl, rfl, rfl, rfl, rfl, rfl⟩
        exact wp_return e14 c14_83 rfl ⟨rfl, w1263, f1268, rfl, ⟨DC_mk ⟨by omega, by omega, by omega, by omega, by omega, by omega, by omega, by omega, by omega, by omega, by omega, by omega, by omega, by omega, by omega, by omega⟩ (DQ_0 (by omega) (by omega)) (ST_z h1267 (by omega) (fun k _ => rfl)) (SV_z w1263 g0 (fun k => Int.le_refl _)) (DA_0 (n := 19) w1263 g0 rfl (by decide) rfl (Int.le_refl _)) (DA_0 (n := 19) w1263 g0 rfl (by decide) rfl (Int.le_refl _)) (DA_0 (n := 19) w1263 g0 rfl (by decide) rfl (Int.le_refl _)) (DA_0 (n := 19) w1263 g0 rfl (by decide) rfl (Int.le_refl _)) ⟨rfl, rfl, rfl, rfl, rfl⟩ ⟨rfl, rfl, rfl⟩, CZ_0 (by omega) (Int.le_refl _)⟩⟩
      · refine wp_of e14 c14_69 (rw_aload_n (pc' := 70) (v := .ref r0) rfl rfl rfl ?_)
        refine wp_of e14 c14_70 (xg_R (pc' := 73) lf_7_17 w1263 g0 sh_27 (by decide) (by decide) ty_27_1 rfl rfl (fun r1281 q1282 g1283 => ?_))
        refine wp_of e14 c14_73 (rw_iload_n (pc' := 74) (z := v1261) rfl rfl ?_)
        refine wp_of e14 c14_74 (rw_bipush (pc' := 76) (z := -2) rfl (by decide) ?_)
        refine wp_of e14 c14_76 (xs_I (pc' := 77) w1263 g1283 (by decide) sh_29 (by decide) (ty_29 _) (by decide) (by decide) ⟨by decide, by decide⟩ (b1265.1) (by omega) rfl (fun H1284 e1285 w1286 => ?_))
        have f1287 := f1268.put' e1285 g1283 rfl
        have f1288 := f1264.put' e1285 g1283 rfl
        have h1289 : SZ T H1284 r0 (v1261 + 1) := SZ_put h1267 q1282 g0 g1283 e1285 (by omega) rfl
        refine wp_of e14 c14_77 (rw_iinc (pc' := 80) (z := v1261) (L' := [(1, vI (v1261 + 1)), (0, .ref r0)]) rfl rfl rfl rfl ?_)
        refine wp_of e14 c14_80 (rw_goto (p1 := 63) (by decide) ?_)
        exact wp_lc (ks := [1, 0]) (wl_c rfl (wl_c rfl wl_n)) rfl (by decide) (ih1260 _ (by omega) (v1261 + 1) H1284 w1286 f1288 ⟨by omega, by omega⟩ h1289 rfl)
  have h1290 : SZ T H1189 r0 0 := SZ_0 w1191 g0
  exact wp_lc (ks := [1, 0]) (wl_c rfl (wl_c rfl wl_n)) rfl (by decide) (lp1258 _ 0 H1189 w1191 wfr.rf ⟨by decide, by decide⟩ h1290 rfl)
/-! StrikeAwake$Reader.readsLine(LStrikeAwake$Parish;)Z  -/
abbrev uq_17 (r0 : Nat) (r1 : Nat) (tk : Nat) (rb : Nat) (B : Nat → Int) (n : Int) (q : Int) (d : xD) (T : wq_T) (H : wq_H) : Option Value → wq_T → wq_H → Prop := fun r T' H' => T = T' ∧ WT T H' ∧ wfr [(27, 7), (27, 8), (27, 9), (27, 10), (27, 11), (27, 12), (27, 13), (27, 14), (27, 15), (27, 16), (35, 6), (35, 7), (35, 8), (35, 9), (35, 10), (35, 11), (35, 12), (35, 13), (35, 14), (35, 15), (35, 16), (35, 17), (3, 1), (3, 2), (3, 3), (3, 4), (4, 2), (4, 3), (4, 4), (4, 5), (4, 6), (31, 999), (34, 999), (29, 999), (30, 999), (33, 999), (32, 999)] T H H' ∧ ∃ z : Int, some (vI z) = r ∧ (0 ≤ z ∧ z ≤ 1) ∧ (((z = 1) ∧ ((xline B n q d).1 = 0) ∧ (q ≤ (xline B n q d).2.2) ∧ (H' r0 3 = H r0 3) ∧ TC T H' tk B n (xline B n q d).2.2 ∧ DC T H' r1 (xdline B n q d) ∧ CZ T H' r1 ((xdline B n q d) 0 3)) ∨ ((z = 0) ∧ ((xline B n q d).1 ≠ 0) ∧ ((xline B n q d).2.2 = (xline B n q d).2.1) ∧ (H' r0 3 = (xline B n q d).1) ∧ (H' r0 4 = (xline B n q d).2.1)))
set_option maxHeartbeats 4000000 in
theorem u_17 {kt : Nat → Option mc_E} {T : wq_T} {H : wq_H} {r0 : Nat} {r1 : Nat} {tk : Nat} {rb : Nat} {B : Nat → Int} {n : Int} {q : Int} {d : xD} (hW : WT T H) (g0 : T.2.2.2 r0 = some 3) (g1 : T.2.2.2 r1 = some 27) (qtk : H r0 0 = (tk : Int)) (gtk : T.2.2.2 tk = some 4) (qrb : H tk 0 = (rb : Int)) (grb : T.2.2.2 rb = some 2) (hTC_tk : TC T H tk B n q) (hDC_r1 : DC T H r1 d) (hDD_r1 : DD T H r1 ) (hCZ_r1 : CZ T H r1 (d 0 3)) : wpc kt 6 17 [.ref r0, .ref r1] T H (uq_17 r0 r1 tk rb B n q d T H) := by
  refine wp_enter e17 (Nat.le_of_ble_eq_true rfl) rfl ?_
  have f0 : wfr [(27, 7), (27, 8), (27, 9), (27, 10), (27, 11), (27, 12), (27, 13), (27, 14), (27, 15), (27, 16), (35, 6), (35, 7), (35, 8), (35, 9), (35, 10), (35, 11), (35, 12), (35, 13), (35, 14), (35, 15), (35, 16), (35, 17), (3, 1), (3, 2), (3, 3), (3, 4), (4, 2), (4, 3), (4, 4), (4, 5), (4, 6), (31, 999), (34, 999), (29, 999), (30, 999), (33, 999), (32, 999)] T H H := wfr.rf
  show wp _ _ 17 0 [(0, .ref r0), (1, .ref r1)] [] _ H _
  have u1729 := TC_k hTC_tk
  have u1730 := DC_k hDC_r1
  have _b := @xre_b B n q
  have _s := @xsx_e (d 0 8)
  refine wp_of e17 c17_0 (rw_aload_n (pc' := 1) (v := .ref r0) rfl rfl rfl ?_)
  refine wp_of e17 c17_1 (xc_V (pc' := 4) (r := r0) (as := []) (st := []) (lm_1_54) rfl rfl (Nat.le_of_ble_eq_true rfl) hW g0 sh_3 (by decide) rfl (by decide) (u_18 (B := B) (n := n) (q := q) hW g0 qtk gtk qrb grb hTC_tk) (fun R1731 T1732 H1733 p1734 => ?_))
  obtain ⟨e1735, e1737, e1736⟩ := p1734
  subst e1735
  subst e1737
  rcases e1736 with ⟨e1736, b1741⟩ | ⟨r1738, e1736, b1739, b1740, b1741⟩
  · subst e1736
    show wp _ _ 17 4 [(0, .ref r0), (1, .ref r1)] [.null] _ H _
    refine wp_of e17 c17_4 (rw_astore_n (pc' := 5) (v := .null) (L' := [(2, .null), (0, .ref r0), (1, .ref r1)]) rfl rfl rfl rfl ?_)
    refine wp_of e17 c17_5 (rw_aload_n (pc' := 6) (v := .null) rfl rfl rfl ?_)
    refine wp_of e17 c17_6 (rw_ifnull_n (p1 := 16) (p2 := 9) (by decide) rfl ?_)
    refine wp_of e17 c17_16 (rw_aload_n (pc' := 17) (v := .ref r0) rfl rfl rfl ?_)
    refine wp_of e17 c17_17 (rw_iconst (pc' := 18) rfl ?_)
    refine wp_of e17 c17_18 (xc_V (pc' := 21) (r := r0) (as := [vI 1]) (st := []) (lm_1_47) rfl rfl (Nat.le_of_ble_eq_true rfl) hW g0 sh_3 (by decide) rfl (by decide) (u_20  hW g0 ⟨by decide, by decide⟩ qtk gtk) (fun R1742 T1743 H1744 p1745 => ?_))
    obtain ⟨e1746, w1748, f1749, z1750, e1747, b1751, p1752⟩ := p1745
    subst e1746
    subst e1747
    obtain ⟨a1753, a1754, a1755⟩ := p1752
    have f1756 := f0.tr f1749 rfl
    show wp _ _ 17 21 [(2, .null), (0, .ref r0), (1, .ref r1)] [vI z1750] _ H1744 _
    have o1757 : (xline B n q d) = (1, q, q) := by
      unfold xline xl0 xl1 xl2 xl3 xl4 xl5 xl6 xl7 xper
      repeat first | rw [xs_0 (Int.le_antisymm (by omega -splitDisjunctions) (by omega -splitDisjunctions))] | rw [xs_1 (by omega -splitDisjunctions)] | rw [if_pos (Int.le_antisymm (by omega -splitDisjunctions) (by omega -splitDisjunctions))] | rw [if_pos (by omega -splitDisjunctions)] | rw [if_pos (And.intro (by omega -splitDisjunctions) (by omega -splitDisjunctions))] | rw [if_neg (by omega -splitDisjunctions)] | rw [xs_1 (by omega)] | rw [if_neg (by omega)] | rw [xs_0 (by omega)] | rw [if_pos (by omega)]
      first | done | rfl | assumption | (exfalso; omega -splitDisjunctions) | (refine Prod.ext ?_ (Prod.ext ?_ ?_) <;> (try dsimp only) <;> omega) | (exfalso; omega)
    have o1757a : ((xline B n q d)).1 = 1 := by rw [o1757]
    have o1757b : ((xline B n q d)).2.1 = q := by rw [o1757]
    have o1757c : ((xline B n q d)).2.2 = q := by rw [o1757]
    exact wp_zreturn e17 c17_21 rfl (by omega) ⟨rfl, w1748, f1756, z1750, rfl, ⟨b1751.1, b1751.2⟩, (Or.inr ⟨by omega, by omega, by omega, by omega, by omega⟩)⟩
  · subst e1736
    have c1758 : r1738 = 16 ∨ r1738 = 17 ∨ r1738 = 18 ∨ r1738 = 19 ∨ r1738 = 20 ∨ r1738 = 21 ∨ r1738 = 22 ∨ r1738 = 23 ∨ r1738 = 24 ∨ r1738 = 25 ∨ r1738 = 26 := by omega
    rcases c1758 with c1758 | c1758 | c1758 | c1758 | c1758 | c1758 | c1758 | c1758 | c1758 | c1758 | c1758
    · subst c1758
      show wp _ _ 17 4 [(0, .ref r0), (1, .ref r1)] [.ref 16] _ H _
      refine wp_of e17 c17_4 (rw_astore_n (pc' := 5) (v := .ref 16) (L' := [(2, .ref 16), (0, .ref r0), (1, .ref r1)]) rfl rfl rfl rfl ?_)
      refine wp_of e17 c17_5 (rw_aload_n (pc' := 6) (v := .ref 16) rfl rfl rfl ?_)
      refine wp_of e17 c17_6 (rw_ifnull_r (p1 := 16) (p2 := 9) (by decide) rfl ?_)
      refine wp_of e17 c17_9 (rw_aload_n (pc' := 10) (v := .ref 16) rfl rfl rfl ?_)
      have k1759 : H 16 1 = 1 := (hW.2 16 _ (hW.1.2.2 0 (by decide))).2.2 1 (by decide) |> fun z => by have z1 : (1 : Int) ≤ H 16 1 ∧ H 16 1 ≤ 1 := z; omega
      refine wp_of e17 c17_10 (rw_getI (pc' := 13) (n := 2) (e := _) (lf_1_58).choose_spec.1 (lf_1_58).choose_spec.2.1 (hW.sh (hW.1.2.2 0 (by decide)) rfl) (by decide) rfl rfl ?_)
      rw [k1759]
      refine wp_of e17 c17_13 (rw_if_ne (p1 := 22) (p2 := 16) (by decide) rfl ⟨by decide, by decide⟩ (fun c1760 => ?_) (fun c1760 => ?_))
      · refine wp_of e17 c17_22 (rw_aload_n (pc' := 23) (v := .ref r1) rfl rfl rfl ?_)
        refine wp_of e17 c17_23 (rw_aload_n (pc' := 24) (v := .ref 16) rfl rfl rfl ?_)
        refine wp_of e17 c17_24 (xc_V (pc' := 27) (r := r1) (as := [.ref 16]) (st := []) (lm_1_63) rfl rfl (Nat.le_of_ble_eq_true rfl) hW g1 sh_27 (by decide) rfl (by decide) (u_21_16  hW g1) (fun R1761 T1762 H1763 p1764 => ?_))
        obtain ⟨e1765, e1767, z1768, e1766, b1769, p1770⟩ := p1764
        subst e1765
        subst e1766
        subst e1767
        rcases p1770 with ⟨a1771, a1772⟩ | ⟨a1773, a1774⟩
        · show wp _ _ 17 27 [(2, .ref 16), (0, .ref r0), (1, .ref r1)] [vI z1768] _ H _
          refine wp_of e17 c17_27 (rw_aload_n (pc' := 28) (v := .ref 16) rfl rfl rfl ?_)
          have k1775 : H 16 1 = 1 := (hW.2 16 _ (hW.1.2.2 0 (by decide))).2.2 1 (by decide) |> fun z => by have z1 : (1 : Int) ≤ H 16 1 ∧ H 16 1 ≤ 1 := z; omega
          refine wp_of e17 c17_28 (rw_getI (pc' := 31) (n := 2) (e := _) (lf_1_58).choose_spec.1 (lf_1_58).choose_spec.2.1 (hW.sh (hW.1.2.2 0 (by decide)) rfl) (by decide) rfl rfl ?_)
          rw [k1775]
          refine wp_of e17 c17_31 (rw_icmp_lt (p1 := 68) (p2 := 34) (by decide) rfl ⟨b1769.1, b1769.2⟩ ⟨by decide, by decide⟩ (fun c1776 => ?_) (fun c1776 => ?_))
          · exfalso
            omega
          · refine wp_of e17 c17_34 (rw_aload_n (pc' := 35) (v := .ref 16) rfl rfl rfl ?_)
            refine wp_of e17 c17_35 (rw_gs (pc' := 38) (k := 16) rfl rfl rfl rfl ?_)
            refine wp_of e17 c17_38 (rw_acmp_eq (p1 := 48) (p2 := 41) (a := some 16) (b := some 16) rfl rfl (by decide) rfl (fun q9 => ?_) (fun q9 => absurd q9 (by decide)))
            refine wp_of e17 c17_48 (rw_iconst (pc' := 49) rfl ?_)
            refine wp_of e17 c17_49 (rw_goto (p1 := 53) (by decide) ?_)
            refine wp_of e17 c17_53 (rw_istore_n (pc' := 54) (z := 1) (L' := [(3, vI 1), (2, .ref 16), (0, .ref r0), (1, .ref r1)]) rfl rfl rfl ?_)
            refine wp_of e17 c17_54 (rw_aload_n (pc' := 55) (v := .ref r0) rfl rfl rfl ?_)
            refine wp_of e17 c17_55 (rw_iload_n (pc' := 56) (z := 1) rfl rfl ?_)
            refine wp_of e17 c17_56 (rw_if_eq (p1 := 63) (p2 := 59) (by decide) rfl ⟨by decide, by decide⟩ (fun c1777 => ?_) (fun c1777 => ?_))
            · exfalso
              omega
            · refine wp_of e17 c17_59 (rw_iconst (pc' := 60) rfl ?_)
              refine wp_of e17 c17_60 (rw_goto (p1 := 64) (by decide) ?_)
              refine wp_of e17 c17_64 (xc_V (pc' := 67) (r := r0) (as := [vI 3]) (st := []) (lm_1_47) rfl rfl (Nat.le_of_ble_eq_true rfl) hW g0 sh_3 (by decide) rfl (by decide) (u_20  hW g0 ⟨by decide, by decide⟩ qtk gtk) (fun R1778 T1779 H1780 p1781 => ?_))
              obtain ⟨e1782, w1784, f1785, z1786, e1783, b1787, p1788⟩ := p1781
              subst e1782
              subst e1783
              obtain ⟨a1789, a1790, a1791⟩ := p1788
              have f1792 := f0.tr f1785 rfl
              show wp _ _ 17 67 [(3, vI 1), (2, .ref 16), (0, .ref r0), (1, .ref r1)] [vI z1786] _ H1780 _
              have o1793 : (xline B n q d) = (3, q, q) := by
                unfold xline xl0 xl1 xl2 xl3 xl4 xl5 xl6 xl7 xper
                repeat first | rw [xs_0 (Int.le_antisymm (by omega -splitDisjunctions) (by omega -splitDisjunctions))] | rw [xs_1 (by omega -splitDisjunctions)] | rw [if_pos (Int.le_antisymm (by omega -splitDisjunctions) (by omega -splitDisjunctions))] | rw [if_pos (by omega -splitDisjunctions)] | rw [if_pos (And.intro (by omega -splitDisjunctions) (by omega -splitDisjunctions))] | rw [if_neg (by omega -splitDisjunctions)] | rw [xs_1 (by omega)] | rw [if_neg (by omega)] | rw [xs_0 (by omega)] | rw [if_pos (by omega)]
                first | done | rfl | assumption | (exfalso; omega -splitDisjunctions) | (refine Prod.ext ?_ (Prod.ext ?_ ?_) <;> (try dsimp only) <;> omega) | (exfalso; omega)
              have o1793a : ((xline B n q d)).1 = 3 := by rw [o1793]
              have o1793b : ((xline B n q d)).2.1 = q := by rw [o1793]
              have o1793c : ((xline B n q d)).2.2 = q := by rw [o1793]
              exact wp_zreturn e17 c17_67 rfl (by omega) ⟨rfl, w1784, f1792, z1786, rfl, ⟨b1787.1, b1787.2⟩, (Or.inr ⟨by omega, by omega, by omega, by omega, by omega⟩)⟩
        · show wp _ _ 17 27 [(2, .ref 16), (0, .ref r0), (1, .ref r1)] [vI z1768] _ H _
          refine wp_of e17 c17_27 (rw_aload_n (pc' := 28) (v := .ref 16) rfl rfl rfl ?_)
          have k1794 : H 16 1 = 1 := (hW.2 16 _ (hW.1.2.2 0 (by decide))).2.2 1 (by decide) |> fun z => by have z1 : (1 : Int) ≤ H 16 1 ∧ H 16 1 ≤ 1 := z; omega
          refine wp_of e17 c17_28 (rw_getI (pc' := 31) (n := 2) (e := _) (lf_1_58).choose_spec.1 (lf_1_58).choose_spec.2.1 (hW.sh (hW.1.2.2 0 (by decide)) rfl) (by decide) rfl rfl ?_)
          rw [k1794]
          refine wp_of e17 c17_31 (rw_icmp_lt (p1 := 68) (p2 := 34) (by decide) rfl ⟨b1769.1, b1769.2⟩ ⟨by decide, by decide⟩ (fun c1795 => ?_) (fun c1795 => ?_))
          · refine wp_of e17 c17_68 (rw_aload_n (pc' := 69) (v := .ref r0) rfl rfl rfl ?_)
            refine wp_of e17 c17_69 (xg_K (pc' := 72) lf_1_12 hW g0 sh_3 (by decide) (by decide) rfl qtk rfl ?_)
            have h1796 : TP T H rb B := TC_tp hTC_tk qrb
            refine wp_of e17 c17_72 (xc_V (pc' := 75) (r := tk) (as := []) (st := []) (lm_1_74) rfl rfl (Nat.le_of_ble_eq_true rfl) hW gtk sh_4 (by decide) rfl (by decide) (u_16 (B := B) (n := n) (a := (xE B n q)) (q := (xN B n q)) hW gtk qrb grb (by omega) (by omega) (by omega) (rfl) h1796) (fun R1797 T1798 H1799 p1800 => ?_))
            obtain ⟨e1801, w1803, f1804, e1802, p1805⟩ := p1800
            subst e1801
            subst e1802
            have f1807 := f0.tr f1804 rfl
            show wp _ _ 17 75 [(2, .ref 16), (0, .ref r0), (1, .ref r1)] [] _ H1799 _
            have u1808 := TC_k p1805
            refine wp_of e17 c17_75 (rw_gs (pc' := 78) (k := 2) rfl rfl rfl rfl ?_)
            refine wp_of e17 c17_78 (rw_aload_n (pc' := 79) (v := .ref 16) rfl rfl rfl ?_)
            refine wp_of e17 c17_79 (rw_ord (pc' := 82) rfl rfl rfl (by decide) (Nat.le_of_ble_eq_true rfl) rfl ?_)
            show wp _ _ 17 82 [(2, .ref 16), (0, .ref r0), (1, .ref r1)] [vI 0, .ref 2] _ H1799 _
            have k1809 : H1799 2 (0 : Int).toNat = 1 := (w1803.2 2 _ w1803.1.2.1).2.2 0 (by decide) |> fun z => by have z1 : (1 : Int) ≤ H1799 2 0 ∧ H1799 2 0 ≤ 1 := z; exact Int.le_antisymm z1.2 z1.1
            refine wp_of e17 c17_82 (rw_iaload (pc' := 83) (n := 11) (w1803.sh w1803.1.2.1 rfl) (by decide) (by decide) (by decide) rfl rfl ?_)
            rw [k1809]
            refine wp_of e17 c17_83 (rw_tsw (p1 := 128) ⟨by omega, by omega⟩ (by decide) ?_)
            refine wp_of e17 c17_128 (rw_aload_n (pc' := 129) (v := .ref r0) rfl rfl rfl ?_)
            refine wp_of e17 c17_129 (rw_aload_n (pc' := 130) (v := .ref r1) rfl rfl rfl ?_)
            have k1811 : H1799 r0 0 = H r0 0 := (f1804 r0 0 _ g0 rfl)
            have q1812 : H1799 r0 0 = (tk : Int) := k1811.trans qtk
            have k1813 : H1799 tk 0 = H tk 0 := (f1804 tk 0 _ gtk rfl)
            have q1814 : H1799 tk 0 = (rb : Int) := k1813.trans qrb
            have k1815 : H1799 r0 3 = H r0 3 := (f1804 r0 3 _ g0 rfl)
            have h1816 : DC T H1799 r1 d := (DC_fr hW g1 f1804 rfl hDC_r1)
            have h1817 : CZ T H1799 r1 (d 0 3) := (CZ_fr hW g1 f1804 rfl hCZ_r1)
            refine wp_of e17 c17_130 (xc_V (pc' := 133) (r := r0) (as := [.ref r1]) (st := []) (lm_1_87) rfl rfl (Nat.le_of_ble_eq_true rfl) w1803 g0 sh_3 (by decide) rfl (by decide) (u_22 (B := B) (n := n) (q := ((xN B n q))) (d := d) w1803 g0 g1 q1812 gtk q1814 grb p1805 h1816 h1817) (fun R1818 T1819 H1820 p1821 => ?_))
            obtain ⟨e1822, w1824, f1825, z1826, e1823, b1827, p1828⟩ := p1821
            subst e1822
            subst e1823
            rcases p1828 with ⟨a1829, a1830, a1831, a1832, a1833, a1834, a1835, a1836⟩ | ⟨a1837, a1838, a1839, a1840, a1841⟩
            · have f1842 := f1807.tr f1825 rfl
              show wp _ _ 17 133 [(2, .ref 16), (0, .ref r0), (1, .ref r1)] [vI z1826] _ H1820 _
              have u1843 := TC_k a1834
              have u1844 := DC_k a1835
              have o1845 : (xline B n q d) = (0, ((xN B n q)), (xN B n (xN B n (xN B n (xN B n (xN B n (xN B n ((xN B n q))))))))) := by
                unfold xline xl0 xl1 xl2 xl3 xl4 xl5 xl6 xl7 xper
                repeat first | rw [xs_0 (Int.le_antisymm (by omega -splitDisjunctions) (by omega -splitDisjunctions))] | rw [xs_1 (by omega -splitDisjunctions)] | rw [if_pos (Int.le_antisymm (by omega -splitDisjunctions) (by omega -splitDisjunctions))] | rw [if_pos (by omega -splitDisjunctions)] | rw [if_pos (And.intro (by omega -splitDisjunctions) (by omega -splitDisjunctions))] | rw [if_neg (by omega -splitDisjunctions)] | rw [xs_1 (by omega)] | rw [if_neg (by omega)] | rw [xs_0 (by omega)] | rw [if_pos (by omega)]
                first | done | rfl | assumption | (exfalso; omega -splitDisjunctions) | (refine Prod.ext ?_ (Prod.ext ?_ ?_) <;> (try dsimp only) <;> omega) | (exfalso; omega)
              have o1845a : ((xline B n q d)).1 = 0 := by rw [o1845]
              have o1845b : ((xline B n q d)).2.1 = ((xN B n q)) := by rw [o1845]
              have o1845c : ((xline B n q d)).2.2 = (xN B n (xN B n (xN B n (xN B n (xN B n (xN B n ((xN B n q)))))))) := by rw [o1845]
              have o1846 : xdline B n q d = ((xdlaw B n ((xN B n q)) d)) := by
                unfold xdline
                repeat first | rw [xs_0 (Int.le_antisymm (by omega -splitDisjunctions) (by omega -splitDisjunctions))] | rw [xs_1 (by omega -splitDisjunctions)] | rw [if_pos (Int.le_antisymm (by omega -splitDisjunctions) (by omega -splitDisjunctions))] | rw [if_pos (by omega -splitDisjunctions)] | rw [if_pos (And.intro (by omega -splitDisjunctions) (by omega -splitDisjunctions))] | rw [if_neg (by omega -splitDisjunctions)] | rw [xs_1 (by omega)] | rw [if_neg (by omega)] | rw [xs_0 (by omega)] | rw [if_pos (by omega)]
                first | done | rfl
              exact wp_zreturn e17 c17_133 rfl (by omega) ⟨rfl, w1824, f1842, z1826, rfl, ⟨b1827.1, b1827.2⟩, (Or.inl ⟨by omega, by omega, by omega, by omega, by rw [o1845]; exact a1834, by rw [o1846]; exact a1835, by rw [o1846]; exact a1836⟩)⟩
            · have f1847 := f1807.tr f1825 rfl
              show wp _ _ 17 133 [(2, .ref 16), (0, .ref r0), (1, .ref r1)] [vI z1826] _ H1820 _
              have o1848 : (xline B n q d) = ((xlaw B n ((xN B n q))).1, (xlaw B n ((xN B n q))).2.1, (xlaw B n ((xN B n q))).2.2) := by
                unfold xline xl0 xl1 xl2 xl3 xl4 xl5 xl6 xl7 xper
                repeat first | rw [xs_0 (Int.le_antisymm (by omega -splitDisjunctions) (by omega -splitDisjunctions))] | rw [xs_1 (by omega -splitDisjunctions)] | rw [if_pos (Int.le_antisymm (by omega -splitDisjunctions) (by omega -splitDisjunctions))] | rw [if_pos (by omega -splitDisjunctions)] | rw [if_pos (And.intro (by omega -splitDisjunctions) (by omega -splitDisjunctions))] | rw [if_neg (by omega -splitDisjunctions)] | rw [xs_1 (by omega)] | rw [if_neg (by omega)] | rw [xs_0 (by omega)] | rw [if_pos (by omega)]
                first | done | rfl | assumption | (exfalso; omega -splitDisjunctions) | (refine Prod.ext ?_ (Prod.ext ?_ ?_) <;> (try dsimp only) <;> omega) | (exfalso; omega)
              have o1848a : ((xline B n q d)).1 = (xlaw B n ((xN B n q))).1 := by rw [o1848]
              have o1848b : ((xline B n q d)).2.1 = (xlaw B n ((xN B n q))).2.1 := by rw [o1848]
              have o1848c : ((xline B n q d)).2.2 = (xlaw B n ((xN B n q))).2.2 := by rw [o1848]
              exact wp_zreturn e17 c17_133 rfl (by omega) ⟨rfl, w1824, f1847, z1826, rfl, ⟨b1827.1, b1827.2⟩, (Or.inr ⟨by omega, by omega, by omega, by omega, by omega⟩)⟩
          · exfalso
            omega
      · exfalso
        omega
    · subst c1758
      show wp _ _ 17 4 [(0, .ref r0), (1, .ref r1)] [.ref 17] _ H _
      refine wp_of e17 c17_4 (rw_astore_n (pc' := 5) (v := .ref 17) (L' := [(2, .ref 17), (0, .ref r0), (1, .ref r1)]) rfl rfl rfl rfl ?_)
      refine wp_of e17 c17_5 (rw_aload_n (pc' := 6) (v := .ref 17) rfl rfl rfl ?_)
      refine wp_of e17 c17_6 (rw_ifnull_r (p1 := 16) (p2 := 9) (by decide) rfl ?_)
      refine wp_of e17 c17_9 (rw_aload_n (pc' := 10) (v := .ref 17) rfl rfl rfl ?_)
      have k1849 : H 17 1 = 6 := (hW.2 17 _ (hW.1.2.2 1 (by decide))).2.2 1 (by decide) |> fun z => by have z1 : (6 : Int) ≤ H 17 1 ∧ H 17 1 ≤ 6 := z; omega
      refine wp_of e17 c17_10 (rw_getI (pc' := 13) (n := 2) (e := _) (lf_1_58).choose_spec.1 (lf_1_58).choose_spec.2.1 (hW.sh (hW.1.2.2 1 (by decide)) rfl) (by decide) rfl rfl ?_)
      rw [k1849]
      refine wp_of e17 c17_13 (rw_if_ne (p1 := 22) (p2 := 16) (by decide) rfl ⟨by decide, by decide⟩ (fun c1850 => ?_) (fun c1850 => ?_))
      · refine wp_of e17 c17_22 (rw_aload_n (pc' := 23) (v := .ref r1) rfl rfl rfl ?_)
        refine wp_of e17 c17_23 (rw_aload_n (pc' := 24) (v := .ref 17) rfl rfl rfl ?_)
        refine wp_of e17 c17_24 (xc_V (pc' := 27) (r := r1) (as := [.ref 17]) (st := []) (lm_1_63) rfl rfl (Nat.le_of_ble_eq_true rfl) hW g1 sh_27 (by decide) rfl (by decide) (u_21_17  hW g1) (fun R1851 T1852 H1853 p1854 => ?_))
        obtain ⟨e1855, e1857, z1858, e1856, b1859, p1860⟩ := p1854
        subst e1855
        subst e1856
        subst e1857
        obtain ⟨a1861, a1862⟩ := p1860
        show wp _ _ 17 27 [(2, .ref 17), (0, .ref r0), (1, .ref r1)] [vI z1858] _ H _
        refine wp_of e17 c17_27 (rw_aload_n (pc' := 28) (v := .ref 17) rfl rfl rfl ?_)
        have k1863 : H 17 1 = 6 := (hW.2 17 _ (hW.1.2.2 1 (by decide))).2.2 1 (by decide) |> fun z => by have z1 : (6 : Int) ≤ H 17 1 ∧ H 17 1 ≤ 6 := z; omega
        refine wp_of e17 c17_28 (rw_getI (pc' := 31) (n := 2) (e := _) (lf_1_58).choose_spec.1 (lf_1_58).choose_spec.2.1 (hW.sh (hW.1.2.2 1 (by decide)) rfl) (by decide) rfl rfl ?_)
        rw [k1863]
        refine wp_of e17 c17_31 (rw_icmp_lt (p1 := 68) (p2 := 34) (by decide) rfl ⟨b1859.1, b1859.2⟩ ⟨by decide, by decide⟩ (fun c1864 => ?_) (fun c1864 => ?_))
        · refine wp_of e17 c17_68 (rw_aload_n (pc' := 69) (v := .ref r0) rfl rfl rfl ?_)
          refine wp_of e17 c17_69 (xg_K (pc' := 72) lf_1_12 hW g0 sh_3 (by decide) (by decide) rfl qtk rfl ?_)
          have h1865 : TP T H rb B := TC_tp hTC_tk qrb
          refine wp_of e17 c17_72 (xc_V (pc' := 75) (r := tk) (as := []) (st := []) (lm_1_74) rfl rfl (Nat.le_of_ble_eq_true rfl) hW gtk sh_4 (by decide) rfl (by decide) (u_16 (B := B) (n := n) (a := (xE B n q)) (q := (xN B n q)) hW gtk qrb grb (by omega) (by omega) (by omega) (rfl) h1865) (fun R1866 T1867 H1868 p1869 => ?_))
          obtain ⟨e1870, w1872, f1873, e1871, p1874⟩ := p1869
          subst e1870
          subst e1871
          have f1876 := f0.tr f1873 rfl
          show wp _ _ 17 75 [(2, .ref 17), (0, .ref r0), (1, .ref r1)] [] _ H1868 _
          have u1877 := TC_k p1874
          refine wp_of e17 c17_75 (rw_gs (pc' := 78) (k := 2) rfl rfl rfl rfl ?_)
          refine wp_of e17 c17_78 (rw_aload_n (pc' := 79) (v := .ref 17) rfl rfl rfl ?_)
          refine wp_of e17 c17_79 (rw_ord (pc' := 82) rfl rfl rfl (by decide) (Nat.le_of_ble_eq_true rfl) rfl ?_)
          show wp _ _ 17 82 [(2, .ref 17), (0, .ref r0), (1, .ref r1)] [vI 1, .ref 2] _ H1868 _
          have k1878 : H1868 2 (1 : Int).toNat = 2 := (w1872.2 2 _ w1872.1.2.1).2.2 1 (by decide) |> fun z => by have z1 : (2 : Int) ≤ H1868 2 1 ∧ H1868 2 1 ≤ 2 := z; exact Int.le_antisymm z1.2 z1.1
          refine wp_of e17 c17_82 (rw_iaload (pc' := 83) (n := 11) (w1872.sh w1872.1.2.1 rfl) (by decide) (by decide) (by decide) rfl rfl ?_)
          rw [k1878]
          refine wp_of e17 c17_83 (rw_tsw (p1 := 134) ⟨by omega, by omega⟩ (by decide) ?_)
          refine wp_of e17 c17_134 (rw_aload_n (pc' := 135) (v := .ref r0) rfl rfl rfl ?_)
          refine wp_of e17 c17_135 (rw_aload_n (pc' := 136) (v := .ref r1) rfl rfl rfl ?_)
          have k1880 : H1868 r0 0 = H r0 0 := (f1873 r0 0 _ g0 rfl)
          have q1881 : H1868 r0 0 = (tk : Int) := k1880.trans qtk
          have k1882 : H1868 tk 0 = H tk 0 := (f1873 tk 0 _ gtk rfl)
          have q1883 : H1868 tk 0 = (rb : Int) := k1882.trans qrb
          have k1884 : H1868 r0 3 = H r0 3 := (f1873 r0 3 _ g0 rfl)
          have h1885 : DC T H1868 r1 d := (DC_fr hW g1 f1873 rfl hDC_r1)
          have h1886 : DD T H1868 r1  := (DD_fr hW g1 f1873 rfl hDD_r1)
          have h1887 : CZ T H1868 r1 (d 0 3) := (CZ_fr hW g1 f1873 rfl hCZ_r1)
          refine wp_of e17 c17_136 (xc_V (pc' := 139) (r := r0) (as := [.ref r1]) (st := []) (lm_1_90) rfl rfl (Nat.le_of_ble_eq_true rfl) w1872 g0 sh_3 (by decide) rfl (by decide) (u_25 (B := B) (n := n) (q := ((xN B n q))) (d := d) w1872 g0 g1 q1881 gtk q1883 grb (by omega) p1874 h1885 h1886 h1887) (fun R1888 T1889 H1890 p1891 => ?_))
          obtain ⟨e1892, w1894, f1895, z1896, e1893, b1897, p1898⟩ := p1891
          subst e1892
          subst e1893
          rcases p1898 with ⟨a1899, a1900, a1901, a1902, a1903, a1904, a1905, a1906, a1907⟩ | ⟨a1908, a1909, a1910, a1911, a1912⟩
          · have f1913 := f1876.tr f1895 rfl
            show wp _ _ 17 139 [(2, .ref 17), (0, .ref r0), (1, .ref r1)] [vI z1896] _ H1890 _
            have u1914 := TC_k a1904
            have u1915 := DC_k a1905
            refine wp_of e17 c17_139 (rw_if_eq (p1 := 154) (p2 := 142) (by decide) rfl ⟨Int.le_trans (by decide) b1897.1, Int.le_trans b1897.2 (by decide)⟩ (fun c1916 => ?_) (fun c1916 => ?_))
            · exfalso
              omega
            · refine wp_of e17 c17_142 (rw_aload_n (pc' := 143) (v := .ref r0) rfl rfl rfl ?_)
              refine wp_of e17 c17_143 (rw_aload_n (pc' := 144) (v := .ref r1) rfl rfl rfl ?_)
              have k1917 : H1890 r0 0 = H1868 r0 0 := (f1895 r0 0 _ g0 rfl)
              have q1918 : H1890 r0 0 = (tk : Int) := k1917.trans q1881
              have k1919 : H1890 tk 0 = H1868 tk 0 := (f1895 tk 0 _ gtk rfl)
              have q1920 : H1890 tk 0 = (rb : Int) := k1919.trans q1883
              have h1921 : DD T H1890 r1  := (DD_fr w1872 g1 f1895 rfl h1886)
              refine wp_of e17 c17_144 (xc_V (pc' := 147) (r := r0) (as := [.ref r1]) (st := []) (lm_1_93) rfl rfl (Nat.le_of_ble_eq_true rfl) w1894 g0 sh_3 (by decide) rfl (by decide) (u_30 (B := B) (n := n) (q := ((xN B n (xN B n (xN B n (xN B n (xN B n (xN B n (xN B n (xN B n (xN B n ((xN B n q))))))))))))) (d := d) (y := ((xN B n q))) w1894 g0 g1 q1918 gtk q1920 grb (by omega) (by omega) a1904 a1905 h1921 a1906 a1907) (fun R1922 T1923 H1924 p1925 => ?_))
              obtain ⟨e1926, w1928, f1929, z1930, e1927, b1931, p1932⟩ := p1925
              subst e1926
              subst e1927
              rcases p1932 with ⟨a1933, a1934, a1935, a1936, a1937, a1938, a1939⟩ | ⟨a1940, a1941, a1942, a1943, a1944⟩
              · have f1945 := f1913.tr f1929 rfl
                show wp _ _ 17 147 [(2, .ref 17), (0, .ref r0), (1, .ref r1)] [vI z1930] _ H1924 _
                have u1946 := TC_k a1937
                have u1947 := DC_k a1938
                refine wp_of e17 c17_147 (rw_if_eq (p1 := 154) (p2 := 150) (by decide) rfl ⟨Int.le_trans (by decide) b1931.1, Int.le_trans b1931.2 (by decide)⟩ (fun c1948 => ?_) (fun c1948 => ?_))
                · exfalso
                  omega
                · refine wp_of e17 c17_150 (rw_iconst (pc' := 151) rfl ?_)
                  refine wp_of e17 c17_151 (rw_goto (p1 := 155) (by decide) ?_)
                  have o1949 : (xline B n q d) = ((xcs B n ((xN B n (xN B n (xN B n (xN B n (xN B n (xN B n (xN B n (xN B n (xN B n ((xN B n q))))))))))))).1, (xcs B n ((xN B n (xN B n (xN B n (xN B n (xN B n (xN B n (xN B n (xN B n (xN B n ((xN B n q))))))))))))).2.1, (xcs B n ((xN B n (xN B n (xN B n (xN B n (xN B n (xN B n (xN B n (xN B n (xN B n ((xN B n q))))))))))))).2.2) := by
                    unfold xline xl0 xl1 xl2 xl3 xl4 xl5 xl6 xl7 xper
                    repeat first | rw [xs_0 (Int.le_antisymm (by omega -splitDisjunctions) (by omega -splitDisjunctions))] | rw [xs_1 (by omega -splitDisjunctions)] | rw [if_pos (Int.le_antisymm (by omega -splitDisjunctions) (by omega -splitDisjunctions))] | rw [if_pos (by omega -splitDisjunctions)] | rw [if_pos (And.intro (by omega -splitDisjunctions) (by omega -splitDisjunctions))] | rw [if_neg (by omega -splitDisjunctions)] | rw [xs_1 (by omega)] | rw [if_neg (by omega)] | rw [xs_0 (by omega)] | rw [if_pos (by omega)]
                    first | done | rfl | assumption | (exfalso; omega -splitDisjunctions) | (refine Prod.ext ?_ (Prod.ext ?_ ?_) <;> (try dsimp only) <;> omega) | (exfalso; omega)
                  have o1949a : ((xline B n q d)).1 = (xcs B n ((xN B n (xN B n (xN B n (xN B n (xN B n (xN B n (xN B n (xN B n (xN B n ((xN B n q))))))))))))).1 := by rw [o1949]
                  have o1949b : ((xline B n q d)).2.1 = (xcs B n ((xN B n (xN B n (xN B n (xN B n (xN B n (xN B n (xN B n (xN B n (xN B n ((xN B n q))))))))))))).2.1 := by rw [o1949]
                  have o1949c : ((xline B n q d)).2.2 = (xcs B n ((xN B n (xN B n (xN B n (xN B n (xN B n (xN B n (xN B n (xN B n (xN B n ((xN B n q))))))))))))).2.2 := by rw [o1949]
                  have o1950 : xdline B n q d = (xdper B n ((xN B n q)) d) := by
                    unfold xdline
                    repeat first | rw [xs_0 (Int.le_antisymm (by omega -splitDisjunctions) (by omega -splitDisjunctions))] | rw [xs_1 (by omega -splitDisjunctions)] | rw [if_pos (Int.le_antisymm (by omega -splitDisjunctions) (by omega -splitDisjunctions))] | rw [if_pos (by omega -splitDisjunctions)] | rw [if_pos (And.intro (by omega -splitDisjunctions) (by omega -splitDisjunctions))] | rw [if_neg (by omega -splitDisjunctions)] | rw [xs_1 (by omega)] | rw [if_neg (by omega)] | rw [xs_0 (by omega)] | rw [if_pos (by omega)]
                    first | done | rfl
                  exact wp_zreturn e17 c17_155 rfl (by omega) ⟨rfl, w1928, f1945, 1, rfl, ⟨by decide, by decide⟩, (Or.inl ⟨by omega, by omega, by omega, by omega, by rw [o1949]; exact a1937, by rw [o1950]; exact a1938, by rw [o1950]; exact a1939⟩)⟩
              · have f1951 := f1913.tr f1929 rfl
                show wp _ _ 17 147 [(2, .ref 17), (0, .ref r0), (1, .ref r1)] [vI z1930] _ H1924 _
                refine wp_of e17 c17_147 (rw_if_eq (p1 := 154) (p2 := 150) (by decide) rfl ⟨Int.le_trans (by decide) b1931.1, Int.le_trans b1931.2 (by decide)⟩ (fun c1952 => ?_) (fun c1952 => ?_))
                · refine wp_of e17 c17_154 (rw_iconst (pc' := 155) rfl ?_)
                  have o1953 : (xline B n q d) = ((xcs B n ((xN B n (xN B n (xN B n (xN B n (xN B n (xN B n (xN B n (xN B n (xN B n ((xN B n q))))))))))))).1, (xcs B n ((xN B n (xN B n (xN B n (xN B n (xN B n (xN B n (xN B n (xN B n (xN B n ((xN B n q))))))))))))).2.1, (xcs B n ((xN B n (xN B n (xN B n (xN B n (xN B n (xN B n (xN B n (xN B n (xN B n ((xN B n q))))))))))))).2.2) := by
                    unfold xline xl0 xl1 xl2 xl3 xl4 xl5 xl6 xl7 xper
                    repeat first | rw [xs_0 (Int.le_antisymm (by omega -splitDisjunctions) (by omega -splitDisjunctions))] | rw [xs_1 (by omega -splitDisjunctions)] | rw [if_pos (Int.le_antisymm (by omega -splitDisjunctions) (by omega -splitDisjunctions))] | rw [if_pos (by omega -splitDisjunctions)] | rw [if_pos (And.intro (by omega -splitDisjunctions) (by omega -splitDisjunctions))] | rw [if_neg (by omega -splitDisjunctions)] | rw [xs_1 (by omega)] | rw [if_neg (by omega)] | rw [xs_0 (by omega)] | rw [if_pos (by omega)]
                    first | done | rfl | assumption | (exfalso; omega -splitDisjunctions) | (refine Prod.ext ?_ (Prod.ext ?_ ?_) <;> (try dsimp only) <;> omega) | (exfalso; omega)
                  have o1953a : ((xline B n q d)).1 = (xcs B n ((xN B n (xN B n (xN B n (xN B n (xN B n (xN B n (xN B n (xN B n (xN B n ((xN B n q))))))))))))).1 := by rw [o1953]
                  have o1953b : ((xline B n q d)).2.1 = (xcs B n ((xN B n (xN B n (xN B n (xN B n (xN B n (xN B n (xN B n (xN B n (xN B n ((xN B n q))))))))))))).2.1 := by rw [o1953]
                  have o1953c : ((xline B n q d)).2.2 = (xcs B n ((xN B n (xN B n (xN B n (xN B n (xN B n (xN B n (xN B n (xN B n (xN B n ((xN B n q))))))))))))).2.2 := by rw [o1953]
                  exact wp_zreturn e17 c17_155 rfl (by omega) ⟨rfl, w1928, f1951, 0, rfl, ⟨by decide, by decide⟩, (Or.inr ⟨by omega, by omega, by omega, by omega, by omega⟩)⟩
                · exfalso
                  omega
          · have f1954 := f1876.tr f1895 rfl
            show wp _ _ 17 139 [(2, .ref 17), (0, .ref r0), (1, .ref r1)] [vI z1896] _ H1890 _
            refine wp_of e17 c17_139 (rw_if_eq (p1 := 154) (p2 := 142) (by decide) rfl ⟨Int.le_trans (by decide) b1897.1, Int.le_trans b1897.2 (by decide)⟩ (fun c1955 => ?_) (fun c1955 => ?_))
            · refine wp_of e17 c17_154 (rw_iconst (pc' := 155) rfl ?_)
              have o1956 : (xline B n q d) = ((xbd B n ((xN B n q)) d).1, (xbd B n ((xN B n q)) d).2.1, (xbd B n ((xN B n q)) d).2.2) := by
                unfold xline xl0 xl1 xl2 xl3 xl4 xl5 xl6 xl7 xper
                repeat first | rw [xs_0 (Int.le_antisymm (by omega -splitDisjunctions) (by omega -splitDisjunctions))] | rw [xs_1 (by omega -splitDisjunctions)] | rw [if_pos (Int.le_antisymm (by omega -splitDisjunctions) (by omega -splitDisjunctions))] | rw [if_pos (by omega -splitDisjunctions)] | rw [if_pos (And.intro (by omega -splitDisjunctions) (by omega -splitDisjunctions))] | rw [if_neg (by omega -splitDisjunctions)] | rw [xs_1 (by omega)] | rw [if_neg (by omega)] | rw [xs_0 (by omega)] | rw [if_pos (by omega)]
                first | done | rfl | assumption | (exfalso; omega -splitDisjunctions) | (refine Prod.ext ?_ (Prod.ext ?_ ?_) <;> (try dsimp only) <;> omega) | (exfalso; omega)
              have o1956a : ((xline B n q d)).1 = (xbd B n ((xN B n q)) d).1 := by rw [o1956]
              have o1956b : ((xline B n q d)).2.1 = (xbd B n ((xN B n q)) d).2.1 := by rw [o1956]
              have o1956c : ((xline B n q d)).2.2 = (xbd B n ((xN B n q)) d).2.2 := by rw [o1956]
              exact wp_zreturn e17 c17_155 rfl (by omega) ⟨rfl, w1894, f1954, 0, rfl, ⟨by decide, by decide⟩, (Or.inr ⟨by omega, by omega, by omega, by omega, by omega⟩)⟩
            · exfalso
              omega
        · refine wp_of e17 c17_34 (rw_aload_n (pc' := 35) (v := .ref 17) rfl rfl rfl ?_)
          refine wp_of e17 c17_35 (rw_gs (pc' := 38) (k := 16) rfl rfl rfl rfl ?_)
          refine wp_of e17 c17_38 (rw_acmp_eq (p1 := 48) (p2 := 41) (a := some 17) (b := some 16) rfl rfl (by decide) rfl (fun q9 => absurd q9 (by decide)) (fun q9 => ?_))
          refine wp_of e17 c17_41 (rw_aload_n (pc' := 42) (v := .ref 17) rfl rfl rfl ?_)
          refine wp_of e17 c17_42 (rw_gs (pc' := 45) (k := 18) rfl rfl rfl rfl ?_)
          refine wp_of e17 c17_45 (rw_acmp_ne (p1 := 52) (p2 := 48) (a := some 17) (b := some 18) rfl rfl (by decide) rfl (fun q9 => ?_) (fun q9 => absurd q9 (by decide)))
          refine wp_of e17 c17_52 (rw_iconst (pc' := 53) rfl ?_)
          refine wp_of e17 c17_53 (rw_istore_n (pc' := 54) (z := 0) (L' := [(3, vI 0), (2, .ref 17), (0, .ref r0), (1, .ref r1)]) rfl rfl rfl ?_)
          refine wp_of e17 c17_54 (rw_aload_n (pc' := 55) (v := .ref r0) rfl rfl rfl ?_)
          refine wp_of e17 c17_55 (rw_iload_n (pc' := 56) (z := 0) rfl rfl ?_)
          refine wp_of e17 c17_56 (rw_if_eq (p1 := 63) (p2 := 59) (by decide) rfl ⟨by decide, by decide⟩ (fun c1957 => ?_) (fun c1957 => ?_))
          · refine wp_of e17 c17_63 (rw_iconst (pc' := 64) rfl ?_)
            refine wp_of e17 c17_64 (xc_V (pc' := 67) (r := r0) (as := [vI 5]) (st := []) (lm_1_47) rfl rfl (Nat.le_of_ble_eq_true rfl) hW g0 sh_3 (by decide) rfl (by decide) (u_20  hW g0 ⟨by decide, by decide⟩ qtk gtk) (fun R1958 T1959 H1960 p1961 => ?_))
            obtain ⟨e1962, w1964, f1965, z1966, e1963, b1967, p1968⟩ := p1961
            subst e1962
            subst e1963
            obtain ⟨a1969, a1970, a1971⟩ := p1968
            have f1972 := f0.tr f1965 rfl
            show wp _ _ 17 67 [(3, vI 0), (2, .ref 17), (0, .ref r0), (1, .ref r1)] [vI z1966] _ H1960 _
            have o1973 : (xline B n q d) = (5, q, q) := by
              unfold xline xl0 xl1 xl2 xl3 xl4 xl5 xl6 xl7 xper
              repeat first | rw [xs_0 (Int.le_antisymm (by omega -splitDisjunctions) (by omega -splitDisjunctions))] | rw [xs_1 (by omega -splitDisjunctions)] | rw [if_pos (Int.le_antisymm (by omega -splitDisjunctions) (by omega -splitDisjunctions))] | rw [if_pos (by omega -splitDisjunctions)] | rw [if_pos (And.intro (by omega -splitDisjunctions) (by omega -splitDisjunctions))] | rw [if_neg (by omega -splitDisjunctions)] | rw [xs_1 (by omega)] | rw [if_neg (by omega)] | rw [xs_0 (by omega)] | rw [if_pos (by omega)]
              first | done | rfl | assumption | (exfalso; omega -splitDisjunctions) | (refine Prod.ext ?_ (Prod.ext ?_ ?_) <;> (try dsimp only) <;> omega) | (exfalso; omega)
            have o1973a : ((xline B n q d)).1 = 5 := by rw [o1973]
            have o1973b : ((xline B n q d)).2.1 = q := by rw [o1973]
            have o1973c : ((xline B n q d)).2.2 = q := by rw [o1973]
            exact wp_zreturn e17 c17_67 rfl (by omega) ⟨rfl, w1964, f1972, z1966, rfl, ⟨b1967.1, b1967.2⟩, (Or.inr ⟨by omega, by omega, by omega, by omega, by omega⟩)⟩
          · exfalso
            omega
      · exfalso
        omega
    · subst c1758
      show wp _ _ 17 4 [(0, .ref r0), (1, .ref r1)] [.ref 18] _ H _
      refine wp_of e17 c17_4 (rw_astore_n (pc' := 5) (v := .ref 18) (L' := [(2, .ref 18), (0, .ref r0), (1, .ref r1)]) rfl rfl rfl rfl ?_)
      refine wp_of e17 c17_5 (rw_aload_n (pc' := 6) (v := .ref 18) rfl rfl rfl ?_)
      refine wp_of e17 c17_6 (rw_ifnull_r (p1 := 16) (p2 := 9) (by decide) rfl ?_)
      refine wp_of e17 c17_9 (rw_aload_n (pc' := 10) (v := .ref 18) rfl rfl rfl ?_)
      have k1974 : H 18 1 = 1 := (hW.2 18 _ (hW.1.2.2 2 (by decide))).2.2 1 (by decide) |> fun z => by have z1 : (1 : Int) ≤ H 18 1 ∧ H 18 1 ≤ 1 := z; omega
      refine wp_of e17 c17_10 (rw_getI (pc' := 13) (n := 2) (e := _) (lf_1_58).choose_spec.1 (lf_1_58).choose_spec.2.1 (hW.sh (hW.1.2.2 2 (by decide)) rfl) (by decide) rfl rfl ?_)
      rw [k1974]
      refine wp_of e17 c17_13 (rw_if_ne (p1 := 22) (p2 := 16) (by decide) rfl ⟨by decide, by decide⟩ (fun c1975 => ?_) (fun c1975 => ?_))
      · refine wp_of e17 c17_22 (rw_aload_n (pc' := 23) (v := .ref r1) rfl rfl rfl ?_)
        refine wp_of e17 c17_23 (rw_aload_n (pc' := 24) (v := .ref 18) rfl rfl rfl ?_)
        refine wp_of e17 c17_24 (xc_V (pc' := 27) (r := r1) (as := [.ref 18]) (st := []) (lm_1_63) rfl rfl (Nat.le_of_ble_eq_true rfl) hW g1 sh_27 (by decide) rfl (by decide) (u_21_18  hW g1) (fun R1976 T1977 H1978 p1979 => ?_))
        obtain ⟨e1980, e1982, z1983, e1981, b1984, p1985⟩ := p1979
        subst e1980
        subst e1981
        subst e1982
        rcases p1985 with ⟨a1986, a1987⟩ | ⟨a1988, a1989⟩
        · show wp _ _ 17 27 [(2, .ref 18), (0, .ref r0), (1, .ref r1)] [vI z1983] _ H _
          refine wp_of e17 c17_27 (rw_aload_n (pc' := 28) (v := .ref 18) rfl rfl rfl ?_)
          have k1990 : H 18 1 = 1 := (hW.2 18 _ (hW.1.2.2 2 (by decide))).2.2 1 (by decide) |> fun z => by have z1 : (1 : Int) ≤ H 18 1 ∧ H 18 1 ≤ 1 := z; omega
          refine wp_of e17 c17_28 (rw_getI (pc' := 31) (n := 2) (e := _) (lf_1_58).choose_spec.1 (lf_1_58).choose_spec.2.1 (hW.sh (hW.1.2.2 2 (by decide)) rfl) (by decide) rfl rfl ?_)
          rw [k1990]
          refine wp_of e17 c17_31 (rw_icmp_lt (p1 := 68) (p2 := 34) (by decide) rfl ⟨b1984.1, b1984.2⟩ ⟨by decide, by decide⟩ (fun c1991 => ?_) (fun c1991 => ?_))
          · exfalso
            omega
          · refine wp_of e17 c17_34 (rw_aload_n (pc' := 35) (v := .ref 18) rfl rfl rfl ?_)
            refine wp_of e17 c17_35 (rw_gs (pc' := 38) (k := 16) rfl rfl rfl rfl ?_)
            refine wp_of e17 c17_38 (rw_acmp_eq (p1 := 48) (p2 := 41) (a := some 18) (b := some 16) rfl rfl (by decide) rfl (fun q9 => absurd q9 (by decide)) (fun q9 => ?_))
            refine wp_of e17 c17_41 (rw_aload_n (pc' := 42) (v := .ref 18) rfl rfl rfl ?_)
            refine wp_of e17 c17_42 (rw_gs (pc' := 45) (k := 18) rfl rfl rfl rfl ?_)
            refine wp_of e17 c17_45 (rw_acmp_ne (p1 := 52) (p2 := 48) (a := some 18) (b := some 18) rfl rfl (by decide) rfl (fun q9 => absurd q9 (by decide)) (fun q9 => ?_))
            refine wp_of e17 c17_48 (rw_iconst (pc' := 49) rfl ?_)
            refine wp_of e17 c17_49 (rw_goto (p1 := 53) (by decide) ?_)
            refine wp_of e17 c17_53 (rw_istore_n (pc' := 54) (z := 1) (L' := [(3, vI 1), (2, .ref 18), (0, .ref r0), (1, .ref r1)]) rfl rfl rfl ?_)
            refine wp_of e17 c17_54 (rw_aload_n (pc' := 55) (v := .ref r0) rfl rfl rfl ?_)
            refine wp_of e17 c17_55 (rw_iload_n (pc' := 56) (z := 1) rfl rfl ?_)
            refine wp_of e17 c17_56 (rw_if_eq (p1 := 63) (p2 := 59) (by decide) rfl ⟨by decide, by decide⟩ (fun c1992 => ?_) (fun c1992 => ?_))
            · exfalso
              omega
            · refine wp_of e17 c17_59 (rw_iconst (pc' := 60) rfl ?_)
              refine wp_of e17 c17_60 (rw_goto (p1 := 64) (by decide) ?_)
              refine wp_of e17 c17_64 (xc_V (pc' := 67) (r := r0) (as := [vI 3]) (st := []) (lm_1_47) rfl rfl (Nat.le_of_ble_eq_true rfl) hW g0 sh_3 (by decide) rfl (by decide) (u_20  hW g0 ⟨by decide, by decide⟩ qtk gtk) (fun R1993 T1994 H1995 p1996 => ?_))
              obtain ⟨e1997, w1999, f2000, z2001, e1998, b2002, p2003⟩ := p1996
              subst e1997
              subst e1998
              obtain ⟨a2004, a2005, a2006⟩ := p2003
              have f2007 := f0.tr f2000 rfl
              show wp _ _ 17 67 [(3, vI 1), (2, .ref 18), (0, .ref r0), (1, .ref r1)] [vI z2001] _ H1995 _
              have o2008 : (xline B n q d) = (3, q, q) := by
                unfold xline xl0 xl1 xl2 xl3 xl4 xl5 xl6 xl7 xper
                repeat first | rw [xs_0 (Int.le_antisymm (by omega -splitDisjunctions) (by omega -splitDisjunctions))] | rw [xs_1 (by omega -splitDisjunctions)] | rw [if_pos (Int.le_antisymm (by omega -splitDisjunctions) (by omega -splitDisjunctions))] | rw [if_pos (by omega -splitDisjunctions)] | rw [if_pos (And.intro (by omega -splitDisjunctions) (by omega -splitDisjunctions))] | rw [if_neg (by omega -splitDisjunctions)] | rw [xs_1 (by omega)] | rw [if_neg (by omega)] | rw [xs_0 (by omega)] | rw [if_pos (by omega)]
                first | done | rfl | assumption | (exfalso; omega -splitDisjunctions) | (refine Prod.ext ?_ (Prod.ext ?_ ?_) <;> (try dsimp only) <;> omega) | (exfalso; omega)
              have o2008a : ((xline B n q d)).1 = 3 := by rw [o2008]
              have o2008b : ((xline B n q d)).2.1 = q := by rw [o2008]
              have o2008c : ((xline B n q d)).2.2 = q := by rw [o2008]
              exact wp_zreturn e17 c17_67 rfl (by omega) ⟨rfl, w1999, f2007, z2001, rfl, ⟨b2002.1, b2002.2⟩, (Or.inr ⟨by omega, by omega, by omega, by omega, by omega⟩)⟩
        · show wp _ _ 17 27 [(2, .ref 18), (0, .ref r0), (1, .ref r1)] [vI z1983] _ H _
          refine wp_of e17 c17_27 (rw_aload_n (pc' := 28) (v := .ref 18) rfl rfl rfl ?_)
          have k2009 : H 18 1 = 1 := (hW.2 18 _ (hW.1.2.2 2 (by decide))).2.2 1 (by decide) |> fun z => by have z1 : (1 : Int) ≤ H 18 1 ∧ H 18 1 ≤ 1 := z; omega
          refine wp_of e17 c17_28 (rw_getI (pc' := 31) (n := 2) (e := _) (lf_1_58).choose_spec.1 (lf_1_58).choose_spec.2.1 (hW.sh (hW.1.2.2 2 (by decide)) rfl) (by decide) rfl rfl ?_)
          rw [k2009]
          refine wp_of e17 c17_31 (rw_icmp_lt (p1 := 68) (p2 := 34) (by decide) rfl ⟨b1984.1, b1984.2⟩ ⟨by decide, by decide⟩ (fun c2010 => ?_) (fun c2010 => ?_))
          · refine wp_of e17 c17_68 (rw_aload_n (pc' := 69) (v := .ref r0) rfl rfl rfl ?_)
            refine wp_of e17 c17_69 (xg_K (pc' := 72) lf_1_12 hW g0 sh_3 (by decide) (by decide) rfl qtk rfl ?_)
            have h2011 : TP T H rb B := TC_tp hTC_tk qrb
            refine wp_of e17 c17_72 (xc_V (pc' := 75) (r := tk) (as := []) (st := []) (lm_1_74) rfl rfl (Nat.le_of_ble_eq_true rfl) hW gtk sh_4 (by decide) rfl (by decide) (u_16 (B := B) (n := n) (a := (xE B n q)) (q := (xN B n q)) hW gtk qrb grb (by omega) (by omega) (by omega) (rfl) h2011) (fun R2012 T2013 H2014 p2015 => ?_))
            obtain ⟨e2016, w2018, f2019, e2017, p2020⟩ := p2015
            subst e2016
            subst e2017
            have f2022 := f0.tr f2019 rfl
            show wp _ _ 17 75 [(2, .ref 18), (0, .ref r0), (1, .ref r1)] [] _ H2014 _
            have u2023 := TC_k p2020
            refine wp_of e17 c17_75 (rw_gs (pc' := 78) (k := 2) rfl rfl rfl rfl ?_)
            refine wp_of e17 c17_78 (rw_aload_n (pc' := 79) (v := .ref 18) rfl rfl rfl ?_)
            refine wp_of e17 c17_79 (rw_ord (pc' := 82) rfl rfl rfl (by decide) (Nat.le_of_ble_eq_true rfl) rfl ?_)
            show wp _ _ 17 82 [(2, .ref 18), (0, .ref r0), (1, .ref r1)] [vI 2, .ref 2] _ H2014 _
            have k2024 : H2014 2 (2 : Int).toNat = 3 := (w2018.2 2 _ w2018.1.2.1).2.2 2 (by decide) |> fun z => by have z1 : (3 : Int) ≤ H2014 2 2 ∧ H2014 2 2 ≤ 3 := z; exact Int.le_antisymm z1.2 z1.1
            refine wp_of e17 c17_82 (rw_iaload (pc' := 83) (n := 11) (w2018.sh w2018.1.2.1 rfl) (by decide) (by decide) (by decide) rfl rfl ?_)
            rw [k2024]
            refine wp_of e17 c17_83 (rw_tsw (p1 := 156) ⟨by omega, by omega⟩ (by decide) ?_)
            refine wp_of e17 c17_156 (rw_aload_n (pc' := 157) (v := .ref r0) rfl rfl rfl ?_)
            refine wp_of e17 c17_157 (rw_aload_n (pc' := 158) (v := .ref r1) rfl rfl rfl ?_)
            have k2026 : H2014 r0 0 = H r0 0 := (f2019 r0 0 _ g0 rfl)
            have q2027 : H2014 r0 0 = (tk : Int) := k2026.trans qtk
            have k2028 : H2014 tk 0 = H tk 0 := (f2019 tk 0 _ gtk rfl)
            have q2029 : H2014 tk 0 = (rb : Int) := k2028.trans qrb
            have k2030 : H2014 r0 3 = H r0 3 := (f2019 r0 3 _ g0 rfl)
            have h2031 : DC T H2014 r1 d := (DC_fr hW g1 f2019 rfl hDC_r1)
            have h2032 : CZ T H2014 r1 (d 0 3) := (CZ_fr hW g1 f2019 rfl hCZ_r1)
            refine wp_of e17 c17_158 (xc_V (pc' := 161) (r := r0) (as := [.ref r1]) (st := []) (lm_1_96) rfl rfl (Nat.le_of_ble_eq_true rfl) w2018 g0 sh_3 (by decide) rfl (by decide) (u_32 (B := B) (n := n) (q := ((xN B n q))) (d := d) w2018 g0 g1 q2027 gtk q2029 grb p2020 h2031 h2032) (fun R2033 T2034 H2035 p2036 => ?_))
            obtain ⟨e2037, w2039, f2040, z2041, e2038, b2042, p2043⟩ := p2036
            subst e2037
            subst e2038
            rcases p2043 with ⟨a2044, a2045, a2046, a2047, a2048, a2049, a2050, a2051⟩ | ⟨a2052, a2053, a2054, a2055, a2056⟩
            · have f2057 := f2022.tr f2040 rfl
              show wp _ _ 17 161 [(2, .ref 18), (0, .ref r0), (1, .ref r1)] [vI z2041] _ H2035 _
              have u2058 := TC_k a2049
              have u2059 := DC_k a2050
              have o2060 : (xline B n q d) = (0, ((xN B n q)), (xN B n ((xN B n q)))) := by
                unfold xline xl0 xl1 xl2 xl3 xl4 xl5 xl6 xl7 xper
                repeat first | rw [xs_0 (Int.le_antisymm (by omega -splitDisjunctions) (by omega -splitDisjunctions))] | rw [xs_1 (by omega -splitDisjunctions)] | rw [if_pos (Int.le_antisymm (by omega -splitDisjunctions) (by omega -splitDisjunctions))] | rw [if_pos (by omega -splitDisjunctions)] | rw [if_pos (And.intro (by omega -splitDisjunctions) (by omega -splitDisjunctions))] | rw [if_neg (by omega -splitDisjunctions)] | rw [xs_1 (by omega)] | rw [if_neg (by omega)] | rw [xs_0 (by omega)] | rw [if_pos (by omega)]
                first | done | rfl | assumption | (exfalso; omega -splitDisjunctions) | (refine Prod.ext ?_ (Prod.ext ?_ ?_) <;> (try dsimp only) <;> omega) | (exfalso; omega)
              have o2060a : ((xline B n q d)).1 = 0 := by rw [o2060]
              have o2060b : ((xline B n q d)).2.1 = ((xN B n q)) := by rw [o2060]
              have o2060c : ((xline B n q d)).2.2 = (xN B n ((xN B n q))) := by rw [o2060]
              have o2061 : xdline B n q d = ((xdsex B n ((xN B n q)) d)) := by
                unfold xdline
                repeat first | rw [xs_0 (Int.le_antisymm (by omega -splitDisjunctions) (by omega -splitDisjunctions))] | rw [xs_1 (by omega -splitDisjunctions)] | rw [if_pos (Int.le_antisymm (by omega -splitDisjunctions) (by omega -splitDisjunctions))] | rw [if_pos (by omega -splitDisjunctions)] | rw [if_pos (And.intro (by omega -splitDisjunctions) (by omega -splitDisjunctions))] | rw [if_neg (by omega -splitDisjunctions)] | rw [xs_1 (by omega)] | rw [if_neg (by omega)] | rw [xs_0 (by omega)] | rw [if_pos (by omega)]
                first | done | rfl
              exact wp_zreturn e17 c17_161 rfl (by omega) ⟨rfl, w2039, f2057, z2041, rfl, ⟨b2042.1, b2042.2⟩, (Or.inl ⟨by omega, by omega, by omega, by omega, by rw [o2060]; exact a2049, by rw [o2061]; exact a2050, by rw [o2061]; exact a2051⟩)⟩
            · have f2062 := f2022.tr f2040 rfl
              show wp _ _ 17 161 [(2, .ref 18), (0, .ref r0), (1, .ref r1)] [vI z2041] _ H2035 _
              have o2063 : (xline B n q d) = ((xsex B n ((xN B n q)) d).1, (xsex B n ((xN B n q)) d).2.1, (xsex B n ((xN B n q)) d).2.2) := by
                unfold xline xl0 xl1 xl2 xl3 xl4 xl5 xl6 xl7 xper
                repeat first | rw [xs_0 (Int.le_antisymm (by omega -splitDisjunctions) (by omega -splitDisjunctions))] | rw [xs_1 (by omega -splitDisjunctions)] | rw [if_pos (Int.le_antisymm (by omega -splitDisjunctions) (by omega -splitDisjunctions))] | rw [if_pos (by omega -splitDisjunctions)] | rw [if_pos (And.intro (by omega -splitDisjunctions) (by omega -splitDisjunctions))] | rw [if_neg (by omega -splitDisjunctions)] | rw [xs_1 (by omega)] | rw [if_neg (by omega)] | rw [xs_0 (by omega)] | rw [if_pos (by omega)]
                first | done | rfl | assumption | (exfalso; omega -splitDisjunctions) | (refine Prod.ext ?_ (Prod.ext ?_ ?_) <;> (try dsimp only) <;> omega) | (exfalso; omega)
              have o2063a : ((xline B n q d)).1 = (xsex B n ((xN B n q)) d).1 := by rw [o2063]
              have o2063b : ((xline B n q d)).2.1 = (xsex B n ((xN B n q)) d).2.1 := by rw [o2063]
              have o2063c : ((xline B n q d)).2.2 = (xsex B n ((xN B n q)) d).2.2 := by rw [o2063]
              exact wp_zreturn e17 c17_161 rfl (by omega) ⟨rfl, w2039, f2062, z2041, rfl, ⟨b2042.1, b2042.2⟩, (Or.inr ⟨by omega, by omega, by omega, by omega, by omega⟩)⟩
          · exfalso
            omega
      · exfalso
        omega
    · subst c1758
      show wp _ _ 17 4 [(0, .ref r0), (1, .ref r1)] [.ref 19] _ H _
      refine wp_of e17 c17_4 (rw_astore_n (pc' := 5) (v := .ref 19) (L' := [(2, .ref 19), (0, .ref r0), (1, .ref r1)]) rfl rfl rfl rfl ?_)
      refine wp_of e17 c17_5 (rw_aload_n (pc' := 6) (v := .ref 19) rfl rfl rfl ?_)
      refine wp_of e17 c17_6 (rw_ifnull_r (p1 := 16) (p2 := 9) (by decide) rfl ?_)
      refine wp_of e17 c17_9 (rw_aload_n (pc' := 10) (v := .ref 19) rfl rfl rfl ?_)
      have k2064 : H 19 1 = 3 := (hW.2 19 _ (hW.1.2.2 3 (by decide))).2.2 1 (by decide) |> fun z => by have z1 : (3 : Int) ≤ H 19 1 ∧ H 19 1 ≤ 3 := z; omega
      refine wp_of e17 c17_10 (rw_getI (pc' := 13) (n := 2) (e := _) (lf_1_58).choose_spec.1 (lf_1_58).choose_spec.2.1 (hW.sh (hW.1.2.2 3 (by decide)) rfl) (by decide) rfl rfl ?_)
      rw [k2064]
      refine wp_of e17 c17_13 (rw_if_ne (p1 := 22) (p2 := 16) (by decide) rfl ⟨by decide, by decide⟩ (fun c2065 => ?_) (fun c2065 => ?_))
      · refine wp_of e17 c17_22 (rw_aload_n (pc' := 23) (v := .ref r1) rfl rfl rfl ?_)
        refine wp_of e17 c17_23 (rw_aload_n (pc' := 24) (v := .ref 19) rfl rfl rfl ?_)
        refine wp_of e17 c17_24 (xc_V (pc' := 27) (r := r1) (as := [.ref 19]) (st := []) (lm_1_63) rfl rfl (Nat.le_of_ble_eq_true rfl) hW g1 sh_27 (by decide) rfl (by decide) (u_21_19  hW g1) (fun R2066 T2067 H2068 p2069 => ?_))
        obtain ⟨e2070, e2072, z2073, e2071, b2074, p2075⟩ := p2069
        subst e2070
        subst e2071
        subst e2072
        obtain ⟨a2076, a2077⟩ := p2075
        show wp _ _ 17 27 [(2, .ref 19), (0, .ref r0), (1, .ref r1)] [vI z2073] _ H _
        refine wp_of e17 c17_27 (rw_aload_n (pc' := 28) (v := .ref 19) rfl rfl rfl ?_)
        have k2078 : H 19 1 = 3 := (hW.2 19 _ (hW.1.2.2 3 (by decide))).2.2 1 (by decide) |> fun z => by have z1 : (3 : Int) ≤ H 19 1 ∧ H 19 1 ≤ 3 := z; omega
        refine wp_of e17 c17_28 (rw_getI (pc' := 31) (n := 2) (e := _) (lf_1_58).choose_spec.1 (lf_1_58).choose_spec.2.1 (hW.sh (hW.1.2.2 3 (by decide)) rfl) (by decide) rfl rfl ?_)
        rw [k2078]
        refine wp_of e17 c17_31 (rw_icmp_lt (p1 := 68) (p2 := 34) (by decide) rfl ⟨b2074.1, b2074.2⟩ ⟨by decide, by decide⟩ (fun c2079 => ?_) (fun c2079 => ?_))
        · refine wp_of e17 c17_68 (rw_aload_n (pc' := 69) (v := .ref r0) rfl rfl rfl ?_)
          refine wp_of e17 c17_69 (xg_K (pc' := 72) lf_1_12 hW g0 sh_3 (by decide) (by decide) rfl qtk rfl ?_)
          have h2080 : TP T H rb B := TC_tp hTC_tk qrb
          refine wp_of e17 c17_72 (xc_V (pc' := 75) (r := tk) (as := []) (st := []) (lm_1_74) rfl rfl (Nat.le_of_ble_eq_true rfl) hW gtk sh_4 (by decide) rfl (by decide) (u_16 (B := B) (n := n) (a := (xE B n q)) (q := (xN B n q)) hW gtk qrb grb (by omega) (by omega) (by omega) (rfl) h2080) (fun R2081 T2082 H2083 p2084 => ?_))
          obtain ⟨e2085, w2087, f2088, e2086, p2089⟩ := p2084
          subst e2085
          subst e2086
          have f2091 := f0.tr f2088 rfl
          show wp _ _ 17 75 [(2, .ref 19), (0, .ref r0), (1, .ref r1)] [] _ H2083 _
          have u2092 := TC_k p2089
          refine wp_of e17 c17_75 (rw_gs (pc' := 78) (k := 2) rfl rfl rfl rfl ?_)
          refine wp_of e17 c17_78 (rw_aload_n (pc' := 79) (v := .ref 19) rfl rfl rfl ?_)
          refine wp_of e17 c17_79 (rw_ord (pc' := 82) rfl rfl rfl (by decide) (Nat.le_of_ble_eq_true rfl) rfl ?_)
          show wp _ _ 17 82 [(2, .ref 19), (0, .ref r0), (1, .ref r1)] [vI 3, .ref 2] _ H2083 _
          have k2093 : H2083 2 (3 : Int).toNat = 4 := (w2087.2 2 _ w2087.1.2.1).2.2 3 (by decide) |> fun z => by have z1 : (4 : Int) ≤ H2083 2 3 ∧ H2083 2 3 ≤ 4 := z; exact Int.le_antisymm z1.2 z1.1
          refine wp_of e17 c17_82 (rw_iaload (pc' := 83) (n := 11) (w2087.sh w2087.1.2.1 rfl) (by decide) (by decide) (by decide) rfl rfl ?_)
          rw [k2093]
          refine wp_of e17 c17_83 (rw_tsw (p1 := 162) ⟨by omega, by omega⟩ (by decide) ?_)
          refine wp_of e17 c17_162 (rw_aload_n (pc' := 163) (v := .ref r0) rfl rfl rfl ?_)
          refine wp_of e17 c17_163 (rw_aload_n (pc' := 164) (v := .ref r1) rfl rfl rfl ?_)
          have k2095 : H2083 r0 0 = H r0 0 := (f2088 r0 0 _ g0 rfl)
          have q2096 : H2083 r0 0 = (tk : Int) := k2095.trans qtk
          have k2097 : H2083 tk 0 = H tk 0 := (f2088 tk 0 _ gtk rfl)
          have q2098 : H2083 tk 0 = (rb : Int) := k2097.trans qrb
          have k2099 : H2083 r0 3 = H r0 3 := (f2088 r0 3 _ g0 rfl)
          have h2100 : DC T H2083 r1 d := (DC_fr hW g1 f2088 rfl hDC_r1)
          have h2101 : DD T H2083 r1  := (DD_fr hW g1 f2088 rfl hDD_r1)
          have h2102 : CZ T H2083 r1 (d 0 3) := (CZ_fr hW g1 f2088 rfl hCZ_r1)
          refine wp_of e17 c17_164 (xc_V (pc' := 167) (r := r0) (as := [.ref r1]) (st := []) (lm_1_99) rfl rfl (Nat.le_of_ble_eq_true rfl) w2087 g0 sh_3 (by decide) rfl (by decide) (u_34 (B := B) (n := n) (q := ((xN B n q))) (d := d) w2087 g0 g1 q2096 gtk q2098 grb (by omega) p2089 h2100 h2101 h2102) (fun R2103 T2104 H2105 p2106 => ?_))
          obtain ⟨e2107, w2109, f2110, z2111, e2108, b2112, p2113⟩ := p2106
          subst e2107
          subst e2108
          rcases p2113 with ⟨a2114, a2115, a2116, a2117, a2118, a2119, a2120, a2121⟩ | ⟨a2122, a2123, a2124, a2125, a2126⟩
          · have f2127 := f2091.tr f2110 rfl
            show wp _ _ 17 167 [(2, .ref 19), (0, .ref r0), (1, .ref r1)] [vI z2111] _ H2105 _
            have u2128 := TC_k a2119
            have u2129 := DC_k a2120
            have o2130 : (xline B n q d) = (0, ((xN B n q)), (xN B n (xN B n (xN B n ((xN B n q)))))) := by
              unfold xline xl0 xl1 xl2 xl3 xl4 xl5 xl6 xl7 xper
              repeat first | rw [xs_0 (Int.le_antisymm (by omega -splitDisjunctions) (by omega -splitDisjunctions))] | rw [xs_1 (by omega -splitDisjunctions)] | rw [if_pos (Int.le_antisymm (by omega -splitDisjunctions) (by omega -splitDisjunctions))] | rw [if_pos (by omega -splitDisjunctions)] | rw [if_pos (And.intro (by omega -splitDisjunctions) (by omega -splitDisjunctions))] | rw [if_neg (by omega -splitDisjunctions)] | rw [xs_1 (by omega)] | rw [if_neg (by omega)] | rw [xs_0 (by omega)] | rw [if_pos (by omega)]
              first | done | rfl | assumption | (exfalso; omega -splitDisjunctions) | (refine Prod.ext ?_ (Prod.ext ?_ ?_) <;> (try dsimp only) <;> omega) | (exfalso; omega)
            have o2130a : ((xline B n q d)).1 = 0 := by rw [o2130]
            have o2130b : ((xline B n q d)).2.1 = ((xN B n q)) := by rw [o2130]
            have o2130c : ((xline B n q d)).2.2 = (xN B n (xN B n (xN B n ((xN B n q))))) := by rw [o2130]
            have o2131 : xdline B n q d = ((xdap B n ((xN B n q)) d)) := by
              unfold xdline
              repeat first | rw [xs_0 (Int.le_antisymm (by omega -splitDisjunctions) (by omega -splitDisjunctions))] | rw [xs_1 (by omega -splitDisjunctions)] | rw [if_pos (Int.le_antisymm (by omega -splitDisjunctions) (by omega -splitDisjunctions))] | rw [if_pos (by omega -splitDisjunctions)] | rw [if_pos (And.intro (by omega -splitDisjunctions) (by omega -splitDisjunctions))] | rw [if_neg (by omega -splitDisjunctions)] | rw [xs_1 (by omega)] | rw [if_neg (by omega)] | rw [xs_0 (by omega)] | rw [if_pos (by omega)]
              first | done | rfl
            exact wp_zreturn e17 c17_167 rfl (by omega) ⟨rfl, w2109, f2127, z2111, rfl, ⟨b2112.1, b2112.2⟩, (Or.inl ⟨by omega, by omega, by omega, by omega, by rw [o2130]; exact a2119, by rw [o2131]; exact a2120, by rw [o2131]; exact a2121⟩)⟩
          · have f2132 := f2091.tr f2110 rfl
            show wp _ _ 17 167 [(2, .ref 19), (0, .ref r0), (1, .ref r1)] [vI z2111] _ H2105 _
            have o2133 : (xline B n q d) = ((xap B n ((xN B n q)) d).1, (xap B n ((xN B n q)) d).2.1, (xap B n ((xN B n q)) d).2.2) := by
              unfold xline xl0 xl1 xl2 xl3 xl4 xl5 xl6 xl7 xper
              repeat first | rw [xs_0 (Int.le_antisymm (by omega -splitDisjunctions) (by omega -splitDisjunctions))] | rw [xs_1 (by omega -splitDisjunctions)] | rw [if_pos (Int.le_antisymm (by omega -splitDisjunctions) (by omega -splitDisjunctions))] | rw [if_pos (by omega -splitDisjunctions)] | rw [if_pos (And.intro (by omega -splitDisjunctions) (by omega -splitDisjunctions))] | rw [if_neg (by omega -splitDisjunctions)] | rw [xs_1 (by omega)] | rw [if_neg (by omega)] | rw [xs_0 (by omega)] | rw [if_pos (by omega)]
              first | done | rfl | assumption | (exfalso; omega -splitDisjunctions) | (refine Prod.ext ?_ (Prod.ext ?_ ?_) <;> (try dsimp only) <;> omega) | (exfalso; omega)
            have o2133a : ((xline B n q d)).1 = (xap B n ((xN B n q)) d).1 := by rw [o2133]
            have o2133b : ((xline B n q d)).2.1 = (xap B n ((xN B n q)) d).2.1 := by rw [o2133]
            have o2133c : ((xline B n q d)).2.2 = (xap B n ((xN B n q)) d).2.2 := by rw [o2133]
            exact wp_zreturn e17 c17_167 rfl (by omega) ⟨rfl, w2109, f2132, z2111, rfl, ⟨b2112.1, b2112.2⟩, (Or.inr ⟨by omega, by omega, by omega, by omega, by omega⟩)⟩
        · refine wp_of e17 c17_34 (rw_aload_n (pc' := 35) (v := .ref 19) rfl rfl rfl ?_)
          refine wp_of e17 c17_35 (rw_gs (pc' := 38) (k := 16) rfl rfl rfl rfl ?_)
          refine wp_of e17 c17_38 (rw_acmp_eq (p1 := 48) (p2 := 41) (a := some 19) (b := some 16) rfl rfl (by decide) rfl (fun q9 => absurd q9 (by decide)) (fun q9 => ?_))
          refine wp_of e17 c17_41 (rw_aload_n (pc' := 42) (v := .ref 19) rfl rfl rfl ?_)
          refine wp_of e17 c17_42 (rw_gs (pc' := 45) (k := 18) rfl rfl rfl rfl ?_)
          refine wp_of e17 c17_45 (rw_acmp_ne (p1 := 52) (p2 := 48) (a := some 19) (b := some 18) rfl rfl (by decide) rfl (fun q9 => ?_) (fun q9 => absurd q9 (by decide)))
          refine wp_of e17 c17_52 (rw_iconst (pc' := 53) rfl ?_)
          refine wp_of e17 c17_53 (rw_istore_n (pc' := 54) (z := 0) (L' := [(3, vI 0), (2, .ref 19), (0, .ref r0), (1, .ref r1)]) rfl rfl rfl ?_)
          refine wp_of e17 c17_54 (rw_aload_n (pc' := 55) (v := .ref r0) rfl rfl rfl ?_)
          refine wp_of e17 c17_55 (rw_iload_n (pc' := 56) (z := 0) rfl rfl ?_)
          refine wp_of e17 c17_56 (rw_if_eq (p1 := 63) (p2 := 59) (by decide) rfl ⟨by decide, by decide⟩ (fun c2134 => ?_) (fun c2134 => ?_))
          · refine wp_of e17 c17_63 (rw_iconst (pc' := 64) rfl ?_)
            refine wp_of e17 c17_64 (xc_V (pc' := 67) (r := r0) (as := [vI 5]) (st := []) (lm_1_47) rfl rfl (Nat.le_of_ble_eq_true rfl) hW g0 sh_3 (by decide) rfl (by decide) (u_20  hW g0 ⟨by decide, by decide⟩ qtk gtk) (fun R2135 T2136 H2137 p2138 => ?_))
            obtain ⟨e2139, w2141, f2142, z2143, e2140, b2144, p2145⟩ := p2138
            subst e2139
            subst e2140
            obtain ⟨a2146, a2147, a2148⟩ := p2145
            have f2149 := f0.tr f2142 rfl
            show wp _ _ 17 67 [(3, vI 0), (2, .ref 19), (0, .ref r0), (1, .ref r1)] [vI z2143] _ H2137 _
            have o2150 : (xline B n q d) = (5, q, q) := by
              unfold xline xl0 xl1 xl2 xl3 xl4 xl5 xl6 xl7 xper
              repeat first | rw [xs_0 (Int.le_antisymm (by omega -splitDisjunctions) (by omega -splitDisjunctions))] | rw [xs_1 (by omega -splitDisjunctions)] | rw [if_pos (Int.le_antisymm (by omega -splitDisjunctions) (by omega -splitDisjunctions))] | rw [if_pos (by omega -splitDisjunctions)] | rw [if_pos (And.intro (by omega -splitDisjunctions) (by omega -splitDisjunctions))] | rw [if_neg (by omega -splitDisjunctions)] | rw [xs_1 (by omega)] | rw [if_neg (by omega)] | rw [xs_0 (by omega)] | rw [if_pos (by omega)]
              first | done | rfl | assumption | (exfalso; omega -splitDisjunctions) | (refine Prod.ext ?_ (Prod.ext ?_ ?_) <;> (try dsimp only) <;> omega) | (exfalso; omega)
            have o2150a : ((xline B n q d)).1 = 5 := by rw [o2150]
            have o2150b : ((xline B n q d)).2.1 = q := by rw [o2150]
            have o2150c : ((xline B n q d)).2.2 = q := by rw [o2150]
            exact wp_zreturn e17 c17_67 rfl (by omega) ⟨rfl, w2141, f2149, z2143, rfl, ⟨b2144.1, b2144.2⟩, (Or.inr ⟨by omega, by omega, by omega, by omega, by omega⟩)⟩
          · exfalso
            omega
      · exfalso
        omega
    · subst c1758
      show wp _ _ 17 4 [(0, .ref r0), (1, .ref r1)] [.ref 20] _ H _
      refine wp_of e17 c17_4 (rw_astore_n (pc' := 5) (v := .ref 20) (L' := [(2, .ref 20), (0, .ref r0), (1, .ref r1)]) rfl rfl rfl rfl ?_)
      refine wp_of e17 c17_5 (rw_aload_n (pc' := 6) (v := .ref 20) rfl rfl rfl ?_)
      refine wp_of e17 c17_6 (rw_ifnull_r (p1 := 16) (p2 := 9) (by decide) rfl ?_)
      refine wp_of e17 c17_9 (rw_aload_n (pc' := 10) (v := .ref 20) rfl rfl rfl ?_)
      have k2151 : H 20 1 = 3 := (hW.2 20 _ (hW.1.2.2 4 (by decide))).2.2 1 (by decide) |> fun z => by have z1 : (3 : Int) ≤ H 20 1 ∧ H 20 1 ≤ 3 := z; omega
      refine wp_of e17 c17_10 (rw_getI (pc' := 13) (n := 2) (e := _) (lf_1_58).choose_spec.1 (lf_1_58).choose_spec.2.1 (hW.sh (hW.1.2.2 4 (by decide)) rfl) (by decide) rfl rfl ?_)
      rw [k2151]
      refine wp_of e17 c17_13 (rw_if_ne (p1 := 22) (p2 := 16) (by decide) rfl ⟨by decide, by decide⟩ (fun c2152 => ?_) (fun c2152 => ?_))
      · refine wp_of e17 c17_22 (rw_aload_n (pc' := 23) (v := .ref r1) rfl rfl rfl ?_)
        refine wp_of e17 c17_23 (rw_aload_n (pc' := 24) (v := .ref 20) rfl rfl rfl ?_)
        refine wp_of e17 c17_24 (xc_V (pc' := 27) (r := r1) (as := [.ref 20]) (st := []) (lm_1_63) rfl rfl (Nat.le_of_ble_eq_true rfl) hW g1 sh_27 (by decide) rfl (by decide) (u_21_20  hW g1) (fun R2153 T2154 H2155 p2156 => ?_))
        obtain ⟨e2157, e2159, z2160, e2158, b2161, p2162⟩ := p2156
        subst e2157
        subst e2158
        subst e2159
        obtain ⟨a2163, a2164⟩ := p2162
        show wp _ _ 17 27 [(2, .ref 20), (0, .ref r0), (1, .ref r1)] [vI z2160] _ H _
        refine wp_of e17 c17_27 (rw_aload_n (pc' := 28) (v := .ref 20) rfl rfl rfl ?_)
        have k2165 : H 20 1 = 3 := (hW.2 20 _ (hW.1.2.2 4 (by decide))).2.2 1 (by decide) |> fun z => by have z1 : (3 : Int) ≤ H 20 1 ∧ H 20 1 ≤ 3 := z; omega
        refine wp_of e17 c17_28 (rw_getI (pc' := 31) (n := 2) (e := _) (lf_1_58).choose_spec.1 (lf_1_58).choose_spec.2.1 (hW.sh (hW.1.2.2 4 (by decide)) rfl) (by decide) rfl rfl ?_)
        rw [k2165]
        refine wp_of e17 c17_31 (rw_icmp_lt (p1 := 68) (p2 := 34) (by decide) rfl ⟨b2161.1, b2161.2⟩ ⟨by decide, by decide⟩ (fun c2166 => ?_) (fun c2166 => ?_))
        · refine wp_of e17 c17_68 (rw_aload_n (pc' := 69) (v := .ref r0) rfl rfl rfl ?_)
          refine wp_of e17 c17_69 (xg_K (pc' := 72) lf_1_12 hW g0 sh_3 (by decide) (by decide) rfl qtk rfl ?_)
          have h2167 : TP T H rb B := TC_tp hTC_tk qrb
          refine wp_of e17 c17_72 (xc_V (pc' := 75) (r := tk) (as := []) (st := []) (lm_1_74) rfl rfl (Nat.le_of_ble_eq_true rfl) hW gtk sh_4 (by decide) rfl (by decide) (u_16 (B := B) (n := n) (a := (xE B n q)) (q := (xN B n q)) hW gtk qrb grb (by omega) (by omega) (by omega) (rfl) h2167) (fun R2168 T2169 H2170 p2171 => ?_))
          obtain ⟨e2172, w2174, f2175, e2173, p2176⟩ := p2171
          subst e2172
          subst e2173
          have f2178 := f0.tr f2175 rfl
          show wp _ _ 17 75 [(2, .ref 20), (0, .ref r0), (1, .ref r1)] [] _ H2170 _
          have u2179 := TC_k p2176
          refine wp_of e17 c17_75 (rw_gs (pc' := 78) (k := 2) rfl rfl rfl rfl ?_)
          refine wp_of e17 c17_78 (rw_aload_n (pc' := 79) (v := .ref 20) rfl rfl rfl ?_)
          refine wp_of e17 c17_79 (rw_ord (pc' := 82) rfl rfl rfl (by decide) (Nat.le_of_ble_eq_true rfl) rfl ?_)
          show wp _ _ 17 82 [(2, .ref 20), (0, .ref r0), (1, .ref r1)] [vI 4, .ref 2] _ H2170 _
          have k2180 : H2170 2 (4 : Int).toNat = 5 := (w2174.2 2 _ w2174.1.2.1).2.2 4 (by decide) |> fun z => by have z1 : (5 : Int) ≤ H2170 2 4 ∧ H2170 2 4 ≤ 5 := z; exact Int.le_antisymm z1.2 z1.1
          refine wp_of e17 c17_82 (rw_iaload (pc' := 83) (n := 11) (w2174.sh w2174.1.2.1 rfl) (by decide) (by decide) (by decide) rfl rfl ?_)
          rw [k2180]
          refine wp_of e17 c17_83 (rw_tsw (p1 := 168) ⟨by omega, by omega⟩ (by decide) ?_)
          refine wp_of e17 c17_168 (rw_aload_n (pc' := 169) (v := .ref r0) rfl rfl rfl ?_)
          refine wp_of e17 c17_169 (rw_aload_n (pc' := 170) (v := .ref r1) rfl rfl rfl ?_)
          have k2182 : H2170 r0 0 = H r0 0 := (f2175 r0 0 _ g0 rfl)
          have q2183 : H2170 r0 0 = (tk : Int) := k2182.trans qtk
          have k2184 : H2170 tk 0 = H tk 0 := (f2175 tk 0 _ gtk rfl)
          have q2185 : H2170 tk 0 = (rb : Int) := k2184.trans qrb
          have k2186 : H2170 r0 3 = H r0 3 := (f2175 r0 3 _ g0 rfl)
          have h2187 : DC T H2170 r1 d := (DC_fr hW g1 f2175 rfl hDC_r1)
          have h2188 : CZ T H2170 r1 (d 0 3) := (CZ_fr hW g1 f2175 rfl hCZ_r1)
          refine wp_of e17 c17_170 (xc_V (pc' := 173) (r := r0) (as := [.ref r1]) (st := []) (lm_1_102) rfl rfl (Nat.le_of_ble_eq_true rfl) w2174 g0 sh_3 (by decide) rfl (by decide) (u_37 (B := B) (n := n) (q := ((xN B n q))) (d := d) w2174 g0 g1 q2183 gtk q2185 grb (by omega) p2176 h2187 h2188) (fun R2189 T2190 H2191 p2192 => ?_))
          obtain ⟨e2193, w2195, f2196, z2197, e2194, b2198, p2199⟩ := p2192
          subst e2193
          subst e2194
          rcases p2199 with ⟨a2200, a2201, a2202, a2203, a2204, a2205, a2206, a2207⟩ | ⟨a2208, a2209, a2210, a2211, a2212⟩
          · have f2213 := f2178.tr f2196 rfl
            show wp _ _ 17 173 [(2, .ref 20), (0, .ref r0), (1, .ref r1)] [vI z2197] _ H2191 _
            have u2214 := TC_k a2205
            have u2215 := DC_k a2206
            have o2216 : (xline B n q d) = (0, ((xN B n q)), (xN B n ((xN B n q)))) := by
              unfold xline xl0 xl1 xl2 xl3 xl4 xl5 xl6 xl7 xper
              repeat first | rw [xs_0 (Int.le_antisymm (by omega -splitDisjunctions) (by omega -splitDisjunctions))] | rw [xs_1 (by omega -splitDisjunctions)] | rw [if_pos (Int.le_antisymm (by omega -splitDisjunctions) (by omega -splitDisjunctions))] | rw [if_pos (by omega -splitDisjunctions)] | rw [if_pos (And.intro (by omega -splitDisjunctions) (by omega -splitDisjunctions))] | rw [if_neg (by omega -splitDisjunctions)] | rw [xs_1 (by omega)] | rw [if_neg (by omega)] | rw [xs_0 (by omega)] | rw [if_pos (by omega)]
              first | done | rfl | assumption | (exfalso; omega -splitDisjunctions) | (refine Prod.ext ?_ (Prod.ext ?_ ?_) <;> (try dsimp only) <;> omega) | (exfalso; omega)
            have o2216a : ((xline B n q d)).1 = 0 := by rw [o2216]
            have o2216b : ((xline B n q d)).2.1 = ((xN B n q)) := by rw [o2216]
            have o2216c : ((xline B n q d)).2.2 = (xN B n ((xN B n q))) := by rw [o2216]
            have o2217 : xdline B n q d = ((xdbo B n ((xN B n q)) d)) := by
              unfold xdline
              repeat first | rw [xs_0 (Int.le_antisymm (by omega -splitDisjunctions) (by omega -splitDisjunctions))] | rw [xs_1 (by omega -splitDisjunctions)] | rw [if_pos (Int.le_antisymm (by omega -splitDisjunctions) (by omega -splitDisjunctions))] | rw [if_pos (by omega -splitDisjunctions)] | rw [if_pos (And.intro (by omega -splitDisjunctions) (by omega -splitDisjunctions))] | rw [if_neg (by omega -splitDisjunctions)] | rw [xs_1 (by omega)] | rw [if_neg (by omega)] | rw [xs_0 (by omega)] | rw [if_pos (by omega)]
              first | done | rfl
            exact wp_zreturn e17 c17_173 rfl (by omega) ⟨rfl, w2195, f2213, z2197, rfl, ⟨b2198.1, b2198.2⟩, (Or.inl ⟨by omega, by omega, by omega, by omega, by rw [o2216]; exact a2205, by rw [o2217]; exact a2206, by rw [o2217]; exact a2207⟩)⟩
          · have f2218 := f2178.tr f2196 rfl
            show wp _ _ 17 173 [(2, .ref 20), (0, .ref r0), (1, .ref r1)] [vI z2197] _ H2191 _
            have o2219 : (xline B n q d) = ((xbo B n ((xN B n q))).1, (xbo B n ((xN B n q))).2.1, (xbo B n ((xN B n q))).2.2) := by
              unfold xline xl0 xl1 xl2 xl3 xl4 xl5 xl6 xl7 xper
              repeat first | rw [xs_0 (Int.le_antisymm (by omega -splitDisjunctions) (by omega -splitDisjunctions))] | rw [xs_1 (by omega -splitDisjunctions)] | rw [if_pos (Int.le_antisymm (by omega -splitDisjunctions) (by omega -splitDisjunctions))] | rw [if_pos (by omega -splitDisjunctions)] | rw [if_pos (And.intro (by omega -splitDisjunctions) (by omega -splitDisjunctions))] | rw [if_neg (by omega -splitDisjunctions)] | rw [xs_1 (by omega)] | rw [if_neg (by omega)] | rw [xs_0 (by omega)] | rw [if_pos (by omega)]
              first | done | rfl | assumption | (exfalso; omega -splitDisjunctions) | (refine Prod.ext ?_ (Prod.ext ?_ ?_) <;> (try dsimp only) <;> omega) | (exfalso; omega)
            have o2219a : ((xline B n q d)).1 = (xbo B n ((xN B n q))).1 := by rw [o2219]
            have o2219b : ((xline B n q d)).2.1 = (xbo B n ((xN B n q))).2.1 := by rw [o2219]
            have o2219c : ((xline B n q d)).2.2 = (xbo B n ((xN B n q))).2.2 := by rw [o2219]
            exact wp_zreturn e17 c17_173 rfl (by omega) ⟨rfl, w2195, f2218, z2197, rfl, ⟨b2198.1, b2198.2⟩, (Or.inr ⟨by omega, by omega, by omega, by omega, by omega⟩)⟩
        · refine wp_of e17 c17_34 (rw_aload_n (pc' := 35) (v := .ref 20) rfl rfl rfl ?_)
          refine wp_of e17 c17_35 (rw_gs (pc' := 38) (k := 16) rfl rfl rfl rfl ?_)
          refine wp_of e17 c17_38 (rw_acmp_eq (p1 := 48) (p2 := 41) (a := some 20) (b := some 16) rfl rfl (by decide) rfl (fun q9 => absurd q9 (by decide)) (fun q9 => ?_))
          refine wp_of e17 c17_41 (rw_aload_n (pc' := 42) (v := .ref 20) rfl rfl rfl ?_)
          refine wp_of e17 c17_42 (rw_gs (pc' := 45) (k := 18) rfl rfl rfl rfl ?_)
          refine wp_of e17 c17_45 (rw_acmp_ne (p1 := 52) (p2 := 48) (a := some 20) (b := some 18) rfl rfl (by decide) rfl (fun q9 => ?_) (fun q9 => absurd q9 (by decide)))
          refine wp_of e17 c17_52 (rw_iconst (pc' := 53) rfl ?_)
          refine wp_of e17 c17_53 (rw_istore_n (pc' := 54) (z := 0) (L' := [(3, vI 0), (2, .ref 20), (0, .ref r0), (1, .ref r1)]) rfl rfl rfl ?_)
          refine wp_of e17 c17_54 (rw_aload_n (pc' := 55) (v := .ref r0) rfl rfl rfl ?_)
          refine wp_of e17 c17_55 (rw_iload_n (pc' := 56) (z := 0) rfl rfl ?_)
          refine wp_of e17 c17_56 (rw_if_eq (p1 := 63) (p2 := 59) (by decide) rfl ⟨by decide, by decide⟩ (fun c2220 => ?_) (fun c2220 => ?_))
          · refine wp_of e17 c17_63 (rw_iconst (pc' := 64) rfl ?_)
            refine wp_of e17 c17_64 (xc_V (pc' := 67) (r := r0) (as := [vI 5]) (st := []) (lm_1_47) rfl rfl (Nat.le_of_ble_eq_true rfl) hW g0 sh_3 (by decide) rfl (by decide) (u_20  hW g0 ⟨by decide, by decide⟩ qtk gtk) (fun R2221 T2222 H2223 p2224 => ?_))
            obtain ⟨e2225, w2227, f2228, z2229, e2226, b2230, p2231⟩ := p2224
            subst e2225
            subst e2226
            obtain ⟨a2232, a2233, a2234⟩ := p2231
            have f2235 := f0.tr f2228 rfl
            show wp _ _ 17 67 [(3, vI 0), (2, .ref 20), (0, .ref r0), (1, .ref r1)] [vI z2229] _ H2223 _
            have o2236 : (xline B n q d) = (5, q, q) := by
              unfold xline xl0 xl1 xl2 xl3 xl4 xl5 xl6 xl7 xper
              repeat first | rw [xs_0 (Int.le_antisymm (by omega -splitDisjunctions) (by omega -splitDisjunctions))] | rw [xs_1 (by omega -splitDisjunctions)] | rw [if_pos (Int.le_antisymm (by omega -splitDisjunctions) (by omega -splitDisjunctions))] | rw [if_pos (by omega -splitDisjunctions)] | rw [if_pos (And.intro (by omega -splitDisjunctions) (by omega -splitDisjunctions))] | rw [if_neg (by omega -splitDisjunctions)] | rw [xs_1 (by omega)] | rw [if_neg (by omega)] | rw [xs_0 (by omega)] | rw [if_pos (by omega)]
              first | done | rfl | assumption | (exfalso; omega -splitDisjunctions) | (refine Prod.ext ?_ (Prod.ext ?_ ?_) <;> (try dsimp only) <;> omega) | (exfalso; omega)
            have o2236a : ((xline B n q d)).1 = 5 := by rw [o2236]
            have o2236b : ((xline B n q d)).2.1 = q := by rw [o2236]
            have o2236c : ((xline B n q d)).2.2 = q := by rw [o2236]
            exact wp_zreturn e17 c17_67 rfl (by omega) ⟨rfl, w2227, f2235, z2229, rfl, ⟨b2230.1, b2230.2⟩, (Or.inr ⟨by omega, by omega, by omega, by omega, by omega⟩)⟩
          · exfalso
            omega
      · exfalso
        omega
    · subst c1758
      show wp _ _ 17 4 [(0, .ref r0), (1, .ref r1)] [.ref 21] _ H _
      refine wp_of e17 c17_4 (rw_astore_n (pc' := 5) (v := .ref 21) (L' := [(2, .ref 21), (0, .ref r0), (1, .ref r1)]) rfl rfl rfl rfl ?_)
      refine wp_of e17 c17_5 (rw_aload_n (pc' := 6) (v := .ref 21) rfl rfl rfl ?_)
      refine wp_of e17 c17_6 (rw_ifnull_r (p1 := 16) (p2 := 9) (by decide) rfl ?_)
      refine wp_of e17 c17_9 (rw_aload_n (pc' := 10) (v := .ref 21) rfl rfl rfl ?_)
      have k2237 : H 21 1 = 24 := (hW.2 21 _ (hW.1.2.2 5 (by decide))).2.2 1 (by decide) |> fun z => by have z1 : (24 : Int) ≤ H 21 1 ∧ H 21 1 ≤ 24 := z; omega
      refine wp_of e17 c17_10 (rw_getI (pc' := 13) (n := 2) (e := _) (lf_1_58).choose_spec.1 (lf_1_58).choose_spec.2.1 (hW.sh (hW.1.2.2 5 (by decide)) rfl) (by decide) rfl rfl ?_)
      rw [k2237]
      refine wp_of e17 c17_13 (rw_if_ne (p1 := 22) (p2 := 16) (by decide) rfl ⟨by decide, by decide⟩ (fun c2238 => ?_) (fun c2238 => ?_))
      · refine wp_of e17 c17_22 (rw_aload_n (pc' := 23) (v := .ref r1) rfl rfl rfl ?_)
        refine wp_of e17 c17_23 (rw_aload_n (pc' := 24) (v := .ref 21) rfl rfl rfl ?_)
        refine wp_of e17 c17_24 (xc_V (pc' := 27) (r := r1) (as := [.ref 21]) (st := []) (lm_1_63) rfl rfl (Nat.le_of_ble_eq_true rfl) hW g1 sh_27 (by decide) rfl (by decide) (u_21_21  hW g1) (fun R2239 T2240 H2241 p2242 => ?_))
        obtain ⟨e2243, e2245, z2246, e2244, b2247, p2248⟩ := p2242
        subst e2243
        subst e2244
        subst e2245
        obtain ⟨a2249, a2250⟩ := p2248
        show wp _ _ 17 27 [(2, .ref 21), (0, .ref r0), (1, .ref r1)] [vI z2246] _ H _
        refine wp_of e17 c17_27 (rw_aload_n (pc' := 28) (v := .ref 21) rfl rfl rfl ?_)
        have k2251 : H 21 1 = 24 := (hW.2 21 _ (hW.1.2.2 5 (by decide))).2.2 1 (by decide) |> fun z => by have z1 : (24 : Int) ≤ H 21 1 ∧ H 21 1 ≤ 24 := z; omega
        refine wp_of e17 c17_28 (rw_getI (pc' := 31) (n := 2) (e := _) (lf_1_58).choose_spec.1 (lf_1_58).choose_spec.2.1 (hW.sh (hW.1.2.2 5 (by decide)) rfl) (by decide) rfl rfl ?_)
        rw [k2251]
        refine wp_of e17 c17_31 (rw_icmp_lt (p1 := 68) (p2 := 34) (by decide) rfl ⟨b2247.1, b2247.2⟩ ⟨by decide, by decide⟩ (fun c2252 => ?_) (fun c2252 => ?_))
        · refine wp_of e17 c17_68 (rw_aload_n (pc' := 69) (v := .ref r0) rfl rfl rfl ?_)
          refine wp_of e17 c17_69 (xg_K (pc' := 72) lf_1_12 hW g0 sh_3 (by decide) (by decide) rfl qtk rfl ?_)
          have h2253 : TP T H rb B := TC_tp hTC_tk qrb
          refine wp_of e17 c17_72 (xc_V (pc' := 75) (r := tk) (as := []) (st := []) (lm_1_74) rfl rfl (Nat.le_of_ble_eq_true rfl) hW gtk sh_4 (by decide) rfl (by decide) (u_16 (B := B) (n := n) (a := (xE B n q)) (q := (xN B n q)) hW gtk qrb grb (by omega) (by omega) (by omega) (rfl) h2253) (fun R2254 T2255 H2256 p2257 => ?_))
          obtain ⟨e2258, w2260, f2261, e2259, p2262⟩ := p2257
          subst e2258
          subst e2259
          have f2264 := f0.tr f2261 rfl
          show wp _ _ 17 75 [(2, .ref 21), (0, .ref r0), (1, .ref r1)] [] _ H2256 _
          have u2265 := TC_k p2262
          refine wp_of e17 c17_75 (rw_gs (pc' := 78) (k := 2) rfl rfl rfl rfl ?_)
          refine wp_of e17 c17_78 (rw_aload_n (pc' := 79) (v := .ref 21) rfl rfl rfl ?_)
          refine wp_of e17 c17_79 (rw_ord (pc' := 82) rfl rfl rfl (by decide) (Nat.le_of_ble_eq_true rfl) rfl ?_)
          show wp _ _ 17 82 [(2, .ref 21), (0, .ref r0), (1, .ref r1)] [vI 5, .ref 2] _ H2256 _
          have k2266 : H2256 2 (5 : Int).toNat = 6 := (w2260.2 2 _ w2260.1.2.1).2.2 5 (by decide) |> fun z => by have z1 : (6 : Int) ≤ H2256 2 5 ∧ H2256 2 5 ≤ 6 := z; exact Int.le_antisymm z1.2 z1.1
          refine wp_of e17 c17_82 (rw_iaload (pc' := 83) (n := 11) (w2260.sh w2260.1.2.1 rfl) (by decide) (by decide) (by decide) rfl rfl ?_)
          rw [k2266]
          refine wp_of e17 c17_83 (rw_tsw (p1 := 174) ⟨by omega, by omega⟩ (by decide) ?_)
          refine wp_of e17 c17_174 (rw_aload_n (pc' := 175) (v := .ref r0) rfl rfl rfl ?_)
          refine wp_of e17 c17_175 (rw_aload_n (pc' := 176) (v := .ref r1) rfl rfl rfl ?_)
          have k2268 : H2256 r0 0 = H r0 0 := (f2261 r0 0 _ g0 rfl)
          have q2269 : H2256 r0 0 = (tk : Int) := k2268.trans qtk
          have k2270 : H2256 tk 0 = H tk 0 := (f2261 tk 0 _ gtk rfl)
          have q2271 : H2256 tk 0 = (rb : Int) := k2270.trans qrb
          have k2272 : H2256 r0 3 = H r0 3 := (f2261 r0 3 _ g0 rfl)
          have h2273 : DC T H2256 r1 d := (DC_fr hW g1 f2261 rfl hDC_r1)
          have h2274 : CZ T H2256 r1 (d 0 3) := (CZ_fr hW g1 f2261 rfl hCZ_r1)
          refine wp_of e17 c17_176 (xc_V (pc' := 179) (r := r0) (as := [.ref r1]) (st := []) (lm_1_105) rfl rfl (Nat.le_of_ble_eq_true rfl) w2260 g0 sh_3 (by decide) rfl (by decide) (u_38 (B := B) (n := n) (q := ((xN B n q))) (d := d) w2260 g0 g1 q2269 gtk q2271 grb p2262 h2273 h2274) (fun R2275 T2276 H2277 p2278 => ?_))
          obtain ⟨e2279, w2281, f2282, z2283, e2280, b2284, p2285⟩ := p2278
          subst e2279
          subst e2280
          rcases p2285 with ⟨a2286, a2287, a2288, a2289, a2290, a2291, a2292, a2293⟩ | ⟨a2294, a2295, a2296, a2297, a2298⟩
          · have f2299 := f2264.tr f2282 rfl
            show wp _ _ 17 179 [(2, .ref 21), (0, .ref r0), (1, .ref r1)] [vI z2283] _ H2277 _
            have u2300 := TC_k a2291
            have u2301 := DC_k a2292
            have o2302 : (xline B n q d) = (0, ((xN B n q)), (xN B n (xN B n (xN B n ((xN B n q)))))) := by
              unfold xline xl0 xl1 xl2 xl3 xl4 xl5 xl6 xl7 xper
              repeat first | rw [xs_0 (Int.le_antisymm (by omega -splitDisjunctions) (by omega -splitDisjunctions))] | rw [xs_1 (by omega -splitDisjunctions)] | rw [if_pos (Int.le_antisymm (by omega -splitDisjunctions) (by omega -splitDisjunctions))] | rw [if_pos (by omega -splitDisjunctions)] | rw [if_pos (And.intro (by omega -splitDisjunctions) (by omega -splitDisjunctions))] | rw [if_neg (by omega -splitDisjunctions)] | rw [xs_1 (by omega)] | rw [if_neg (by omega)] | rw [xs_0 (by omega)] | rw [if_pos (by omega)]
              first | done | rfl | assumption | (exfalso; omega -splitDisjunctions) | (refine Prod.ext ?_ (Prod.ext ?_ ?_) <;> (try dsimp only) <;> omega) | (exfalso; omega)
            have o2302a : ((xline B n q d)).1 = 0 := by rw [o2302]
            have o2302b : ((xline B n q d)).2.1 = ((xN B n q)) := by rw [o2302]
            have o2302c : ((xline B n q d)).2.2 = (xN B n (xN B n (xN B n ((xN B n q))))) := by rw [o2302]
            have o2303 : xdline B n q d = ((xdst B n ((xN B n q)) d)) := by
              unfold xdline
              repeat first | rw [xs_0 (Int.le_antisymm (by omega -splitDisjunctions) (by omega -splitDisjunctions))] | rw [xs_1 (by omega -splitDisjunctions)] | rw [if_pos (Int.le_antisymm (by omega -splitDisjunctions) (by omega -splitDisjunctions))] | rw [if_pos (by omega -splitDisjunctions)] | rw [if_pos (And.intro (by omega -splitDisjunctions) (by omega -splitDisjunctions))] | rw [if_neg (by omega -splitDisjunctions)] | rw [xs_1 (by omega)] | rw [if_neg (by omega)] | rw [xs_0 (by omega)] | rw [if_pos (by omega)]
              first | done | rfl
            exact wp_zreturn e17 c17_179 rfl (by omega) ⟨rfl, w2281, f2299, z2283, rfl, ⟨b2284.1, b2284.2⟩, (Or.inl ⟨by omega, by omega, by omega, by omega, by rw [o2302]; exact a2291, by rw [o2303]; exact a2292, by rw [o2303]; exact a2293⟩)⟩
          · have f2304 := f2264.tr f2282 rfl
            show wp _ _ 17 179 [(2, .ref 21), (0, .ref r0), (1, .ref r1)] [vI z2283] _ H2277 _
            have o2305 : (xline B n q d) = ((xst B n ((xN B n q)) d).1, (xst B n ((xN B n q)) d).2.1, (xst B n ((xN B n q)) d).2.2) := by
              unfold xline xl0 xl1 xl2 xl3 xl4 xl5 xl6 xl7 xper
              repeat first | rw [xs_0 (Int.le_antisymm (by omega -splitDisjunctions) (by omega -splitDisjunctions))] | rw [xs_1 (by omega -splitDisjunctions)] | rw [if_pos (Int.le_antisymm (by omega -splitDisjunctions) (by omega -splitDisjunctions))] | rw [if_pos (by omega -splitDisjunctions)] | rw [if_pos (And.intro (by omega -splitDisjunctions) (by omega -splitDisjunctions))] | rw [if_neg (by omega -splitDisjunctions)] | rw [xs_1 (by omega)] | rw [if_neg (by omega)] | rw [xs_0 (by omega)] | rw [if_pos (by omega)]
              first | done | rfl | assumption | (exfalso; omega -splitDisjunctions) | (refine Prod.ext ?_ (Prod.ext ?_ ?_) <;> (try dsimp only) <;> omega) | (exfalso; omega)
            have o2305a : ((xline B n q d)).1 = (xst B n ((xN B n q)) d).1 := by rw [o2305]
            have o2305b : ((xline B n q d)).2.1 = (xst B n ((xN B n q)) d).2.1 := by rw [o2305]
            have o2305c : ((xline B n q d)).2.2 = (xst B n ((xN B n q)) d).2.2 := by rw [o2305]
            exact wp_zreturn e17 c17_179 rfl (by omega) ⟨rfl, w2281, f2304, z2283, rfl, ⟨b2284.1, b2284.2⟩, (Or.inr ⟨by omega, by omega, by omega, by omega, by omega⟩)⟩
        · refine wp_of e17 c17_34 (rw_aload_n (pc' := 35) (v := .ref 21) rfl rfl rfl ?_)
          refine wp_of e17 c17_35 (rw_gs (pc' := 38) (k := 16) rfl rfl rfl rfl ?_)
          refine wp_of e17 c17_38 (rw_acmp_eq (p1 := 48) (p2 := 41) (a := some 21) (b := some 16) rfl rfl (by decide) rfl (fun q9 => absurd q9 (by decide)) (fun q9 => ?_))
          refine wp_of e17 c17_41 (rw_aload_n (pc' := 42) (v := .ref 21) rfl rfl rfl ?_)
          refine wp_of e17 c17_42 (rw_gs (pc' := 45) (k := 18) rfl rfl rfl rfl ?_)
          refine wp_of e17 c17_45 (rw_acmp_ne (p1 := 52) (p2 := 48) (a := some 21) (b := some 18) rfl rfl (by decide) rfl (fun q9 => ?_) (fun q9 => absurd q9 (by decide)))
          refine wp_of e17 c17_52 (rw_iconst (pc' := 53) rfl ?_)
          refine wp_of e17 c17_53 (rw_istore_n (pc' := 54) (z := 0) (L' := [(3, vI 0), (2, .ref 21), (0, .ref r0), (1, .ref r1)]) rfl rfl rfl ?_)
          refine wp_of e17 c17_54 (rw_aload_n (pc' := 55) (v := .ref r0) rfl rfl rfl ?_)
          refine wp_of e17 c17_55 (rw_iload_n (pc' := 56) (z := 0) rfl rfl ?_)
          refine wp_of e17 c17_56 (rw_if_eq (p1 := 63) (p2 := 59) (by decide) rfl ⟨by decide, by decide⟩ (fun c2306 => ?_) (fun c2306 => ?_))
          · refine wp_of e17 c17_63 (rw_iconst (pc' := 64) rfl ?_)
            refine wp_of e17 c17_64 (xc_V (pc' := 67) (r := r0) (as := [vI 5]) (st := []) (lm_1_47) rfl rfl (Nat.le_of_ble_eq_true rfl) hW g0 sh_3 (by decide) rfl (by decide) (u_20  hW g0 ⟨by decide, by decide⟩ qtk gtk) (fun R2307 T2308 H2309 p2310 => ?_))
            obtain ⟨e2311, w2313, f2314, z2315, e2312, b2316, p2317⟩ := p2310
            subst e2311
            subst e2312
            obtain ⟨a2318, a2319, a2320⟩ := p2317
            have f2321 := f0.tr f2314 rfl
            show wp _ _ 17 67 [(3, vI 0), (2, .ref 21), (0, .ref r0), (1, .ref r1)] [vI z2315] _ H2309 _
            have o2322 : (xline B n q d) = (5, q, q) := by
              unfold xline xl0 xl1 xl2 xl3 xl4 xl5 xl6 xl7 xper
              repeat first | rw [xs_0 (Int.le_antisymm (by omega -splitDisjunctions) (by omega -splitDisjunctions))] | rw [xs_1 (by omega -splitDisjunctions)] | rw [if_pos (Int.le_antisymm (by omega -splitDisjunctions) (by omega -splitDisjunctions))] | rw [if_pos (by omega -splitDisjunctions)] | rw [if_pos (And.intro (by omega -splitDisjunctions) (by omega -splitDisjunctions))] | rw [if_neg (by omega -splitDisjunctions)] | rw [xs_1 (by omega)] | rw [if_neg (by omega)] | rw [xs_0 (by omega)] | rw [if_pos (by omega)]
              first | done | rfl | assumption | (exfalso; omega -splitDisjunctions) | (refine Prod.ext ?_ (Prod.ext ?_ ?_) <;> (try dsimp only) <;> omega) | (exfalso; omega)
            have o2322a : ((xline B n q d)).1 = 5 := by rw [o2322]
            have o2322b : ((xline B n q d)).2.1 = q := by rw [o2322]
            have o2322c : ((xline B n q d)).2.2 = q := by rw [o2322]
            exact wp_zreturn e17 c17_67 rfl (by omega) ⟨rfl, w2313, f2321, z2315, rfl, ⟨b2316.1, b2316.2⟩, (Or.inr ⟨by omega, by omega, by omega, by omega, by omega⟩)⟩
          · exfalso
            omega
      · exfalso
        omega
    · subst c1758
      show wp _ _ 17 4 [(0, .ref r0), (1, .ref r1)] [.ref 22] _ H _
      refine wp_of e17 c17_4 (rw_astore_n (pc' := 5) (v := .ref 22) (L' := [(2, .ref 22), (0, .ref r0), (1, .ref r1)]) rfl rfl rfl rfl ?_)
      refine wp_of e17 c17_5 (rw_aload_n (pc' := 6) (v := .ref 22) rfl rfl rfl ?_)
      refine wp_of e17 c17_6 (rw_ifnull_r (p1 := 16) (p2 := 9) (by decide) rfl ?_)
      refine wp_of e17 c17_9 (rw_aload_n (pc' := 10) (v := .ref 22) rfl rfl rfl ?_)
      have k2323 : H 22 1 = 4 := (hW.2 22 _ (hW.1.2.2 6 (by decide))).2.2 1 (by decide) |> fun z => by have z1 : (4 : Int) ≤ H 22 1 ∧ H 22 1 ≤ 4 := z; omega
      refine wp_of e17 c17_10 (rw_getI (pc' := 13) (n := 2) (e := _) (lf_1_58).choose_spec.1 (lf_1_58).choose_spec.2.1 (hW.sh (hW.1.2.2 6 (by decide)) rfl) (by decide) rfl rfl ?_)
      rw [k2323]
      refine wp_of e17 c17_13 (rw_if_ne (p1 := 22) (p2 := 16) (by decide) rfl ⟨by decide, by decide⟩ (fun c2324 => ?_) (fun c2324 => ?_))
      · refine wp_of e17 c17_22 (rw_aload_n (pc' := 23) (v := .ref r1) rfl rfl rfl ?_)
        refine wp_of e17 c17_23 (rw_aload_n (pc' := 24) (v := .ref 22) rfl rfl rfl ?_)
        refine wp_of e17 c17_24 (xc_V (pc' := 27) (r := r1) (as := [.ref 22]) (st := []) (lm_1_63) rfl rfl (Nat.le_of_ble_eq_true rfl) hW g1 sh_27 (by decide) rfl (by decide) (u_21_22  hW g1) (fun R2325 T2326 H2327 p2328 => ?_))
        obtain ⟨e2329, e2331, z2332, e2330, b2333, p2334⟩ := p2328
        subst e2329
        subst e2330
        subst e2331
        obtain ⟨a2335, a2336⟩ := p2334
        show wp _ _ 17 27 [(2, .ref 22), (0, .ref r0), (1, .ref r1)] [vI z2332] _ H _
        refine wp_of e17 c17_27 (rw_aload_n (pc' := 28) (v := .ref 22) rfl rfl rfl ?_)
        have k2337 : H 22 1 = 4 := (hW.2 22 _ (hW.1.2.2 6 (by decide))).2.2 1 (by decide) |> fun z => by have z1 : (4 : Int) ≤ H 22 1 ∧ H 22 1 ≤ 4 := z; omega
        refine wp_of e17 c17_28 (rw_getI (pc' := 31) (n := 2) (e := _) (lf_1_58).choose_spec.1 (lf_1_58).choose_spec.2.1 (hW.sh (hW.1.2.2 6 (by decide)) rfl) (by decide) rfl rfl ?_)
        rw [k2337]
        refine wp_of e17 c17_31 (rw_icmp_lt (p1 := 68) (p2 := 34) (by decide) rfl ⟨b2333.1, b2333.2⟩ ⟨by decide, by decide⟩ (fun c2338 => ?_) (fun c2338 => ?_))
        · refine wp_of e17 c17_68 (rw_aload_n (pc' := 69) (v := .ref r0) rfl rfl rfl ?_)
          refine wp_of e17 c17_69 (xg_K (pc' := 72) lf_1_12 hW g0 sh_3 (by decide) (by decide) rfl qtk rfl ?_)
          have h2339 : TP T H rb B := TC_tp hTC_tk qrb
          refine wp_of e17 c17_72 (xc_V (pc' := 75) (r := tk) (as := []) (st := []) (lm_1_74) rfl rfl (Nat.le_of_ble_eq_true rfl) hW gtk sh_4 (by decide) rfl (by decide) (u_16 (B := B) (n := n) (a := (xE B n q)) (q := (xN B n q)) hW gtk qrb grb (by omega) (by omega) (by omega) (rfl) h2339) (fun R2340 T2341 H2342 p2343 => ?_))
          obtain ⟨e2344, w2346, f2347, e2345, p2348⟩ := p2343
          subst e2344
          subst e2345
          have f2350 := f0.tr f2347 rfl
          show wp _ _ 17 75 [(2, .ref 22), (0, .ref r0), (1, .ref r1)] [] _ H2342 _
          have u2351 := TC_k p2348
          refine wp_of e17 c17_75 (rw_gs (pc' := 78) (k := 2) rfl rfl rfl rfl ?_)
          refine wp_of e17 c17_78 (rw_aload_n (pc' := 79) (v := .ref 22) rfl rfl rfl ?_)
          refine wp_of e17 c17_79 (rw_ord (pc' := 82) rfl rfl rfl (by decide) (Nat.le_of_ble_eq_true rfl) rfl ?_)
          show wp _ _ 17 82 [(2, .ref 22), (0, .ref r0), (1, .ref r1)] [vI 6, .ref 2] _ H2342 _
          have k2352 : H2342 2 (6 : Int).toNat = 7 := (w2346.2 2 _ w2346.1.2.1).2.2 6 (by decide) |> fun z => by have z1 : (7 : Int) ≤ H2342 2 6 ∧ H2342 2 6 ≤ 7 := z; exact Int.le_antisymm z1.2 z1.1
          refine wp_of e17 c17_82 (rw_iaload (pc' := 83) (n := 11) (w2346.sh w2346.1.2.1 rfl) (by decide) (by decide) (by decide) rfl rfl ?_)
          rw [k2352]
          refine wp_of e17 c17_83 (rw_tsw (p1 := 180) ⟨by omega, by omega⟩ (by decide) ?_)
          refine wp_of e17 c17_180 (rw_aload_n (pc' := 181) (v := .ref r0) rfl rfl rfl ?_)
          refine wp_of e17 c17_181 (rw_aload_n (pc' := 182) (v := .ref r1) rfl rfl rfl ?_)
          have k2354 : H2342 r0 0 = H r0 0 := (f2347 r0 0 _ g0 rfl)
          have q2355 : H2342 r0 0 = (tk : Int) := k2354.trans qtk
          have k2356 : H2342 tk 0 = H tk 0 := (f2347 tk 0 _ gtk rfl)
          have q2357 : H2342 tk 0 = (rb : Int) := k2356.trans qrb
          have k2358 : H2342 r0 3 = H r0 3 := (f2347 r0 3 _ g0 rfl)
          have h2359 : DC T H2342 r1 d := (DC_fr hW g1 f2347 rfl hDC_r1)
          have h2360 : CZ T H2342 r1 (d 0 3) := (CZ_fr hW g1 f2347 rfl hCZ_r1)
          refine wp_of e17 c17_182 (xc_V (pc' := 185) (r := r0) (as := [.ref r1]) (st := []) (lm_1_108) rfl rfl (Nat.le_of_ble_eq_true rfl) w2346 g0 sh_3 (by decide) rfl (by decide) (u_42 (B := B) (n := n) (q := ((xN B n q))) (d := d) w2346 g0 g1 q2355 gtk q2357 grb (by omega) p2348 h2359 h2360) (fun R2361 T2362 H2363 p2364 => ?_))
          obtain ⟨e2365, w2367, f2368, z2369, e2366, b2370, p2371⟩ := p2364
          subst e2365
          subst e2366
          rcases p2371 with ⟨a2372, a2373, a2374, a2375, a2376, a2377, a2378, a2379⟩ | ⟨a2380, a2381, a2382, a2383, a2384⟩
          · have f2385 := f2350.tr f2368 rfl
            show wp _ _ 17 185 [(2, .ref 22), (0, .ref r0), (1, .ref r1)] [vI z2369] _ H2363 _
            have u2386 := TC_k a2377
            have u2387 := DC_k a2378
            have o2388 : (xline B n q d) = (0, ((xN B n q)), (xN B n (xN B n (xN B n (xN B n ((xN B n q))))))) := by
              unfold xline xl0 xl1 xl2 xl3 xl4 xl5 xl6 xl7 xper
              repeat first | rw [xs_0 (Int.le_antisymm (by omega -splitDisjunctions) (by omega -splitDisjunctions))] | rw [xs_1 (by omega -splitDisjunctions)] | rw [if_pos (Int.le_antisymm (by omega -splitDisjunctions) (by omega -splitDisjunctions))] | rw [if_pos (by omega -splitDisjunctions)] | rw [if_pos (And.intro (by omega -splitDisjunctions) (by omega -splitDisjunctions))] | rw [if_neg (by omega -splitDisjunctions)] | rw [xs_1 (by omega)] | rw [if_neg (by omega)] | rw [xs_0 (by omega)] | rw [if_pos (by omega)]
              first | done | rfl | assumption | (exfalso; omega -splitDisjunctions) | (refine Prod.ext ?_ (Prod.ext ?_ ?_) <;> (try dsimp only) <;> omega) | (exfalso; omega)
            have o2388a : ((xline B n q d)).1 = 0 := by rw [o2388]
            have o2388b : ((xline B n q d)).2.1 = ((xN B n q)) := by rw [o2388]
            have o2388c : ((xline B n q d)).2.2 = (xN B n (xN B n (xN B n (xN B n ((xN B n q)))))) := by rw [o2388]
            have o2389 : xdline B n q d = ((xdtl B n ((xN B n q)) d)) := by
              unfold xdline
              repeat first | rw [xs_0 (Int.le_antisymm (by omega -splitDisjunctions) (by omega -splitDisjunctions))] | rw [xs_1 (by omega -splitDisjunctions)] | rw [if_pos (Int.le_antisymm (by omega -splitDisjunctions) (by omega -splitDisjunctions))] | rw [if_pos (by omega -splitDisjunctions)] | rw [if_pos (And.intro (by omega -splitDisjunctions) (by omega -splitDisjunctions))] | rw [if_neg (by omega -splitDisjunctions)] | rw [xs_1 (by omega)] | rw [if_neg (by omega)] | rw [xs_0 (by omega)] | rw [if_pos (by omega)]
              first | done | rfl
            exact wp_zreturn e17 c17_185 rfl (by omega) ⟨rfl, w2367, f2385, z2369, rfl, ⟨b2370.1, b2370.2⟩, (Or.inl ⟨by omega, by omega, by omega, by omega, by rw [o2388]; exact a2377, by rw [o2389]; exact a2378, by rw [o2389]; exact a2379⟩)⟩
          · have f2390 := f2350.tr f2368 rfl
            show wp _ _ 17 185 [(2, .ref 22), (0, .ref r0), (1, .ref r1)] [vI z2369] _ H2363 _
            have o2391 : (xline B n q d) = ((xtl B n ((xN B n q)) d).1, (xtl B n ((xN B n q)) d).2.1, (xtl B n ((xN B n q)) d).2.2) := by
              unfold xline xl0 xl1 xl2 xl3 xl4 xl5 xl6 xl7 xper
              repeat first | rw [xs_0 (Int.le_antisymm (by omega -splitDisjunctions) (by omega -splitDisjunctions))] | rw [xs_1 (by omega -splitDisjunctions)] | rw [if_pos (Int.le_antisymm (by omega -splitDisjunctions) (by omega -splitDisjunctions))] | rw [if_pos (by omega -splitDisjunctions)] | rw [if_pos (And.intro (by omega -splitDisjunctions) (by omega -splitDisjunctions))] | rw [if_neg (by omega -splitDisjunctions)] | rw [xs_1 (by omega)] | rw [if_neg (by omega)] | rw [xs_0 (by omega)] | rw [if_pos (by omega)]
              first | done | rfl | assumption | (exfalso; omega -splitDisjunctions) | (refine Prod.ext ?_ (Prod.ext ?_ ?_) <;> (try dsimp only) <;> omega) | (exfalso; omega)
            have o2391a : ((xline B n q d)).1 = (xtl B n ((xN B n q)) d).1 := by rw [o2391]
            have o2391b : ((xline B n q d)).2.1 = (xtl B n ((xN B n q)) d).2.1 := by rw [o2391]
            have o2391c : ((xline B n q d)).2.2 = (xtl B n ((xN B n q)) d).2.2 := by rw [o2391]
            exact wp_zreturn e17 c17_185 rfl (by omega) ⟨rfl, w2367, f2390, z2369, rfl, ⟨b2370.1, b2370.2⟩, (Or.inr ⟨by omega, by omega, by omega, by omega, by omega⟩)⟩
        · refine wp_of e17 c17_34 (rw_aload_n (pc' := 35) (v := .ref 22) rfl rfl rfl ?_)
          refine wp_of e17 c17_35 (rw_gs (pc' := 38) (k := 16) rfl rfl rfl rfl ?_)
          refine wp_of e17 c17_38 (rw_acmp_eq (p1 := 48) (p2 := 41) (a := some 22) (b := some 16) rfl rfl (by decide) rfl (fun q9 => absurd q9 (by decide)) (fun q9 => ?_))
          refine wp_of e17 c17_41 (rw_aload_n (pc' := 42) (v := .ref 22) rfl rfl rfl ?_)
          refine wp_of e17 c17_42 (rw_gs (pc' := 45) (k := 18) rfl rfl rfl rfl ?_)
          refine wp_of e17 c17_45 (rw_acmp_ne (p1 := 52) (p2 := 48) (a := some 22) (b := some 18) rfl rfl (by decide) rfl (fun q9 => ?_) (fun q9 => absurd q9 (by decide)))
          refine wp_of e17 c17_52 (rw_iconst (pc' := 53) rfl ?_)
          refine wp_of e17 c17_53 (rw_istore_n (pc' := 54) (z := 0) (L' := [(3, vI 0), (2, .ref 22), (0, .ref r0), (1, .ref r1)]) rfl rfl rfl ?_)
          refine wp_of e17 c17_54 (rw_aload_n (pc' := 55) (v := .ref r0) rfl rfl rfl ?_)
          refine wp_of e17 c17_55 (rw_iload_n (pc' := 56) (z := 0) rfl rfl ?_)
          refine wp_of e17 c17_56 (rw_if_eq (p1 := 63) (p2 := 59) (by decide) rfl ⟨by decide, by decide⟩ (fun c2392 => ?_) (fun c2392 => ?_))
          · refine wp_of e17 c17_63 (rw_iconst (pc' := 64) rfl ?_)
            refine wp_of e17 c17_64 (xc_V (pc' := 67) (r := r0) (as := [vI 5]) (st := []) (lm_1_47) rfl rfl (Nat.le_of_ble_eq_true rfl) hW g0 sh_3 (by decide) rfl (by decide) (u_20  hW g0 ⟨by decide, by decide⟩ qtk gtk) (fun R2393 T2394 H2395 p2396 => ?_))
            obtain ⟨e2397, w2399, f2400, z2401, e2398, b2402, p2403⟩ := p2396
            subst e2397
            subst e2398
            obtain ⟨a2404, a2405, a2406⟩ := p2403
            have f2407 := f0.tr f2400 rfl
            show wp _ _ 17 67 [(3, vI 0), (2, .ref 22), (0, .ref r0), (1, .ref r1)] [vI z2401] _ H2395 _
            have o2408 : (xline B n q d) = (5, q, q) := by
              unfold xline xl0 xl1 xl2 xl3 xl4 xl5 xl6 xl7 xper
              repeat first | rw [xs_0 (Int.le_antisymm (by omega -splitDisjunctions) (by omega -splitDisjunctions))] | rw [xs_1 (by omega -splitDisjunctions)] | rw [if_pos (Int.le_antisymm (by omega -splitDisjunctions) (by omega -splitDisjunctions))] | rw [if_pos (by omega -splitDisjunctions)] | rw [if_pos (And.intro (by omega -splitDisjunctions) (by omega -splitDisjunctions))] | rw [if_neg (by omega -splitDisjunctions)] | rw [xs_1 (by omega)] | rw [if_neg (by omega)] | rw [xs_0 (by omega)] | rw [if_pos (by omega)]
              first | done | rfl | assumption | (exfalso; omega -splitDisjunctions) | (refine Prod.ext ?_ (Prod.ext ?_ ?_) <;> (try dsimp only) <;> omega) | (exfalso; omega)
            have o2408a : ((xline B n q d)).1 = 5 := by rw [o2408]
            have o2408b : ((xline B n q d)).2.1 = q := by rw [o2408]
            have o2408c : ((xline B n q d)).2.2 = q := by rw [o2408]
            exact wp_zreturn e17 c17_67 rfl (by omega) ⟨rfl, w2399, f2407, z2401, rfl, ⟨b2402.1, b2402.2⟩, (Or.inr ⟨by omega, by omega, by omega, by omega, by omega⟩)⟩
          · exfalso
            omega
      · exfalso
        omega
    · subst c1758
      show wp _ _ 17 4 [(0, .ref r0), (1, .ref r1)] [.ref 23] _ H _
      refine wp_of e17 c17_4 (rw_astore_n (pc' := 5) (v := .ref 23) (L' := [(2, .ref 23), (0, .ref r0), (1, .ref r1)]) rfl rfl rfl rfl ?_)
      refine wp_of e17 c17_5 (rw_aload_n (pc' := 6) (v := .ref 23) rfl rfl rfl ?_)
      refine wp_of e17 c17_6 (rw_ifnull_r (p1 := 16) (p2 := 9) (by decide) rfl ?_)
      refine wp_of e17 c17_9 (rw_aload_n (pc' := 10) (v := .ref 23) rfl rfl rfl ?_)
      have k2409 : H 23 1 = 6 := (hW.2 23 _ (hW.1.2.2 7 (by decide))).2.2 1 (by decide) |> fun z => by have z1 : (6 : Int) ≤ H 23 1 ∧ H 23 1 ≤ 6 := z; omega
      refine wp_of e17 c17_10 (rw_getI (pc' := 13) (n := 2) (e := _) (lf_1_58).choose_spec.1 (lf_1_58).choose_spec.2.1 (hW.sh (hW.1.2.2 7 (by decide)) rfl) (by decide) rfl rfl ?_)
      rw [k2409]
      refine wp_of e17 c17_13 (rw_if_ne (p1 := 22) (p2 := 16) (by decide) rfl ⟨by decide, by decide⟩ (fun c2410 => ?_) (fun c2410 => ?_))
      · refine wp_of e17 c17_22 (rw_aload_n (pc' := 23) (v := .ref r1) rfl rfl rfl ?_)
        refine wp_of e17 c17_23 (rw_aload_n (pc' := 24) (v := .ref 23) rfl rfl rfl ?_)
        refine wp_of e17 c17_24 (xc_V (pc' := 27) (r := r1) (as := [.ref 23]) (st := []) (lm_1_63) rfl rfl (Nat.le_of_ble_eq_true rfl) hW g1 sh_27 (by decide) rfl (by decide) (u_21_23  hW g1) (fun R2411 T2412 H2413 p2414 => ?_))
        obtain ⟨e2415, e2417, z2418, e2416, b2419, p2420⟩ := p2414
        subst e2415
        subst e2416
        subst e2417
        obtain ⟨a2421, a2422⟩ := p2420
        show wp _ _ 17 27 [(2, .ref 23), (0, .ref r0), (1, .ref r1)] [vI z2418] _ H _
        refine wp_of e17 c17_27 (rw_aload_n (pc' := 28) (v := .ref 23) rfl rfl rfl ?_)
        have k2423 : H 23 1 = 6 := (hW.2 23 _ (hW.1.2.2 7 (by decide))).2.2 1 (by decide) |> fun z => by have z1 : (6 : Int) ≤ H 23 1 ∧ H 23 1 ≤ 6 := z; omega
        refine wp_of e17 c17_28 (rw_getI (pc' := 31) (n := 2) (e := _) (lf_1_58).choose_spec.1 (lf_1_58).choose_spec.2.1 (hW.sh (hW.1.2.2 7 (by decide)) rfl) (by decide) rfl rfl ?_)
        rw [k2423]
        refine wp_of e17 c17_31 (rw_icmp_lt (p1 := 68) (p2 := 34) (by decide) rfl ⟨b2419.1, b2419.2⟩ ⟨by decide, by decide⟩ (fun c2424 => ?_) (fun c2424 => ?_))
        · refine wp_of e17 c17_68 (rw_aload_n (pc' := 69) (v := .ref r0) rfl rfl rfl ?_)
          refine wp_of e17 c17_69 (xg_K (pc' := 72) lf_1_12 hW g0 sh_3 (by decide) (by decide) rfl qtk rfl ?_)
          have h2425 : TP T H rb B := TC_tp hTC_tk qrb
          refine wp_of e17 c17_72 (xc_V (pc' := 75) (r := tk) (as := []) (st := []) (lm_1_74) rfl rfl (Nat.le_of_ble_eq_true rfl) hW gtk sh_4 (by decide) rfl (by decide) (u_16 (B := B) (n := n) (a := (xE B n q)) (q := (xN B n q)) hW gtk qrb grb (by omega) (by omega) (by omega) (rfl) h2425) (fun R2426 T2427 H2428 p2429 => ?_))
          obtain ⟨e2430, w2432, f2433, e2431, p2434⟩ := p2429
          subst e2430
          subst e2431
          have f2436 := f0.tr f2433 rfl
          show wp _ _ 17 75 [(2, .ref 23), (0, .ref r0), (1, .ref r1)] [] _ H2428 _
          have u2437 := TC_k p2434
          refine wp_of e17 c17_75 (rw_gs (pc' := 78) (k := 2) rfl rfl rfl rfl ?_)
          refine wp_of e17 c17_78 (rw_aload_n (pc' := 79) (v := .ref 23) rfl rfl rfl ?_)
          refine wp_of e17 c17_79 (rw_ord (pc' := 82) rfl rfl rfl (by decide) (Nat.le_of_ble_eq_true rfl) rfl ?_)
          show wp _ _ 17 82 [(2, .ref 23), (0, .ref r0), (1, .ref r1)] [vI 7, .ref 2] _ H2428 _
          have k2438 : H2428 2 (7 : Int).toNat = 8 := (w2432.2 2 _ w2432.1.2.1).2.2 7 (by decide) |> fun z => by have z1 : (8 : Int) ≤ H2428 2 7 ∧ H2428 2 7 ≤ 8 := z; exact Int.le_antisymm z1.2 z1.1
          refine wp_of e17 c17_82 (rw_iaload (pc' := 83) (n := 11) (w2432.sh w2432.1.2.1 rfl) (by decide) (by decide) (by decide) rfl rfl ?_)
          rw [k2438]
          refine wp_of e17 c17_83 (rw_tsw (p1 := 186) ⟨by omega, by omega⟩ (by decide) ?_)
          refine wp_of e17 c17_186 (rw_aload_n (pc' := 187) (v := .ref r0) rfl rfl rfl ?_)
          refine wp_of e17 c17_187 (rw_aload_n (pc' := 188) (v := .ref r1) rfl rfl rfl ?_)
          have k2440 : H2428 r0 0 = H r0 0 := (f2433 r0 0 _ g0 rfl)
          have q2441 : H2428 r0 0 = (tk : Int) := k2440.trans qtk
          have k2442 : H2428 tk 0 = H tk 0 := (f2433 tk 0 _ gtk rfl)
          have q2443 : H2428 tk 0 = (rb : Int) := k2442.trans qrb
          have k2444 : H2428 r0 3 = H r0 3 := (f2433 r0 3 _ g0 rfl)
          have h2445 : DC T H2428 r1 d := (DC_fr hW g1 f2433 rfl hDC_r1)
          have h2446 : CZ T H2428 r1 (d 0 3) := (CZ_fr hW g1 f2433 rfl hCZ_r1)
          refine wp_of e17 c17_188 (xc_V (pc' := 191) (r := r0) (as := [.ref r1]) (st := []) (lm_1_111) rfl rfl (Nat.le_of_ble_eq_true rfl) w2432 g0 sh_3 (by decide) rfl (by decide) (u_43 (B := B) (n := n) (q := ((xN B n q))) (d := d) w2432 g0 g1 q2441 gtk q2443 grb (by omega) p2434 h2445 h2446) (fun R2447 T2448 H2449 p2450 => ?_))
          obtain ⟨e2451, w2453, f2454, z2455, e2452, b2456, p2457⟩ := p2450
          subst e2451
          subst e2452
          rcases p2457 with ⟨a2458, a2459, a2460, a2461, a2462, a2463, a2464, a2465⟩ | ⟨a2466, a2467, a2468, a2469, a2470⟩
          · have f2471 := f2436.tr f2454 rfl
            show wp _ _ 17 191 [(2, .ref 23), (0, .ref r0), (1, .ref r1)] [vI z2455] _ H2449 _
            have u2472 := TC_k a2463
            have u2473 := DC_k a2464
            have o2474 : (xline B n q d) = (0, ((xN B n q)), (xN B n (xN B n (xN B n (xN B n ((xN B n q))))))) := by
              unfold xline xl0 xl1 xl2 xl3 xl4 xl5 xl6 xl7 xper
              repeat first | rw [xs_0 (Int.le_antisymm (by omega -splitDisjunctions) (by omega -splitDisjunctions))] | rw [xs_1 (by omega -splitDisjunctions)] | rw [if_pos (Int.le_antisymm (by omega -splitDisjunctions) (by omega -splitDisjunctions))] | rw [if_pos (by omega -splitDisjunctions)] | rw [if_pos (And.intro (by omega -splitDisjunctions) (by omega -splitDisjunctions))] | rw [if_neg (by omega -splitDisjunctions)] | rw [xs_1 (by omega)] | rw [if_neg (by omega)] | rw [xs_0 (by omega)] | rw [if_pos (by omega)]
              first | done | rfl | assumption | (exfalso; omega -splitDisjunctions) | (refine Prod.ext ?_ (Prod.ext ?_ ?_) <;> (try dsimp only) <;> omega) | (exfalso; omega)
            have o2474a : ((xline B n q d)).1 = 0 := by rw [o2474]
            have o2474b : ((xline B n q d)).2.1 = ((xN B n q)) := by rw [o2474]
            have o2474c : ((xline B n q d)).2.2 = (xN B n (xN B n (xN B n (xN B n ((xN B n q)))))) := by rw [o2474]
            have o2475 : xdline B n q d = ((xdof B n ((xN B n q)) d)) := by
              unfold xdline
              repeat first | rw [xs_0 (Int.le_antisymm (by omega -splitDisjunctions) (by omega -splitDisjunctions))] | rw [xs_1 (by omega -splitDisjunctions)] | rw [if_pos (Int.le_antisymm (by omega -splitDisjunctions) (by omega -splitDisjunctions))] | rw [if_pos (by omega -splitDisjunctions)] | rw [if_pos (And.intro (by omega -splitDisjunctions) (by omega -splitDisjunctions))] | rw [if_neg (by omega -splitDisjunctions)] | rw [xs_1 (by omega)] | rw [if_neg (by omega)] | rw [xs_0 (by omega)] | rw [if_pos (by omega)]
              first | done | rfl
            exact wp_zreturn e17 c17_191 rfl (by omega) ⟨rfl, w2453, f2471, z2455, rfl, ⟨b2456.1, b2456.2⟩, (Or.inl ⟨by omega, by omega, by omega, by omega, by rw [o2474]; exact a2463, by rw [o2475]; exact a2464, by rw [o2475]; exact a2465⟩)⟩
          · have f2476 := f2436.tr f2454 rfl
            show wp _ _ 17 191 [(2, .ref 23), (0, .ref r0), (1, .ref r1)] [vI z2455] _ H2449 _
            have o2477 : (xline B n q d) = ((xtl B n ((xN B n q)) d).1, (xtl B n ((xN B n q)) d).2.1, (xtl B n ((xN B n q)) d).2.2) := by
              unfold xline xl0 xl1 xl2 xl3 xl4 xl5 xl6 xl7 xper
              repeat first | rw [xs_0 (Int.le_antisymm (by omega -splitDisjunctions) (by omega -splitDisjunctions))] | rw [xs_1 (by omega -splitDisjunctions)] | rw [if_pos (Int.le_antisymm (by omega -splitDisjunctions) (by omega -splitDisjunctions))] | rw [if_pos (by omega -splitDisjunctions)] | rw [if_pos (And.intro (by omega -splitDisjunctions) (by omega -splitDisjunctions))] | rw [if_neg (by omega -splitDisjunctions)] | rw [xs_1 (by omega)] | rw [if_neg (by omega)] | rw [xs_0 (by omega)] | rw [if_pos (by omega)]
              first | done | rfl | assumption | (exfalso; omega -splitDisjunctions) | (refine Prod.ext ?_ (Prod.ext ?_ ?_) <;> (try dsimp only) <;> omega) | (exfalso; omega)
            have o2477a : ((xline B n q d)).1 = (xtl B n ((xN B n q)) d).1 := by rw [o2477]
            have o2477b : ((xline B n q d)).2.1 = (xtl B n ((xN B n q)) d).2.1 := by rw [o2477]
            have o2477c : ((xline B n q d)).2.2 = (xtl B n ((xN B n q)) d).2.2 := by rw [o2477]
            exact wp_zreturn e17 c17_191 rfl (by omega) ⟨rfl, w2453, f2476, z2455, rfl, ⟨b2456.1, b2456.2⟩, (Or.inr ⟨by omega, by omega, by omega, by omega, by omega⟩)⟩
        · refine wp_of e17 c17_34 (rw_aload_n (pc' := 35) (v := .ref 23) rfl rfl rfl ?_)
          refine wp_of e17 c17_35 (rw_gs (pc' := 38) (k := 16) rfl rfl rfl rfl ?_)
          refine wp_of e17 c17_38 (rw_acmp_eq (p1 := 48) (p2 := 41) (a := some 23) (b := some 16) rfl rfl (by decide) rfl (fun q9 => absurd q9 (by decide)) (fun q9 => ?_))
          refine wp_of e17 c17_41 (rw_aload_n (pc' := 42) (v := .ref 23) rfl rfl rfl ?_)
          refine wp_of e17 c17_42 (rw_gs (pc' := 45) (k := 18) rfl rfl rfl rfl ?_)
          refine wp_of e17 c17_45 (rw_acmp_ne (p1 := 52) (p2 := 48) (a := some 23) (b := some 18) rfl rfl (by decide) rfl (fun q9 => ?_) (fun q9 => absurd q9 (by decide)))
          refine wp_of e17 c17_52 (rw_iconst (pc' := 53) rfl ?_)
          refine wp_of e17 c17_53 (rw_istore_n (pc' := 54) (z := 0) (L' := [(3, vI 0), (2, .ref 23), (0, .ref r0), (1, .ref r1)]) rfl rfl rfl ?_)
          refine wp_of e17 c17_54 (rw_aload_n (pc' := 55) (v := .ref r0) rfl rfl rfl ?_)
          refine wp_of e17 c17_55 (rw_iload_n (pc' := 56) (z := 0) rfl rfl ?_)
          refine wp_of e17 c17_56 (rw_if_eq (p1 := 63) (p2 := 59) (by decide) rfl ⟨by decide, by decide⟩ (fun c2478 => ?_) (fun c2478 => ?_))
          · refine wp_of e17 c17_63 (rw_iconst (pc' := 64) rfl ?_)
            refine wp_of e17 c17_64 (xc_V (pc' := 67) (r := r0) (as := [vI 5]) (st := []) (lm_1_47) rfl rfl (Nat.le_of_ble_eq_true rfl) hW g0 sh_3 (by decide) rfl (by decide) (u_20  hW g0 ⟨by decide, by decide⟩ qtk gtk) (fun R2479 T2480 H2481 p2482 => ?_))
            obtain ⟨e2483, w2485, f2486, z2487, e2484, b2488, p2489⟩ := p2482
            subst e2483
            subst e2484
            obtain ⟨a2490, a2491, a2492⟩ := p2489
            have f2493 := f0.tr f2486 rfl
            show wp _ _ 17 67 [(3, vI 0), (2, .ref 23), (0, .ref r0), (1, .ref r1)] [vI z2487] _ H2481 _
            have o2494 : (xline B n q d) = (5, q, q) := by
              unfold xline xl0 xl1 xl2 xl3 xl4 xl5 xl6 xl7 xper
              repeat first | rw [xs_0 (Int.le_antisymm (by omega -splitDisjunctions) (by omega -splitDisjunctions))] | rw [xs_1 (by omega -splitDisjunctions)] | rw [if_pos (Int.le_antisymm (by omega -splitDisjunctions) (by omega -splitDisjunctions))] | rw [if_pos (by omega -splitDisjunctions)] | rw [if_pos (And.intro (by omega -splitDisjunctions) (by omega -splitDisjunctions))] | rw [if_neg (by omega -splitDisjunctions)] | rw [xs_1 (by omega)] | rw [if_neg (by omega)] | rw [xs_0 (by omega)] | rw [if_pos (by omega)]
              first | done | rfl | assumption | (exfalso; omega -splitDisjunctions) | (refine Prod.ext ?_ (Prod.ext ?_ ?_) <;> (try dsimp only) <;> omega) | (exfalso; omega)
            have o2494a : ((xline B n q d)).1 = 5 := by rw [o2494]
            have o2494b : ((xline B n q d)).2.1 = q := by rw [o2494]
            have o2494c : ((xline B n q d)).2.2 = q := by rw [o2494]
            exact wp_zreturn e17 c17_67 rfl (by omega) ⟨rfl, w2485, f2493, z2487, rfl, ⟨b2488.1, b2488.2⟩, (Or.inr ⟨by omega, by omega, by omega, by omega, by omega⟩)⟩
          · exfalso
            omega
      · exfalso
        omega
    · subst c1758
      show wp _ _ 17 4 [(0, .ref r0), (1, .ref r1)] [.ref 24] _ H _
      refine wp_of e17 c17_4 (rw_astore_n (pc' := 5) (v := .ref 24) (L' := [(2, .ref 24), (0, .ref r0), (1, .ref r1)]) rfl rfl rfl rfl ?_)
      refine wp_of e17 c17_5 (rw_aload_n (pc' := 6) (v := .ref 24) rfl rfl rfl ?_)
      refine wp_of e17 c17_6 (rw_ifnull_r (p1 := 16) (p2 := 9) (by decide) rfl ?_)
      refine wp_of e17 c17_9 (rw_aload_n (pc' := 10) (v := .ref 24) rfl rfl rfl ?_)
      have k2495 : H 24 1 = 0 := (hW.2 24 _ (hW.1.2.2 8 (by decide))).2.2 1 (by decide) |> fun z => by have z1 : (0 : Int) ≤ H 24 1 ∧ H 24 1 ≤ 0 := z; omega
      refine wp_of e17 c17_10 (rw_getI (pc' := 13) (n := 2) (e := _) (lf_1_58).choose_spec.1 (lf_1_58).choose_spec.2.1 (hW.sh (hW.1.2.2 8 (by decide)) rfl) (by decide) rfl rfl ?_)
      rw [k2495]
      refine wp_of e17 c17_13 (rw_if_ne (p1 := 22) (p2 := 16) (by decide) rfl ⟨by decide, by decide⟩ (fun c2496 => ?_) (fun c2496 => ?_))
      · exfalso
        omega
      · refine wp_of e17 c17_16 (rw_aload_n (pc' := 17) (v := .ref r0) rfl rfl rfl ?_)
        refine wp_of e17 c17_17 (rw_iconst (pc' := 18) rfl ?_)
        refine wp_of e17 c17_18 (xc_V (pc' := 21) (r := r0) (as := [vI 1]) (st := []) (lm_1_47) rfl rfl (Nat.le_of_ble_eq_true rfl) hW g0 sh_3 (by decide) rfl (by decide) (u_20  hW g0 ⟨by decide, by decide⟩ qtk gtk) (fun R2497 T2498 H2499 p2500 => ?_))
        obtain ⟨e2501, w2503, f2504, z2505, e2502, b2506, p2507⟩ := p2500
        subst e2501
        subst e2502
        obtain ⟨a2508, a2509, a2510⟩ := p2507
        have f2511 := f0.tr f2504 rfl
        show wp _ _ 17 21 [(2, .ref 24), (0, .ref r0), (1, .ref r1)] [vI z2505] _ H2499 _
        have o2512 : (xline B n q d) = (1, q, q) := by
          unfold xline xl0 xl1 xl2 xl3 xl4 xl5 xl6 xl7 xper
          repeat first | rw [xs_0 (Int.le_antisymm (by omega -splitDisjunctions) (by omega -splitDisjunctions))] | rw [xs_1 (by omega -splitDisjunctions)] | rw [if_pos (Int.le_antisymm (by omega -splitDisjunctions) (by omega -splitDisjunctions))] | rw [if_pos (by omega -splitDisjunctions)] | rw [if_pos (And.intro (by omega -splitDisjunctions) (by omega -splitDisjunctions))] | rw [if_neg (by omega -splitDisjunctions)] | rw [xs_1 (by omega)] | rw [if_neg (by omega)] | rw [xs_0 (by omega)] | rw [if_pos (by omega)]
          first | done | rfl | assumption | (exfalso; omega -splitDisjunctions) | (refine Prod.ext ?_ (Prod.ext ?_ ?_) <;> (try dsimp only) <;> omega) | (exfalso; omega)
        have o2512a : ((xline B n q d)).1 = 1 := by rw [o2512]
        have o2512b : ((xline B n q d)).2.1 = q := by rw [o2512]
        have o2512c : ((xline B n q d)).2.2 = q := by rw [o2512]
        exact wp_zreturn e17 c17_21 rfl (by omega) ⟨rfl, w2503, f2511, z2505, rfl, ⟨b2506.1, b2506.2⟩, (Or.inr ⟨by omega, by omega, by omega, by omega, by omega⟩)⟩
    · subst c1758
      show wp _ _ 17 4 [(0, .ref r0), (1, .ref r1)] [.ref 25] _ H _
      refine wp_of e17 c17_4 (rw_astore_n (pc' := 5) (v := .ref 25) (L' := [(2, .ref 25), (0, .ref r0), (1, .ref r1)]) rfl rfl rfl rfl ?_)
      refine wp_of e17 c17_5 (rw_aload_n (pc' := 6) (v := .ref 25) rfl rfl rfl ?_)
      refine wp_of e17 c17_6 (rw_ifnull_r (p1 := 16) (p2 := 9) (by decide) rfl ?_)
      refine wp_of e17 c17_9 (rw_aload_n (pc' := 10) (v := .ref 25) rfl rfl rfl ?_)
      have k2513 : H 25 1 = 0 := (hW.2 25 _ (hW.1.2.2 9 (by decide))).2.2 1 (by decide) |> fun z => by have z1 : (0 : Int) ≤ H 25 1 ∧ H 25 1 ≤ 0 := z; omega
      refine wp_of e17 c17_10 (rw_getI (pc' := 13) (n := 2) (e := _) (lf_1_58).choose_spec.1 (lf_1_58).choose_spec.2.1 (hW.sh (hW.1.2.2 9 (by decide)) rfl) (by decide) rfl rfl ?_)
      rw [k2513]
      refine wp_of e17 c17_13 (rw_if_ne (p1 := 22) (p2 := 16) (by decide) rfl ⟨by decide, by decide⟩ (fun c2514 => ?_) (fun c2514 => ?_))
      · exfalso
        omega
      · refine wp_of e17 c17_16 (rw_aload_n (pc' := 17) (v := .ref r0) rfl rfl rfl ?_)
        refine wp_of e17 c17_17 (rw_iconst (pc' := 18) rfl ?_)
        refine wp_of e17 c17_18 (xc_V (pc' := 21) (r := r0) (as := [vI 1]) (st := []) (lm_1_47) rfl rfl (Nat.le_of_ble_eq_true rfl) hW g0 sh_3 (by decide) rfl (by decide) (u_20  hW g0 ⟨by decide, by decide⟩ qtk gtk) (fun R2515 T2516 H2517 p2518 => ?_))
        obtain ⟨e2519, w2521, f2522, z2523, e2520, b2524, p2525⟩ := p2518
        subst e2519
        subst e2520
        obtain ⟨a2526, a2527, a2528⟩ := p2525
        have f2529 := f0.tr f2522 rfl
        show wp _ _ 17 21 [(2, .ref 25), (0, .ref r0), (1, .ref r1)] [vI z2523] _ H2517 _
        have o2530 : (xline B n q d) = (1, q, q) := by
          unfold xline xl0 xl1 xl2 xl3 xl4 xl5 xl6 xl7 xper
          repeat first | rw [xs_0 (Int.le_antisymm (by omega -splitDisjunctions) (by omega -splitDisjunctions))] | rw [xs_1 (by omega -splitDisjunctions)] | rw [if_pos (Int.le_antisymm (by omega -splitDisjunctions) (by omega -splitDisjunctions))] | rw [if_pos (by omega -splitDisjunctions)] | rw [if_pos (And.intro (by omega -splitDisjunctions) (by omega -splitDisjunctions))] | rw [if_neg (by omega -splitDisjunctions)] | rw [xs_1 (by omega)] | rw [if_neg (by omega)] | rw [xs_0 (by omega)] | rw [if_pos (by omega)]
          first | done | rfl | assumption | (exfalso; omega -splitDisjunctions) | (refine Prod.ext ?_ (Prod.ext ?_ ?_) <;> (try dsimp only) <;> omega) | (exfalso; omega)
        have o2530a : ((xline B n q d)).1 = 1 := by rw [o2530]
        have o2530b : ((xline B n q d)).2.1 = q := by rw [o2530]
        have o2530c : ((xline B n q d)).2.2 = q := by rw [o2530]
        exact wp_zreturn e17 c17_21 rfl (by omega) ⟨rfl, w2521, f2529, z2523, rfl, ⟨b2524.1, b2524.2⟩, (Or.inr ⟨by omega, by omega, by omega, by omega, by omega⟩)⟩
    · subst c1758
      show wp _ _ 17 4 [(0, .ref r0), (1, .ref r1)] [.ref 26] _ H _
      refine wp_of e17 c17_4 (rw_astore_n (pc' := 5) (v := .ref 26) (L' := [(2, .ref 26), (0, .ref r0), (1, .ref r1)]) rfl rfl rfl rfl ?_)
      refine wp_of e17 c17_5 (rw_aload_n (pc' := 6) (v := .ref 26) rfl rfl rfl ?_)
      refine wp_of e17 c17_6 (rw_ifnull_r (p1 := 16) (p2 := 9) (by decide) rfl ?_)
      refine wp_of e17 c17_9 (rw_aload_n (pc' := 10) (v := .ref 26) rfl rfl rfl ?_)
      have k2531 : H 26 1 = 0 := (hW.2 26 _ (hW.1.2.2 10 (by decide))).2.2 1 (by decide) |> fun z => by have z1 : (0 : Int) ≤ H 26 1 ∧ H 26 1 ≤ 0 := z; omega
      refine wp_of e17 c17_10 (rw_getI (pc' := 13) (n := 2) (e := _) (lf_1_58).choose_spec.1 (lf_1_58).choose_spec.2.1 (hW.sh (hW.1.2.2 10 (by decide)) rfl) (by decide) rfl rfl ?_)
      rw [k2531]
      refine wp_of e17 c17_13 (rw_if_ne (p1 := 22) (p2 := 16) (by decide) rfl ⟨by decide, by decide⟩ (fun c2532 => ?_) (fun c2532 => ?_))
      · exfalso
        omega
      · refine wp_of e17 c17_16 (rw_aload_n (pc' := 17) (v := .ref r0) rfl rfl rfl ?_)
        refine wp_of e17 c17_17 (rw_iconst (pc' := 18) rfl ?_)
        refine wp_of e17 c17_18 (xc_V (pc' := 21) (r := r0) (as := [vI 1]) (st := []) (lm_1_47) rfl rfl (Nat.le_of_ble_eq_true rfl) hW g0 sh_3 (by decide) rfl (by decide) (u_20  hW g0 ⟨by decide, by decide⟩ qtk gtk) (fun R2533 T2534 H2535 p2536 => ?_))
        obtain ⟨e2537, w2539, f2540, z2541, e2538, b2542, p2543⟩ := p2536
        subst e2537
        subst e2538
        obtain ⟨a2544, a2545, a2546⟩ := p2543
        have f2547 := f0.tr f2540 rfl
        show wp _ _ 17 21 [(2, .ref 26), (0, .ref r0), (1, .ref r1)] [vI z2541] _ H2535 _
        have o2548 : (xline B n q d) = (1, q, q) := by
          unfold xline xl0 xl1 xl2 xl3 xl4 xl5 xl6 xl7 xper
          repeat first | rw [xs_0 (Int.le_antisymm (by omega -splitDisjunctions) (by omega -splitDisjunctions))] | rw [xs_1 (by omega -splitDisjunctions)] | rw [if_pos (Int.le_antisymm (by omega -splitDisjunctions) (by omega -splitDisjunctions))] | rw [if_pos (by omega -splitDisjunctions)] | rw [if_pos (And.intro (by omega -splitDisjunctions) (by omega -splitDisjunctions))] | rw [if_neg (by omega -splitDisjunctions)] | rw [xs_1 (by omega)] | rw [if_neg (by omega)] | rw [xs_0 (by omega)] | rw [if_pos (by omega)]
          first | done | rfl | assumption | (exfalso; omega -splitDisjunctions) | (refine Prod.ext ?_ (Prod.ext ?_ ?_) <;> (try dsimp only) <;> omega) | (exfalso; omega)
        have o2548a : ((xline B n q d)).1 = 1 := by rw [o2548]
        have o2548b : ((xline B n q d)).2.1 = q := by rw [o2548]
        have o2548c : ((xline B n q d)).2.2 = q := by rw [o2548]
        exact wp_zreturn e17 c17_21 rfl (by omega) ⟨rfl, w2539, f2547, z2541, rfl, ⟨b2542.1, b2542.2⟩, (Or.inr ⟨by omega, by omega, by omega, by omega, by omega⟩)⟩
