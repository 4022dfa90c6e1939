/-! StrikeAwakeModel.strike(II)I  -/
abbrev uq_285 (r0 : Nat) (a1 : Int) (a2 : Int) (e : xD) (d : xD) (y : Int) (w : Int) (T : wq_T) (H : wq_H) : Option Value → wq_T → wq_H → Prop := fun r T' H' => T = T' ∧ WT T H' ∧ wfr [(42, 0), (42, 1), (42, 2), (42, 28), (44, 999)] T H H' ∧ ∃ z : Int, some (vI z) = r ∧ ((-2147483648) ≤ z ∧ z ≤ 2147483647) ∧ (((z = -1) ∧ ((y < 0 ∨ d 0 0 ≤ y) ∨ a2 < 0 ∨ 99 < a2) ∧ (wKI H' r0 = 1) ∧ RB T H' r0 e d) ∨ (((0 ≤ y ∧ y < d 0 0) ∧ 0 ≤ a2 ∧ a2 ≤ 99) ∧ (wKI H' r0 = 1) ∧ RB T H' r0 (wq_u e 13 (y).toNat w) d))
set_option maxHeartbeats 4000000 in
theorem u_285 {kt : Nat → Option mc_E} {T : wq_T} {H : wq_H} {r0 : Nat} {a1 : Int} {a2 : Int} {e : xD} {d : xD} {y : Int} {w : Int} (hW : WT T H) (g0 : T.2.2.2 r0 = some 42) (i1 : (-2147483648) ≤ a1 ∧ a1 ≤ 2147483647) (i2 : (-2147483648) ≤ a2 ∧ a2 ≤ 2147483647) (p0 : wKI H r0 = 1) (p1 : a1 = y) (p2 : w = a2 + 1) (hRB_r0 : RB T H r0 e d) : wpc kt 2 285 [.ref r0, vI a1, vI a2] T H (uq_285 r0 a1 a2 e d y w T H) := by
  refine wp_enter e285 (Nat.le_of_ble_eq_true rfl) rfl ?_
  have f0 : wfr [(42, 0), (42, 1), (42, 2), (42, 28), (44, 999)] T H H := wfr.rf
  show wp _ _ 285 0 [(0, .ref r0), (1, vI a1), (2, vI a2)] [] _ H _
  have _b := RB_b hW hRB_r0
  have _nu := RB_n3 hRB_r0
  refine wp_of e285 c285_0 (rw_aload_n (pc' := 1) (v := .ref r0) rfl rfl rfl ?_)
  refine wp_of e285 c285_1 (rw_iconst (pc' := 2) rfl ?_)
  refine wp_of e285 c285_2 (xp_I (pc' := 5) lf_9_48 hW g0 sh_42 (by decide) (by decide) ty_42_0 rfl rfl (by decide) (by decide) ⟨by decide, by decide⟩ rfl (fun H1118 e1119 w1120 => ?_))
  have f1121 := f0.put' e1119 g0 rfl
  have k1122 : H1118 r0 0 = 0 := wq_u_s e1119
  refine wp_of e285 c285_5 (rw_aload_n (pc' := 6) (v := .ref r0) rfl rfl rfl ?_)
  refine wp_of e285 c285_6 (rw_iload_n (pc' := 7) (z := a1) rfl rfl ?_)
  have h1123 : RB T H1118 r0 e d := (RB_fr hW g0 ((wfr.rf (l := [(42, 0)])).put' e1119 g0 rfl) rfl hRB_r0)
  refine wp_of e285 c285_7 (xc_V (pc' := 10) (r := r0) (as := [vI a1]) (st := []) (lm_9_373) rfl rfl (Nat.le_of_ble_eq_true rfl) w1120 g0 sh_42 (by decide) rfl (by decide) (u_218 (e := e) (d := d) w1120 g0 ⟨i1.1, i1.2⟩ h1123) (fun R1124 T1125 H1126 p1127 => ?_))
  obtain ⟨e1128, e1130, z1131, e1129, b1132, p1133⟩ := p1127
  subst e1128
  subst e1129
  subst e1130
  rcases p1133 with ⟨a1134, a1135⟩ | ⟨a1136, a1137⟩
  · show wp _ _ 285 10 [(0, .ref r0), (1, vI a1), (2, vI a2)] [vI z1131] _ H1118 _
    refine wp_of e285 c285_10 (rw_if_ne (p1 := 19) (p2 := 13) (by decide) rfl ⟨Int.le_trans (by decide) b1132.1, Int.le_trans b1132.2 (by decide)⟩ (fun c1138 => ?_) (fun c1138 => ?_))
    · refine wp_of e285 c285_19 (rw_iload_n (pc' := 20) (z := a2) rfl rfl ?_)
      refine wp_of e285 c285_20 (rw_iconst (pc' := 21) rfl ?_)
      refine wp_of e285 c285_21 (rw_bipush (pc' := 23) (z := 99) rfl (by decide) ?_)
      refine wp_of e285 c285_23 (xc_S (pc' := 26) (as := [vI a2, vI 0, vI 99]) (st := []) (lm_9_125) rfl rfl (Nat.le_of_ble_eq_true rfl) rfl (by decide) (u_186  w1120 ⟨i2.1, i2.2⟩ ⟨by decide, by decide⟩ ⟨by decide, by decide⟩) (fun R1139 T1140 H1141 p1142 => ?_))
      obtain ⟨e1143, e1145, z1146, e1144, b1147, p1148⟩ := p1142
      subst e1143
      subst e1144
      subst e1145
      rcases p1148 with ⟨a1149, a1150⟩ | ⟨a1151, a1152⟩
      · show wp _ _ 285 26 [(0, .ref r0), (1, vI a1), (2, vI a2)] [vI z1146] _ H1118 _
        refine wp_of e285 c285_26 (rw_if_ne (p1 := 35) (p2 := 29) (by decide) rfl ⟨Int.le_trans (by decide) b1147.1, Int.le_trans b1147.2 (by decide)⟩ (fun c1153 => ?_) (fun c1153 => ?_))
        · refine wp_of e285 c285_35 (rw_aload_n (pc' := 36) (v := .ref r0) rfl rfl rfl ?_)
          refine wp_of e285 c285_36 (xg_R (pc' := 39) lf_9_17 w1120 g0 sh_42 (by decide) (by decide) ty_42_20 rfl rfl (fun r1154 q1155 g1156 => ?_))
          refine wp_of e285 c285_39 (rw_iload_n (pc' := 40) (z := a1) rfl rfl ?_)
          refine wp_of e285 c285_40 (rw_iload_n (pc' := 41) (z := a2) rfl rfl ?_)
          refine wp_of e285 c285_41 (rw_iconst (pc' := 42) rfl ?_)
          refine wp_of e285 c285_42 (rw_iaddw (pc' := 43) rfl ?_)
          obtain ⟨v1157, e1158⟩ : ∃ x : Int, x = wq_w (a2 + 1) := ⟨_, rfl⟩
          rw [← e1158]
          have b1159 : -2147483648 ≤ v1157 ∧ v1157 ≤ 2147483647 := by
            rw [e1158]
            exact wI_w _
          have b1160 : (-2147483648 ≤ a2 + 1 ∧ a2 + 1 ≤ 2147483647) → v1157 = a2 + 1 := fun h => by rw [e1158]; exact wq_w_id h
          refine wp_of e285 c285_43 (xs_I (pc' := 44) w1120 g1156 (by decide) sh_44 (by decide) (ty_44 _) (b1159.1) (b1159.2) ⟨b1159.1, b1159.2⟩ (by omega) (by omega) rfl (fun H1161 e1162 w1163 => ?_))
          have f1164 := f1121.put' e1162 g1156 rfl
          have h1165 : RB T H1161 r0 (wq_u e 13 (y).toNat w) d := RB_st w1120 h1123 (by omega) g0 q1155 g1156 e1162 (by omega) (by omega)
          refine wp_of e285 c285_44 (rw_aload_n (pc' := 45) (v := .ref r0) rfl rfl rfl ?_)
          refine wp_of e285 c285_45 (rw_iconst (pc' := 46) rfl ?_)
          refine wp_of e285 c285_46 (xp_Z (pc' := 49) lf_9_353 w1163 g0 sh_42 (by decide) (by decide) ty_42_28 rfl rfl (by decide) (by decide) rfl (fun H1166 e1167 w1168 => ?_))
          have f1169 := f1164.put' e1167 g0 rfl
          have k1170 : H1166 r0 28 = 0 := wq_u_s e1167
          refine wp_of e285 c285_49 (rw_aload_n (pc' := 50) (v := .ref r0) rfl rfl rfl ?_)
          have k1171 : H1166 r0 3 = H r0 3 := ((wq_u_j e1167 rfl).trans ((wq_u_t e1162 g1156 g0 rfl 3).trans (wq_u_j e1119 rfl)))
          have h1172 : RB T H1166 r0 (wq_u e 13 (y).toNat w) d := (RB_fr w1163 g0 ((wfr.rf (l := [(42, 28)])).put' e1167 g0 rfl) rfl h1165)
          have h1173 : MN20 T H1166 r0 24 (wq_u e 13 (y).toNat w 13) := (RB_ar h1172 (by omega)).2.2.1
          refine wp_of e285 c285_50 (rw_aload_n (pc' := 51) (v := .ref r0) rfl rfl rfl ?_)
          refine wp_of e285 c285_51 (xc_V (pc' := 54) (r := r0) (as := []) (st := [.ref r0]) (lm_9_357) rfl rfl (Nat.le_of_ble_eq_true rfl) w1168 g0 sh_42 (by decide) rfl (by decide) (u_207 (f := ((wq_u e 13 (y).toNat w 13))) w1168 g0 h1173) (fun R1174 T1175 H1176 p1177 => ?_))
          obtain ⟨e1178, e1180, z1181, e1179, b1182, p1183⟩ := p1177
          subst e1178
          subst e1179
          subst e1180
          show wp _ _ 285 54 [(0, .ref r0), (1, vI a1), (2, vI a2)] [vI z1181, .ref r0] _ H1166 _
          refine wp_of e285 c285_54 (xc_S (pc' := 57) (as := [vI z1181]) (st := [.ref r0]) (lm_9_462) rfl rfl (Nat.le_of_ble_eq_true rfl) rfl (by decide) (s_269 w1168 ⟨b1182.1, b1182.2⟩) (fun R1185 T1186 H1187 p1188 => ?_))
          obtain ⟨e1189, e1191, z1192, e1190, b1193⟩ := p1188
          subst e1189
          subst e1190
          subst e1191
          show wp _ _ 285 57 [(0, .ref r0), (1, vI a1), (2, vI a2)] [vI z1192, .ref r0] _ H1166 _
          refine wp_of e285 c285_57 (xc_V (pc' := 60) (r := r0) (as := [vI z1192]) (st := []) (lm_9_58) rfl rfl (Nat.le_of_ble_eq_true rfl) w1168 g0 sh_42 (by decide) rfl (by decide) (u_209  w1168 g0 ⟨Int.le_trans (by decide) b1193.1, Int.le_trans b1193.2 (by decide)⟩) (fun R1194 T1195 H1196 p1197 => ?_))
          obtain ⟨e1198, w1200, f1201, z1202, e1199, b1203, p1204⟩ := p1197
          subst e1198
          subst e1199
          obtain ⟨a1205, a1206, a1207⟩ := p1204
          have f1208 := f1169.tr f1201 rfl
          show wp _ _ 285 60 [(0, .ref r0), (1, vI a1), (2, vI a2)] [vI z1202] _ H1196 _
          have k1209 : H1196 r0 28 = H1166 r0 28 := (f1201 r0 28 _ g0 rfl)
          have k1210 : wKI H1196 r0 = 1 := wKI_1.mpr (by omega)
          have h1211 : RB T H1196 r0 (wq_u e 13 (y).toNat w) d := (RB_fr w1168 g0 f1201 rfl h1172)
          exact wp_ireturn e285 c285_60 rfl ⟨rfl, w1200, f1208, z1202, rfl, ⟨b1203.1, b1203.2⟩, (Or.inr ⟨by omega, by omega, h1211⟩)⟩
        · exfalso
          omega
      · show wp _ _ 285 26 [(0, .ref r0), (1, vI a1), (2, vI a2)] [vI z1146] _ H1118 _
        refine wp_of e285 c285_26 (rw_if_ne (p1 := 35) (p2 := 29) (by decide) rfl ⟨Int.le_trans (by decide) b1147.1, Int.le_trans b1147.2 (by decide)⟩ (fun c1212 => ?_) (fun c1212 => ?_))
        · exfalso
          omega
        · refine wp_of e285 c285_29 (rw_aload_n (pc' := 30) (v := .ref r0) rfl rfl rfl ?_)
          refine wp_of e285 c285_30 (rw_iconst (pc' := 31) rfl ?_)
          refine wp_of e285 c285_31 (xc_V (pc' := 34) (r := r0) (as := [vI 2]) (st := []) (lm_9_54) rfl rfl (Nat.le_of_ble_eq_true rfl) w1120 g0 sh_42 (by decide) rfl (by decide) (u_170  w1120 g0 ⟨by decide, by decide⟩) (fun R1213 T1214 H1215 p1216 => ?_))
          obtain ⟨e1217, w1219, f1220, z1221, e1218, b1222, p1223⟩ := p1216
          subst e1217
          subst e1218
          obtain ⟨a1224, a1225, a1226⟩ := p1223
          have f1227 := f1121.tr f1220 rfl
          show wp _ _ 285 34 [(0, .ref r0), (1, vI a1), (2, vI a2)] [vI z1221] _ H1215 _
          have k1228 : wKI H1215 r0 = wKI H r0 := ((wKI_fr w1120 g0 f1220 rfl).trans (wKI_fr hW g0 ((wfr.rf (l := [(42, 0)])).put' e1119 g0 rfl) rfl))
          have h1229 : RB T H1215 r0 e d := (RB_fr w1120 g0 f1220 rfl h1123)
          exact wp_ireturn e285 c285_34 rfl ⟨rfl, w1219, f1227, z1221, rfl, ⟨b1222.1, b1222.2⟩, (Or.inl ⟨by omega, by omega, by omega, h1229⟩)⟩
    · exfalso
      omega
  · show wp _ _ 285 10 [(0, .ref r0), (1, vI a1), (2, vI a2)] [vI z1131] _ H1118 _
    refine wp_of e285 c285_10 (rw_if_ne (p1 := 19) (p2 := 13) (by decide) rfl ⟨Int.le_trans (by decide) b1132.1, Int.le_trans b1132.2 (by decide)⟩ (fun c1230 => ?_) (fun c1230 => ?_))
    · exfalso
      omega
    · refine wp_of e285 c285_13 (rw_aload_n (pc' := 14) (v := .ref r0) rfl rfl rfl ?_)
      refine wp_of e285 c285_14 (rw_iconst (pc' := 15) rfl ?_)
      refine wp_of e285 c285_15 (xc_V (pc' := 18) (r := r0) (as := [vI 1]) (st := []) (lm_9_54) rfl rfl (Nat.le_of_ble_eq_true rfl) w1120 g0 sh_42 (by decide) rfl (by decide) (u_170  w1120 g0 ⟨by decide, by decide⟩) (fun R1231 T1232 H1233 p1234 => ?_))
      obtain ⟨e1235, w1237, f1238, z1239, e1236, b1240, p1241⟩ := p1234
      subst e1235
      subst e1236
      obtain ⟨a1242, a1243, a1244⟩ := p1241
      have f1245 := f1121.tr f1238 rfl
      show wp _ _ 285 18 [(0, .ref r0), (1, vI a1), (2, vI a2)] [vI z1239] _ H1233 _
      have k1246 : wKI H1233 r0 = wKI H r0 := ((wKI_fr w1120 g0 f1238 rfl).trans (wKI_fr hW g0 ((wfr.rf (l := [(42, 0)])).put' e1119 g0 rfl) rfl))
      have h1247 : RB T H1233 r0 e d := (RB_fr w1120 g0 f1238 rfl h1123)
      exact wp_ireturn e285 c285_18 rfl ⟨rfl, w1237, f1245, z1239, rfl, ⟨b1240.1, b1240.2⟩, (Or.inl ⟨by omega, by omega, by omega, h1247⟩)⟩
/-! StrikeAwakeModel.isStruck(I)Z  -/
abbrev uq_280 (r0 : Nat) (a1 : Int) (e : xD) (d : xD) (T : wq_T) (H : wq_H) : Option Value → wq_T → wq_H → Prop := fun r T' H' => T = T' ∧ H = H' ∧ ∃ z : Int, some (vI z) = r ∧ (0 ≤ z ∧ z ≤ 1) ∧ (((z = 1) ∧ ((0 ≤ a1 ∧ a1 < d 0 0) ∧ H r0 3 ≠ -1) ∧ (e 13 (a1).toNat > 0)) ∨ ((z = 0) ∧ ((a1 < 0 ∨ d 0 0 ≤ a1) ∨ e 13 (a1).toNat ≤ 0)))
set_option maxHeartbeats 4000000 in
theorem u_280 {kt : Nat → Option mc_E} {T : wq_T} {H : wq_H} {r0 : Nat} {a1 : Int} {e : xD} {d : xD} (hW : WT T H) (g0 : T.2.2.2 r0 = some 42) (i1 : (-2147483648) ≤ a1 ∧ a1 ≤ 2147483647) (hRB_r0 : RB T H r0 e d) : wpc kt 2 280 [.ref r0, vI a1] T H (uq_280 r0 a1 e d T H) := by
  refine wp_enter e280 (Nat.le_of_ble_eq_true rfl) rfl ?_
  show wp _ _ 280 0 [(0, .ref r0), (1, vI a1)] [] _ H _
  have _b := RB_b hW hRB_r0
  have _nu := RB_n3 hRB_r0
  refine wp_of e280 c280_0 (rw_aload_n (pc' := 1) (v := .ref r0) rfl rfl rfl ?_)
  refine wp_of e280 c280_1 (rw_iload_n (pc' := 2) (z := a1) rfl rfl ?_)
  refine wp_of e280 c280_2 (xc_V (pc' := 5) (r := r0) (as := [vI a1]) (st := []) (lm_9_373) rfl rfl (Nat.le_of_ble_eq_true rfl) hW g0 sh_42 (by decide) rfl (by decide) (u_218 (e := e) (d := d) hW g0 ⟨i1.1, i1.2⟩ hRB_r0) (fun R1023 T1024 H1025 p1026 => ?_))
  obtain ⟨e1027, e1029, z1030, e1028, b1031, p1032⟩ := p1026
  subst e1027
  subst e1028
  subst e1029
  rcases p1032 with ⟨a1033, a1034⟩ | ⟨a1035, a1036⟩
  · show wp _ _ 280 5 [(0, .ref r0), (1, vI a1)] [vI z1030] _ H _
    refine wp_of e280 c280_5 (rw_if_eq (p1 := 21) (p2 := 8) (by decide) rfl ⟨Int.le_trans (by decide) b1031.1, Int.le_trans b1031.2 (by decide)⟩ (fun c1037 => ?_) (fun c1037 => ?_))
    · exfalso
      omega
    · have _ar := RB_ar hRB_r0 (by omega)
      have _pk := _ar.1
      have h1038 : MN20 T H r0 24 (e 13) := _ar.2.2.1
      refine wp_of e280 c280_8 (rw_aload_n (pc' := 9) (v := .ref r0) rfl rfl rfl ?_)
      refine wp_of e280 c280_9 (xg_R (pc' := 12) lf_9_17 hW g0 sh_42 (by decide) (by decide) ty_42_20 rfl rfl (fun r1039 q1040 g1041 => ?_))
      refine wp_of e280 c280_12 (rw_iload_n (pc' := 13) (z := a1) rfl rfl ?_)
      refine wp_of e280 c280_13 (xa_I (so := 0) (pc' := 14) hW g1041 sh_44 (by decide) (ty_44 _) (by omega) (by omega) rfl (fun b1042 b1043 => ?_))
      have := DA_at h1038 q1040 (k := (a1.toNat)) (by omega)
      refine wp_of e280 c280_14 (rw_if_le (p1 := 21) (p2 := 17) (by decide) rfl ⟨b1042, b1043⟩ (fun c1044 => ?_) (fun c1044 => ?_))
      · refine wp_of e280 c280_21 (rw_iconst (pc' := 22) rfl ?_)
        exact wp_zreturn e280 c280_22 rfl (by omega) ⟨rfl, rfl, 0, rfl, ⟨by decide, by decide⟩, (Or.inr ⟨by omega, by omega⟩)⟩
      · refine wp_of e280 c280_17 (rw_iconst (pc' := 18) rfl ?_)
        refine wp_of e280 c280_18 (rw_goto (p1 := 22) (by decide) ?_)
        exact wp_zreturn e280 c280_22 rfl (by omega) ⟨rfl, rfl, 1, rfl, ⟨by decide, by decide⟩, (Or.inl ⟨by omega, by omega, by omega⟩)⟩
  · show wp _ _ 280 5 [(0, .ref r0), (1, vI a1)] [vI z1030] _ H _
    refine wp_of e280 c280_5 (rw_if_eq (p1 := 21) (p2 := 8) (by decide) rfl ⟨Int.le_trans (by decide) b1031.1, Int.le_trans b1031.2 (by decide)⟩ (fun c1045 => ?_) (fun c1045 => ?_))
    · refine wp_of e280 c280_21 (rw_iconst (pc' := 22) rfl ?_)
      exact wp_zreturn e280 c280_22 rfl (by omega) ⟨rfl, rfl, 0, rfl, ⟨by decide, by decide⟩, (Or.inr ⟨by omega, by omega⟩)⟩
    · exfalso
      omega
/-! StrikeAwakeModel.still(I)Z  -/
abbrev uq_286 (r0 : Nat) (a1 : Int) (e : xD) (d : xD) (y : Int) (T : wq_T) (H : wq_H) : Option Value → wq_T → wq_H → Prop := fun r T' H' => T = T' ∧ WT T H' ∧ wfr [(42, 0), (42, 1), (42, 2), (42, 28), (44, 999)] T H H' ∧ ∃ z : Int, some (vI z) = r ∧ (0 ≤ z ∧ z ≤ 1) ∧ (((z = 1) ∧ (0 ≤ y ∧ y < d 0 0) ∧ (e 13 (y).toNat > 0) ∧ (wKI H' r0 = 1) ∧ RB T H' r0 (wq_u e 13 (y).toNat 0) d) ∨ ((z = 0) ∧ ((y < 0 ∨ d 0 0 ≤ y) ∨ e 13 (y).toNat ≤ 0) ∧ (wKI H' r0 = 1) ∧ RB T H' r0 e d))
set_option maxHeartbeats 4000000 in
theorem u_286 {kt : Nat → Option mc_E} {T : wq_T} {H : wq_H} {r0 : Nat} {a1 : Int} {e : xD} {d : xD} {y : Int} (hW : WT T H) (g0 : T.2.2.2 r0 = some 42) (i1 : (-2147483648) ≤ a1 ∧ a1 ≤ 2147483647) (p0 : wKI H r0 = 1) (p1 : a1 = y) (hRB_r0 : RB T H r0 e d) : wpc kt 3 286 [.ref r0, vI a1] T H (uq_286 r0 a1 e d y T H) := by
  refine wp_enter e286 (Nat.le_of_ble_eq_true rfl) rfl ?_
  have f0 : wfr [(42, 0), (42, 1), (42, 2), (42, 28), (44, 999)] T H H := wfr.rf
  show wp _ _ 286 0 [(0, .ref r0), (1, vI a1)] [] _ H _
  have _b := RB_b hW hRB_r0
  have _nu := RB_n3 hRB_r0
  refine wp_of e286 c286_0 (rw_aload_n (pc' := 1) (v := .ref r0) rfl rfl rfl ?_)
  refine wp_of e286 c286_1 (rw_iconst (pc' := 2) rfl ?_)
  refine wp_of e286 c286_2 (xp_I (pc' := 5) lf_9_48 hW g0 sh_42 (by decide) (by decide) ty_42_0 rfl rfl (by decide) (by decide) ⟨by decide, by decide⟩ rfl (fun H1065 e1066 w1067 => ?_))
  have f1068 := f0.put' e1066 g0 rfl
  have k1069 : H1065 r0 0 = 0 := wq_u_s e1066
  refine wp_of e286 c286_5 (rw_aload_n (pc' := 6) (v := .ref r0) rfl rfl rfl ?_)
  refine wp_of e286 c286_6 (rw_iload_n (pc' := 7) (z := a1) rfl rfl ?_)
  have h1070 : RB T H1065 r0 e d := (RB_fr hW g0 ((wfr.rf (l := [(42, 0)])).put' e1066 g0 rfl) rfl hRB_r0)
  refine wp_of e286 c286_7 (xc_V (pc' := 10) (r := r0) (as := [vI a1]) (st := []) (lm_9_487) rfl rfl (Nat.le_of_ble_eq_true rfl) w1067 g0 sh_42 (by decide) rfl (by decide) (u_280 (e := e) (d := d) w1067 g0 ⟨i1.1, i1.2⟩ h1070) (fun R1071 T1072 H1073 p1074 => ?_))
  obtain ⟨e1075, e1077, z1078, e1076, b1079, p1080⟩ := p1074
  subst e1075
  subst e1076
  subst e1077
  rcases p1080 with ⟨a1081, a1082, a1083⟩ | ⟨a1084, a1085⟩
  · show wp _ _ 286 10 [(0, .ref r0), (1, vI a1)] [vI z1078] _ H1065 _
    have _ty : e 13 (a1).toNat = e 13 (y).toNat := by rw [p1]
    refine wp_of e286 c286_10 (rw_if_ne (p1 := 19) (p2 := 13) (by decide) rfl ⟨Int.le_trans (by decide) b1079.1, Int.le_trans b1079.2 (by decide)⟩ (fun c1086 => ?_) (fun c1086 => ?_))
    · refine wp_of e286 c286_19 (rw_aload_n (pc' := 20) (v := .ref r0) rfl rfl rfl ?_)
      refine wp_of e286 c286_20 (xg_R (pc' := 23) lf_9_17 w1067 g0 sh_42 (by decide) (by decide) ty_42_20 rfl rfl (fun r1087 q1088 g1089 => ?_))
      refine wp_of e286 c286_23 (rw_iload_n (pc' := 24) (z := a1) rfl rfl ?_)
      refine wp_of e286 c286_24 (rw_iconst (pc' := 25) rfl ?_)
      refine wp_of e286 c286_25 (xs_I (pc' := 26) w1067 g1089 (by decide) sh_44 (by decide) (ty_44 _) (by decide) (by decide) ⟨by decide, by decide⟩ (by omega) (by omega) rfl (fun H1090 e1091 w1092 => ?_))
      have f1093 := f1068.put' e1091 g1089 rfl
      have h1094 : RB T H1090 r0 (wq_u e 13 (y).toNat 0) d := RB_st w1067 h1070 (by omega) g0 q1088 g1089 e1091 (by omega) (by omega)
      refine wp_of e286 c286_26 (rw_aload_n (pc' := 27) (v := .ref r0) rfl rfl rfl ?_)
      refine wp_of e286 c286_27 (rw_iconst (pc' := 28) rfl ?_)
      refine wp_of e286 c286_28 (xp_Z (pc' := 31) lf_9_353 w1092 g0 sh_42 (by decide) (by decide) ty_42_28 rfl rfl (by decide) (by decide) rfl (fun H1095 e1096 w1097 => ?_))
      have f1098 := f1093.put' e1096 g0 rfl
      have k1099 : H1095 r0 28 = 0 := wq_u_s e1096
      refine wp_of e286 c286_31 (rw_aload_n (pc' := 32) (v := .ref r0) rfl rfl rfl ?_)
      refine wp_of e286 c286_32 (xc_V (pc' := 35) (r := r0) (as := []) (st := []) (lm_9_403) rfl rfl (Nat.le_of_ble_eq_true rfl) w1097 g0 sh_42 (by decide) rfl (by decide) (u_224  w1097 g0) (fun R1100 T1101 H1102 p1103 => ?_))
      obtain ⟨e1104, w1106, f1107, z1108, e1105, b1109, p1110⟩ := p1103
      subst e1104
      subst e1105
      obtain ⟨a1111, a1112, a1113⟩ := p1110
      have f1114 := f1098.tr f1107 rfl
      show wp _ _ 286 35 [(0, .ref r0), (1, vI a1)] [vI z1108] _ H1102 _
      have k1115 : H1102 r0 28 = H1095 r0 28 := (f1107 r0 28 _ g0 rfl)
      have k1116 : wKI H1102 r0 = 1 := wKI_1.mpr (by omega)
      have h1117 : RB T H1102 r0 (wq_u e 13 (y).toNat 0) d := (RB_fr w1097 g0 f1107 rfl (RB_fr w1092 g0 ((wfr.rf (l := [(42, 28)])).put' e1096 g0 rfl) rfl h1094))
      exact wp_zreturn e286 c286_35 rfl (by omega) ⟨rfl, w1106, f1114, z1108, rfl, ⟨b1109.1, b1109.2⟩, (Or.inl ⟨by omega, by omega, by omega, by omega, h1117⟩)⟩
    · exfalso
      omega
  · show wp _ _ 286 10 [(0, .ref r0), (1, vI a1)] [vI z1078] _ H1065 _
    have _ty : e 13 (a1).toNat = e 13 (y).toNat := by rw [p1]
    refine wp_of e286 c286_10 (rw_if_ne (p1 := 19) (p2 := 13) (by decide) rfl ⟨Int.le_trans (by decide) b1079.1, Int.le_trans b1079.2 (by decide)⟩ (fun c1118 => ?_) (fun c1118 => ?_))
    · exfalso
      omega
    · refine wp_of e286 c286_13 (rw_aload_n (pc' := 14) (v := .ref r0) rfl rfl rfl ?_)
      refine wp_of e286 c286_14 (rw_iconst (pc' := 15) rfl ?_)
      refine wp_of e286 c286_15 (xc_V (pc' := 18) (r := r0) (as := [vI 1]) (st := []) (lm_9_400) rfl rfl (Nat.le_of_ble_eq_true rfl) w1067 g0 sh_42 (by decide) rfl (by decide) (u_223  w1067 g0 ⟨by decide, by decide⟩) (fun R1119 T1120 H1121 p1122 => ?_))
      obtain ⟨e1123, w1125, f1126, z1127, e1124, b1128, p1129⟩ := p1122
      subst e1123
      subst e1124
      obtain ⟨a1130, a1131, a1132⟩ := p1129
      have f1133 := f1068.tr f1126 rfl
      show wp _ _ 286 18 [(0, .ref r0), (1, vI a1)] [vI z1127] _ H1121 _
      have k1134 : wKI H1121 r0 = wKI H r0 := ((wKI_fr w1067 g0 f1126 rfl).trans (wKI_fr hW g0 ((wfr.rf (l := [(42, 0)])).put' e1066 g0 rfl) rfl))
      have h1135 : RB T H1121 r0 e d := (RB_fr w1067 g0 f1126 rfl h1070)
      exact wp_zreturn e286 c286_18 rfl (by omega) ⟨rfl, w1125, f1133, z1127, rfl, ⟨b1128.1, b1128.2⟩, (Or.inr ⟨by omega, by omega, by omega, h1135⟩)⟩
