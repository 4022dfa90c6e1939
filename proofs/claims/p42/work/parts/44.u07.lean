/-! StrikeAwake.strike(II)I  -/
abbrev uq_153 (r0 : Nat) (a1 : Int) (a2 : Int) (cu : Nat) (e : xD) (d : xD) (n : Int) (y : Int) (w : Int) (T : wq_T) (H : wq_H) : Option Value → wq_T → wq_H → Prop := fun r T' H' => T = T' ∧ WT T H' ∧ wfr [(12, 9), (27, 16), (1, 10), (29, 999), (30, 999)] T H H' ∧ ∃ z : Int, some (vI z) = r ∧ ((-2147483648) ≤ z ∧ z ≤ 2147483647) ∧ (((z = -1) ∧ ((y < 0 ∨ d 0 0 ≤ y) ∨ a2 < 0 ∨ 99 < a2) ∧ CU T H' cu e d n) ∨ ((0 ≤ z ∧ z ≤ 24) ∧ ((0 ≤ y ∧ y < d 0 0) ∧ 0 ≤ a2 ∧ a2 ≤ 99) ∧ (z = xcn ((wq_u e 13 (y).toNat w) 13) 24) ∧ CU T H' cu (wq_u e 13 (y).toNat w) d n))
set_option maxHeartbeats 4000000 in
theorem u_153 {kt : Nat → Option mc_E} {T : wq_T} {H : wq_H} {r0 : Nat} {a1 : Int} {a2 : Int} {cu : Nat} {e : xD} {d : xD} {n : Int} {y : Int} {w : Int} (hW : WT T H) (g0 : T.2.2.2 r0 = some 1) (i1 : (-2147483648) ≤ a1 ∧ a1 ≤ 2147483647) (i2 : (-2147483648) ≤ a2 ∧ a2 ≤ 2147483647) (qcu : H r0 6 = (cu : Int)) (gcu : T.2.2.2 cu = some 27) (p0 : e 0 3 = d 0 3) (p1 : e 0 0 = d 0 0) (p2 : a1 = y) (p3 : w = a2 + 1) (hCU_cu : CU T H cu e d n) : wpc kt 3 153 [.ref r0, vI a1, vI a2] T H (uq_153 r0 a1 a2 cu e d n y w T H) := by
  refine wp_enter e153 (Nat.le_of_ble_eq_true rfl) rfl ?_
  have f0 : wfr [(12, 9), (27, 16), (1, 10), (29, 999), (30, 999)] T H H := wfr.rf
  show wp _ _ 153 0 [(0, .ref r0), (1, vI a1), (2, vI a2)] [] _ H _
  have u1105 := CU_k hCU_cu
  have b1106 : 0 ≤ H cu 7 ∧ H cu 7 ≤ 24 := hW.box gcu (n := 19) rfl (by decide) rfl
  have h1107 : DC T H cu e := hCU_cu.1
  have h1108 : CS T H cu d 0 := hCU_cu.2.1
  refine wp_of e153 c153_0 (rw_aload_n (pc' := 1) (v := .ref r0) rfl rfl rfl ?_)
  refine wp_of e153 c153_1 (rw_iload_n (pc' := 2) (z := a1) rfl rfl ?_)
  refine wp_of e153 c153_2 (xc_V (pc' := 5) (r := r0) (as := [vI a1]) (st := []) (lm_0_132) rfl rfl (Nat.le_of_ble_eq_true rfl) hW g0 sh_1 (by decide) rfl (by decide) (u_60  hW g0 ⟨i1.1, i1.2⟩ qcu gcu) (fun R1109 T1110 H1111 p1112 => ?_))
  obtain ⟨e1113, e1115, z1116, e1114, b1117, p1118⟩ := p1112
  subst e1113
  subst e1114
  subst e1115
  rcases p1118 with ⟨a1119, a1120⟩ | ⟨a1121, a1122⟩
  · show wp _ _ 153 5 [(0, .ref r0), (1, vI a1), (2, vI a2)] [vI z1116] _ H _
    refine wp_of e153 c153_5 (rw_if_ne (p1 := 14) (p2 := 8) (by decide) rfl ⟨Int.le_trans (by decide) b1117.1, Int.le_trans b1117.2 (by decide)⟩ (fun c1123 => ?_) (fun c1123 => ?_))
    · refine wp_of e153 c153_14 (rw_iload_n (pc' := 15) (z := a2) rfl rfl ?_)
      refine wp_of e153 c153_15 (rw_if_lt (p1 := 24) (p2 := 18) (by decide) rfl ⟨i2.1, i2.2⟩ (fun c1124 => ?_) (fun c1124 => ?_))
      · refine wp_of e153 c153_24 (rw_aload_n (pc' := 25) (v := .ref r0) rfl rfl rfl ?_)
        refine wp_of e153 c153_25 (rw_iconst (pc' := 26) rfl ?_)
        refine wp_of e153 c153_26 (xc_V (pc' := 29) (r := r0) (as := [vI 2]) (st := []) (lm_0_70) rfl rfl (Nat.le_of_ble_eq_true rfl) hW g0 sh_1 (by decide) rfl (by decide) (u_12  hW g0 ⟨by decide, by decide⟩) (fun R1125 T1126 H1127 p1128 => ?_))
        obtain ⟨e1129, w1131, f1132, z1133, e1130, b1134, p1135⟩ := p1128
        subst e1129
        subst e1130
        obtain ⟨a1136, a1137⟩ := p1135
        have f1138 := f0.tr f1132 rfl
        show wp _ _ 153 29 [(0, .ref r0), (1, vI a1), (2, vI a2)] [vI z1133] _ H1127 _
        have h1139 : CU T H1127 cu e d n := (CU_fr hW gcu f1132 rfl hCU_cu)
        exact wp_ireturn e153 c153_29 rfl ⟨rfl, w1131, f1138, z1133, rfl, ⟨b1134.1, b1134.2⟩, (Or.inl ⟨by omega, by omega, h1139⟩)⟩
      · refine wp_of e153 c153_18 (rw_iload_n (pc' := 19) (z := a2) rfl rfl ?_)
        refine wp_of e153 c153_19 (rw_bipush (pc' := 21) (z := 99) rfl (by decide) ?_)
        refine wp_of e153 c153_21 (rw_icmp_le (p1 := 30) (p2 := 24) (by decide) rfl ⟨i2.1, i2.2⟩ ⟨by decide, by decide⟩ (fun c1140 => ?_) (fun c1140 => ?_))
        · refine wp_of e153 c153_30 (rw_aload_n (pc' := 31) (v := .ref r0) rfl rfl rfl ?_)
          refine wp_of e153 c153_31 (xg_K (pc' := 34) lf_0_51 hW g0 sh_1 (by decide) (by decide) rfl qcu rfl ?_)
          refine wp_of e153 c153_34 (rw_iload_n (pc' := 35) (z := a1) rfl rfl ?_)
          refine wp_of e153 c153_35 (rw_iload_n (pc' := 36) (z := a2) rfl rfl ?_)
          refine wp_of e153 c153_36 (xc_V (pc' := 39) (r := cu) (as := [vI a1, vI a2]) (st := []) (lm_0_291) rfl rfl (Nat.le_of_ble_eq_true rfl) hW gcu sh_27 (by decide) rfl (by decide) (u_40 (d := e) (w := w) (y := y) hW gcu ⟨by omega, by omega⟩ ⟨by omega, by omega⟩ (by omega) (by omega) h1107) (fun R1141 T1142 H1143 p1144 => ?_))
          obtain ⟨e1145, w1147, f1148, e1146, p1149⟩ := p1144
          subst e1145
          subst e1146
          have f1151 := f0.tr f1148 rfl
          show wp _ _ 153 39 [(0, .ref r0), (1, vI a1), (2, vI a2)] [] _ H1143 _
          have u1152 := DC_k p1149
          refine wp_of e153 c153_39 (rw_aload_n (pc' := 40) (v := .ref r0) rfl rfl rfl ?_)
          refine wp_of e153 c153_40 (xg_R (pc' := 43) lf_0_30 w1147 g0 sh_1 (by decide) (by decide) ty_1_3 rfl rfl (fun r1153 q1154 g1155 => ?_))
          refine wp_of e153 c153_43 (xc_V (pc' := 46) (r := r1153) (as := []) (st := []) (lm_0_93) rfl rfl (Nat.le_of_ble_eq_true rfl) w1147 g1155 sh_12 (by decide) rfl (by decide) (s_50 w1147 g1155) (fun R1156 T1157 H1158 p1159 => ?_))
          obtain ⟨e1160, w1162, f1163, e1161⟩ := p1159
          subst e1160
          subst e1161
          have f1164 := f1151.tr f1163 rfl
          show wp _ _ 153 46 [(0, .ref r0), (1, vI a1), (2, vI a2)] [] _ H1158 _
          refine wp_of e153 c153_46 (rw_aload_n (pc' := 47) (v := .ref r0) rfl rfl rfl ?_)
          refine wp_of e153 c153_47 (rw_aload_n (pc' := 48) (v := .ref r0) rfl rfl rfl ?_)
          have k1165 : H1158 r0 6 = H r0 6 := ((f1163 r0 6 _ g0 rfl).trans (f1148 r0 6 _ g0 rfl))
          have q1166 : H1158 r0 6 = (cu : Int) := k1165.trans qcu
          refine wp_of e153 c153_48 (xg_K (pc' := 51) lf_0_51 w1162 g0 sh_1 (by decide) (by decide) rfl q1166 rfl ?_)
          have k1167 : H1158 cu 16 = H1143 cu 16 := (f1163 cu 16 _ gcu rfl)
          refine wp_of e153 c153_51 (xg_I (pc' := 54) lf_0_295 w1162 gcu sh_27 (by decide) (by decide) ty_27_16 rfl rfl (fun b1168 b1169 => ?_))
          refine wp_of e153 c153_54 (xc_V (pc' := 57) (r := r0) (as := [vI (H1158 cu 16)]) (st := []) (lm_0_99) rfl rfl (Nat.le_of_ble_eq_true rfl) w1162 g0 sh_1 (by decide) rfl (by decide) (u_51  w1162 g0 ⟨Int.le_trans (by decide) b1168, Int.le_trans b1169 (by decide)⟩) (fun R1170 T1171 H1172 p1173 => ?_))
          obtain ⟨e1174, w1176, f1177, z1178, e1175, b1179, p1180⟩ := p1173
          subst e1174
          subst e1175
          obtain ⟨a1181, a1182⟩ := p1180
          have f1183 := f1164.tr f1177 rfl
          show wp _ _ 153 57 [(0, .ref r0), (1, vI a1), (2, vI a2)] [vI z1178] _ H1172 _
          have k1184 : H1172 cu 18 = H cu 18 := ((f1177 cu 18 _ gcu rfl).trans ((f1163 cu 18 _ gcu rfl).trans (f1148 cu 18 _ gcu rfl)))
          have h1185 : DC T H1172 cu (wq_u e 13 y.toNat w) := (DC_fr w1162 gcu f1177 rfl (DC_fr w1147 gcu f1163 rfl p1149))
          have h1186 : CS T H1172 cu d 0 := (CS_fr w1162 gcu f1177 rfl (CS_fr w1147 gcu f1163 rfl (CS_fr hW gcu f1148 rfl h1108)))
          exact wp_ireturn e153 c153_57 rfl ⟨rfl, w1176, f1183, z1178, rfl, ⟨b1179.1, b1179.2⟩, (Or.inr ⟨by omega, by omega, by omega, ⟨h1185, h1186, by omega⟩⟩)⟩
        · refine wp_of e153 c153_24 (rw_aload_n (pc' := 25) (v := .ref r0) rfl rfl rfl ?_)
          refine wp_of e153 c153_25 (rw_iconst (pc' := 26) rfl ?_)
          refine wp_of e153 c153_26 (xc_V (pc' := 29) (r := r0) (as := [vI 2]) (st := []) (lm_0_70) rfl rfl (Nat.le_of_ble_eq_true rfl) hW g0 sh_1 (by decide) rfl (by decide) (u_12  hW g0 ⟨by decide, by decide⟩) (fun R1187 T1188 H1189 p1190 => ?_))
          obtain ⟨e1191, w1193, f1194, z1195, e1192, b1196, p1197⟩ := p1190
          subst e1191
          subst e1192
          obtain ⟨a1198, a1199⟩ := p1197
          have f1200 := f0.tr f1194 rfl
          show wp _ _ 153 29 [(0, .ref r0), (1, vI a1), (2, vI a2)] [vI z1195] _ H1189 _
          have h1201 : CU T H1189 cu e d n := (CU_fr hW gcu f1194 rfl hCU_cu)
          exact wp_ireturn e153 c153_29 rfl ⟨rfl, w1193, f1200, z1195, rfl, ⟨b1196.1, b1196.2⟩, (Or.inl ⟨by omega, by omega, h1201⟩)⟩
    · exfalso
      omega
  · show wp _ _ 153 5 [(0, .ref r0), (1, vI a1), (2, vI a2)] [vI z1116] _ H _
    refine wp_of e153 c153_5 (rw_if_ne (p1 := 14) (p2 := 8) (by decide) rfl ⟨Int.le_trans (by decide) b1117.1, Int.le_trans b1117.2 (by decide)⟩ (fun c1202 => ?_) (fun c1202 => ?_))
    · exfalso
      omega
    · refine wp_of e153 c153_8 (rw_aload_n (pc' := 9) (v := .ref r0) rfl rfl rfl ?_)
      refine wp_of e153 c153_9 (rw_iconst (pc' := 10) rfl ?_)
      refine wp_of e153 c153_10 (xc_V (pc' := 13) (r := r0) (as := [vI 1]) (st := []) (lm_0_70) rfl rfl (Nat.le_of_ble_eq_true rfl) hW g0 sh_1 (by decide) rfl (by decide) (u_12  hW g0 ⟨by decide, by decide⟩) (fun R1203 T1204 H1205 p1206 => ?_))
      obtain ⟨e1207, w1209, f1210, z1211, e1208, b1212, p1213⟩ := p1206
      subst e1207
      subst e1208
      obtain ⟨a1214, a1215⟩ := p1213
      have f1216 := f0.tr f1210 rfl
      show wp _ _ 153 13 [(0, .ref r0), (1, vI a1), (2, vI a2)] [vI z1211] _ H1205 _
      have h1217 : CU T H1205 cu e d n := (CU_fr hW gcu f1210 rfl hCU_cu)
      exact wp_ireturn e153 c153_13 rfl ⟨rfl, w1209, f1216, z1211, rfl, ⟨b1212.1, b1212.2⟩, (Or.inl ⟨by omega, by omega, h1217⟩)⟩
/-! StrikeAwake.still(I)Z  -/
abbrev uq_154 (r0 : Nat) (a1 : Int) (cu : Nat) (e : xD) (d : xD) (n : Int) (y : Int) (T : wq_T) (H : wq_H) : Option Value → wq_T → wq_H → Prop := fun r T' H' => T = T' ∧ WT T H' ∧ wfr [(12, 9), (27, 16), (1, 10), (29, 999), (30, 999)] T H H' ∧ ∃ z : Int, some (vI z) = r ∧ (0 ≤ z ∧ z ≤ 1) ∧ (((z = 1) ∧ (0 ≤ y ∧ y < d 0 0) ∧ (e 13 (y).toNat > 0) ∧ CU T H' cu (wq_u e 13 (y).toNat 0) d n) ∨ ((z = 0) ∧ ((y < 0 ∨ d 0 0 ≤ y) ∨ e 13 (y).toNat ≤ 0) ∧ CU T H' cu e d n))
set_option maxHeartbeats 4000000 in
theorem u_154 {kt : Nat → Option mc_E} {T : wq_T} {H : wq_H} {r0 : Nat} {a1 : Int} {cu : Nat} {e : xD} {d : xD} {n : Int} {y : Int} (hW : WT T H) (g0 : T.2.2.2 r0 = some 1) (i1 : (-2147483648) ≤ a1 ∧ a1 ≤ 2147483647) (qcu : H r0 6 = (cu : Int)) (gcu : T.2.2.2 cu = some 27) (p0 : e 0 3 = d 0 3) (p1 : e 0 0 = d 0 0) (p2 : a1 = y) (hCU_cu : CU T H cu e d n) : wpc kt 3 154 [.ref r0, vI a1] T H (uq_154 r0 a1 cu e d n y T H) := by
  refine wp_enter e154 (Nat.le_of_ble_eq_true rfl) rfl ?_
  have f0 : wfr [(12, 9), (27, 16), (1, 10), (29, 999), (30, 999)] T H H := wfr.rf
  show wp _ _ 154 0 [(0, .ref r0), (1, vI a1)] [] _ H _
  have u1091 := CU_k hCU_cu
  have b1092 : 0 ≤ H cu 7 ∧ H cu 7 ≤ 24 := hW.box gcu (n := 19) rfl (by decide) rfl
  have h1093 : DC T H cu e := hCU_cu.1
  have h1094 : CS T H cu d 0 := hCU_cu.2.1
  have h1095 : ST T H cu (e 13) := hCU_cu.1.2.2.1
  refine wp_of e154 c154_0 (rw_aload_n (pc' := 1) (v := .ref r0) rfl rfl rfl ?_)
  refine wp_of e154 c154_1 (rw_iload_n (pc' := 2) (z := a1) rfl rfl ?_)
  refine wp_of e154 c154_2 (xc_V (pc' := 5) (r := r0) (as := [vI a1]) (st := []) (lm_0_132) rfl rfl (Nat.le_of_ble_eq_true rfl) hW g0 sh_1 (by decide) rfl (by decide) (u_60  hW g0 ⟨i1.1, i1.2⟩ qcu gcu) (fun R1096 T1097 H1098 p1099 => ?_))
  obtain ⟨e1100, e1102, z1103, e1101, b1104, p1105⟩ := p1099
  subst e1100
  subst e1101
  subst e1102
  rcases p1105 with ⟨a1106, a1107⟩ | ⟨a1108, a1109⟩
  · show wp _ _ 154 5 [(0, .ref r0), (1, vI a1)] [vI z1103] _ H _
    refine wp_of e154 c154_5 (rw_if_eq (p1 := 20) (p2 := 8) (by decide) rfl ⟨Int.le_trans (by decide) b1104.1, Int.le_trans b1104.2 (by decide)⟩ (fun c1110 => ?_) (fun c1110 => ?_))
    · exfalso
      omega
    · have _ty : (a1).toNat = (y).toNat := by rw [p2]
      refine wp_of e154 c154_8 (rw_aload_n (pc' := 9) (v := .ref r0) rfl rfl rfl ?_)
      refine wp_of e154 c154_9 (xg_K (pc' := 12) lf_0_51 hW g0 sh_1 (by decide) (by decide) rfl qcu rfl ?_)
      refine wp_of e154 c154_12 (xg_R (pc' := 15) lf_0_262 hW gcu sh_27 (by decide) (by decide) ty_27_1 rfl rfl (fun r1111 q1112 g1113 => ?_))
      refine wp_of e154 c154_15 (rw_iload_n (pc' := 16) (z := a1) rfl rfl ?_)
      refine wp_of e154 c154_16 (xa_I (so := 0) (pc' := 17) hW g1113 sh_29 (by decide) (ty_29 _) (by omega) (by omega) rfl (fun b1114 b1115 => ?_))
      have := ST_at h1095 q1112 (k := (a1.toNat)) (by omega)
      have _tz : e 13 (a1.toNat) = e 13 (y).toNat := by rw [← p2]
      refine wp_of e154 c154_17 (rw_if_ge (p1 := 26) (p2 := 20) (by decide) rfl ⟨b1114, b1115⟩ (fun c1116 => ?_) (fun c1116 => ?_))
      · refine wp_of e154 c154_26 (rw_aload_n (pc' := 27) (v := .ref r0) rfl rfl rfl ?_)
        refine wp_of e154 c154_27 (xg_K (pc' := 30) lf_0_51 hW g0 sh_1 (by decide) (by decide) rfl qcu rfl ?_)
        refine wp_of e154 c154_30 (rw_iload_n (pc' := 31) (z := a1) rfl rfl ?_)
        refine wp_of e154 c154_31 (rw_bipush (pc' := 33) (z := -2) rfl (by decide) ?_)
        refine wp_of e154 c154_33 (xc_V (pc' := 36) (r := cu) (as := [vI a1, vI (-2)]) (st := []) (lm_0_291) rfl rfl (Nat.le_of_ble_eq_true rfl) hW gcu sh_27 (by decide) rfl (by decide) (u_40 (d := e) (w := 0) (y := y) hW gcu ⟨by omega, by omega⟩ ⟨by decide, by decide⟩ (by omega) (by omega) h1093) (fun R1117 T1118 H1119 p1120 => ?_))
        obtain ⟨e1121, w1123, f1124, e1122, p1125⟩ := p1120
        subst e1121
        subst e1122
        have f1127 := f0.tr f1124 rfl
        show wp _ _ 154 36 [(0, .ref r0), (1, vI a1)] [] _ H1119 _
        have u1128 := DC_k p1125
        refine wp_of e154 c154_36 (rw_aload_n (pc' := 37) (v := .ref r0) rfl rfl rfl ?_)
        refine wp_of e154 c154_37 (xg_R (pc' := 40) lf_0_30 w1123 g0 sh_1 (by decide) (by decide) ty_1_3 rfl rfl (fun r1129 q1130 g1131 => ?_))
        refine wp_of e154 c154_40 (xc_V (pc' := 43) (r := r1129) (as := []) (st := []) (lm_0_93) rfl rfl (Nat.le_of_ble_eq_true rfl) w1123 g1131 sh_12 (by decide) rfl (by decide) (s_50 w1123 g1131) (fun R1132 T1133 H1134 p1135 => ?_))
        obtain ⟨e1136, w1138, f1139, e1137⟩ := p1135
        subst e1136
        subst e1137
        have f1140 := f1127.tr f1139 rfl
        show wp _ _ 154 43 [(0, .ref r0), (1, vI a1)] [] _ H1134 _
        refine wp_of e154 c154_43 (rw_aload_n (pc' := 44) (v := .ref r0) rfl rfl rfl ?_)
        refine wp_of e154 c154_44 (xc_V (pc' := 47) (r := r0) (as := []) (st := []) (lm_0_151) rfl rfl (Nat.le_of_ble_eq_true rfl) w1138 g0 sh_1 (by decide) rfl (by decide) (u_64  w1138 g0) (fun R1141 T1142 H1143 p1144 => ?_))
        obtain ⟨e1145, w1147, f1148, z1149, e1146, b1150, p1151⟩ := p1144
        subst e1145
        subst e1146
        obtain ⟨a1152, a1153⟩ := p1151
        have f1154 := f1140.tr f1148 rfl
        show wp _ _ 154 47 [(0, .ref r0), (1, vI a1)] [vI z1149] _ H1143 _
        have k1155 : H1143 cu 18 = H cu 18 := ((f1148 cu 18 _ gcu rfl).trans ((f1139 cu 18 _ gcu rfl).trans (f1124 cu 18 _ gcu rfl)))
        have h1156 : DC T H1143 cu (wq_u e 13 y.toNat 0) := (DC_fr w1138 gcu f1148 rfl (DC_fr w1123 gcu f1139 rfl p1125))
        have h1157 : CS T H1143 cu d 0 := (CS_fr w1138 gcu f1148 rfl (CS_fr w1123 gcu f1139 rfl (CS_fr hW gcu f1124 rfl h1094)))
        exact wp_zreturn e154 c154_47 rfl (by omega) ⟨rfl, w1147, f1154, z1149, rfl, ⟨b1150.1, b1150.2⟩, (Or.inl ⟨by omega, by omega, by omega, ⟨h1156, h1157, by omega⟩⟩)⟩
      · refine wp_of e154 c154_20 (rw_aload_n (pc' := 21) (v := .ref r0) rfl rfl rfl ?_)
        refine wp_of e154 c154_21 (rw_iconst (pc' := 22) rfl ?_)
        refine wp_of e154 c154_22 (xc_V (pc' := 25) (r := r0) (as := [vI 1]) (st := []) (lm_0_145) rfl rfl (Nat.le_of_ble_eq_true rfl) hW g0 sh_1 (by decide) rfl (by decide) (u_63  hW g0 ⟨by decide, by decide⟩) (fun R1158 T1159 H1160 p1161 => ?_))
        obtain ⟨e1162, w1164, f1165, z1166, e1163, b1167, p1168⟩ := p1161
        subst e1162
        subst e1163
        obtain ⟨a1169, a1170⟩ := p1168
        have f1171 := f0.tr f1165 rfl
        show wp _ _ 154 25 [(0, .ref r0), (1, vI a1)] [vI z1166] _ H1160 _
        have h1172 : CU T H1160 cu e d n := (CU_fr hW gcu f1165 rfl hCU_cu)
        exact wp_zreturn e154 c154_25 rfl (by omega) ⟨rfl, w1164, f1171, z1166, rfl, ⟨b1167.1, b1167.2⟩, (Or.inr ⟨by omega, by omega, h1172⟩)⟩
  · show wp _ _ 154 5 [(0, .ref r0), (1, vI a1)] [vI z1103] _ H _
    refine wp_of e154 c154_5 (rw_if_eq (p1 := 20) (p2 := 8) (by decide) rfl ⟨Int.le_trans (by decide) b1104.1, Int.le_trans b1104.2 (by decide)⟩ (fun c1173 => ?_) (fun c1173 => ?_))
    · refine wp_of e154 c154_20 (rw_aload_n (pc' := 21) (v := .ref r0) rfl rfl rfl ?_)
      refine wp_of e154 c154_21 (rw_iconst (pc' := 22) rfl ?_)
      refine wp_of e154 c154_22 (xc_V (pc' := 25) (r := r0) (as := [vI 1]) (st := []) (lm_0_145) rfl rfl (Nat.le_of_ble_eq_true rfl) hW g0 sh_1 (by decide) rfl (by decide) (u_63  hW g0 ⟨by decide, by decide⟩) (fun R1174 T1175 H1176 p1177 => ?_))
      obtain ⟨e1178, w1180, f1181, z1182, e1179, b1183, p1184⟩ := p1177
      subst e1178
      subst e1179
      obtain ⟨a1185, a1186⟩ := p1184
      have f1187 := f0.tr f1181 rfl
      show wp _ _ 154 25 [(0, .ref r0), (1, vI a1)] [vI z1182] _ H1176 _
      have h1188 : CU T H1176 cu e d n := (CU_fr hW gcu f1181 rfl hCU_cu)
      exact wp_zreturn e154 c154_25 rfl (by omega) ⟨rfl, w1180, f1187, z1182, rfl, ⟨b1183.1, b1183.2⟩, (Or.inr ⟨by omega, by omega, h1188⟩)⟩
    · exfalso
      omega
