section
/-! StrikeAwake.strike(II)I  -/
abbrev uq_153 (r0 : Nat) (a1 : Int) (a2 : Int) (cu : Nat) (e : xD) (d : xD) (n : Int) (y : Int) (w : Int) (T : wq_T) (H : wq_H) : Option Value → wq_T → wq_H → Prop := fun r T' H' => T = T' ∧ WT T H' ∧ wfr [(12, 9), (27, 16), (1, 10), (29, 999), (30, 999)] T H H' ∧ ∃ z : Int, some (vI z) = r ∧ ((-2147483648) ≤ z ∧ z ≤ 2147483647) ∧ (((z = -1) ∧ ((y < 0 ∨ d 0 0 ≤ y) ∨ a2 < 0 ∨ 99 < a2) ∧ CU T H' cu e d n) ∨ ((0 ≤ z ∧ z ≤ 24) ∧ ((0 ≤ y ∧ y < d 0 0) ∧ 0 ≤ a2 ∧ a2 ≤ 99) ∧ (z = xcn ((wq_u e 13 (y).toNat w) 13) 24) ∧ CU T H' cu (wq_u e 13 (y).toNat w) d n))
set_option maxHeartbeats 4000000 in
theorem u_153 {kt : Nat → Option mc_E} {T : wq_T} {H : wq_H} {r0 : Nat} {a1 : Int} {a2 : Int} {cu : Nat} {e : xD} {d : xD} {n : Int} {y : Int} {w : Int} (hW : WT T H) (g0 : T.2.2.2 r0 = some 1) (i1 : (-2147483648) ≤ a1 ∧ a1 ≤ 2147483647) (i2 : (-2147483648) ≤ a2 ∧ a2 ≤ 2147483647) (qcu : H r0 6 = (cu : Int)) (gcu : T.2.2.2 cu = some 27) (p0 : e 0 3 = d 0 3) (p1 : e 0 0 = d 0 0) (p2 : a1 = y) (p3 : w = a2 + 1) (hCU_cu : CU T H cu e d n) : wpc kt 3 153 [.ref r0, vI a1, vI a2] T H (uq_153 r0 a1 a2 cu e d n y w T H) := by
  refine wp_enter e153 (Nat.le_of_ble_eq_true rfl) rfl ?_
  have f0 : wfr [(12, 9), (27, 16), (1, 10), (29, 999), (30, 999)] T H H := wfr.rf
  show wp _ _ 153 0 [(0, .ref r0), (1, vI a1), (2, vI a2)] [] _ H _
  have u1105 := CU_k hCU_cu
  have b1106 : 0 ≤ H cu 7 ∧ H cu 7 ≤ 24 := hW.box gcu (n := 19) rfl (by decide) rfl
  have h1107 : DC T H cu e := hCU_cu.1
  have h1108 : CS T H cu d 0 := hCU_cu.2.1
  refine wp_of e153 c153_0 (rw_aload_n (pc' := 1) (v := .ref r0) rfl rfl rfl ?_)
  refine wp_of e153 c153_1 (rw_iload_n (pc' := 2) (z := a1) rfl rfl ?_)
  refine wp_of e153 c153_2 (xc_V (pc' := 5) (r := r0) (as := [vI a1]) (st := []) (lm_0_132) rfl rfl (Nat.le_of_ble_eq_true rfl) hW g0 sh_1 (by decide) rfl (by decide) (u_60  hW g0 ⟨i1.1, i1.2⟩ qcu gcu) (fun R1109 T1110 H1111 p1112 => ?_))
  obtain ⟨e1113, e1115, z1116, e1114, b1117, p1118⟩ := p1112
  subst e1113
  subst e1114
  subst e1115
  rcases p1118 with ⟨a1119, a1120⟩ | ⟨a1121, a1122⟩
  · show wp _ _ 153 5 [(0, .ref r0), (1, vI a1), (2, vI a2)] [vI z1116] _ H _
    refine wp_of e153 c153_5 (rw_if_ne (p1 := 14) (p2 := 8) (by decide) rfl ⟨Int.le_trans (by decide) b1117.1, Int.le_trans b1117.2 (by decide)⟩ (fun c1123 => ?_) (fun c1123 => ?_))
    · refine wp_of e153 c153_14 (rw_iload_n (pc' := 15) (z := a2) rfl rfl ?_)
      refine wp_of e153 c153_15 (rw_if_lt (p1 := 24) (p2 := 18) (by decide) rfl ⟨i2.1, i2.2⟩ (fun c1124 => ?_) (fun c1124 => ?_))
      · refine wp_of e153 c153_24 (rw_aload_n (pc' := 25) (v := .ref r0) rfl rfl rfl ?_)
        refine wp_of e153 c153_25 (rw_iconst (pc' := 26) rfl ?_)
        refine wp_of e153 c153_26 (xc_V (pc' := 29) (r := r0) (as := [vI 2]) (st := []) (lm_0_70) rfl rfl (Nat.le_of_ble_eq_true rfl) hW g0 sh_1 (by decide) rfl (by decide) (u_12  hW g0 ⟨by decide, by decide⟩) (fun R1125 T1126 H1127 p1128 => ?_))
        obtain ⟨e1129, w1131, f1132, z1133, e1130, b1134, p1135⟩ := p1128
        subst e1129
        subst e1130
        obtain ⟨a1136, a1137⟩ := p1135
        have f1138 := f0.tr f1132 rfl
        show wp _ _ 153 29 [(0, .ref r0), (1, vI a1), (2, vI a2)] [vI z1133] _ H1127 _
        have h1139 : CU T H1127 cu e d n := (CU_fr hW gcu f1132 rfl hCU_cu)
        exact wp_ireturn e153 c153_29 rfl ⟨rfl, w1131, f1138, z1133, rfl, ⟨b1134.1, b1134.2⟩, (Or.inl ⟨by omega, by omega, h1139⟩)⟩
      · refine wp_of e153 c153_18 (rw_iload_n (pc' := 19) (z := a2) rfl rfl ?_)
        refine wp_of e153 c153_19 (rw_bipush (pc' := 21) (z := 99) rfl (by decide) ?_)
        refine wp_of e153 c153_21 (rw_icmp_le (p1 := 30) (p2 := 24) (by decide) rfl ⟨i2.1, i2.2⟩ ⟨by decide, by decide⟩ (fun c1140 => ?_) (fun c1140 => ?_))
        · refine wp_of e153 c153_30 (rw_aload_n (pc' := 31) (v := .ref r0) rfl rfl rfl ?_)
          refine wp_of e153 c153_31 (xg_K (pc' := 34) lf_0_51 hW g0 sh_1 (by decide) (by decide) rfl qcu rfl ?_)
          refine wp_of e153 c153_34 (rw_iload_n (pc' := 35) (z := a1) rfl rfl ?_)
          refine wp_of e153 c153_35 (rw_iload_n (pc' := 36) (z := a2) rfl rfl ?_)
          refine wp_of e153 c153_36 (xc_V (pc' := 39) (r := cu) (as := [vI a1, vI a2]) (st := []) (lm_0_291) rfl rfl (Nat.le_of_ble_eq_true rfl) hW gcu sh_27 (by decide) rfl (by decide) (u_40 (d := e) (w := w) (y := y) hW gcu ⟨by omega, by omega⟩ ⟨by omega, by omega⟩ (by omega) (by omega) h1107) (fun R1141 T1142 H1143 p1144 => ?_))
          obtain ⟨e1145, w1147, f1148, e1146, p1149⟩ := p1144
          subst e1145
          subst e1146
          have f1151 := f0.tr f1148 rfl
          show wp _ _ 153 39 [(0, .ref r0), (1, vI a1), (2, vI a2)] [] _ H1143 _
          have u1152 := DC_k p1149
          refine wp_of e153 c153_39 (rw_aload_n (pc' := 40) (v := .ref r0) rfl rfl rfl ?_)
          refine wp_of e153 c153_40 (xg_R (pc' := 43) lf_0_30 w1147 g0 sh_1 (by decide) (by decide) ty_1_3 rfl rfl (fun r1153 q1154 g1155 => ?_))
          refine wp_of e153 c153_43 (xc_V (pc' := 46) (r := r1153) (as := []) (st := []) (lm_0_93) rfl rfl (Nat.le_of_ble_eq_true rfl) w1147 g1155 sh_12 (by decide) rfl (by decide) (s_50 w1147 g1155) (fun R1156 T1157 H1158 p1159 => ?_))
          obtain ⟨e1160, w1162, f1163, e1161⟩ := p1159
          subst e1160
          subst e1161
          have f1164 := f1151.tr f1163 rfl
          show wp _ _ 153 46 [(0, .ref r0), (1, vI a1), (2, vI a2)] [] _ H1158 _
          refine wp_of e153 c153_46 (rw_aload_n (pc' := 47) (v := .ref r0) rfl rfl rfl ?_)
          refine wp_of e153 c153_47 (rw_aload_n (pc' := 48) (v := .ref r0) rfl rfl rfl ?_)
          have k1165 : H1158 r0 6 = H r0 6 := ((f1163 r0 6 _ g0 rfl).trans (f1148 r0 6 _ g0 rfl))
          have q1166 : H1158 r0 6 = (cu : Int) := k1165.trans qcu
          refine wp_of e153 c153_48 (xg_K (pc' := 51) lf_0_51 w1162 g0 sh_1 (by decide) (by decide) rfl q1166 rfl ?_)
          have k1167 : H1158 cu 16 = H1143 cu 16 := (f1163 cu 16 _ gcu rfl)
          refine wp_of e153 c153_51 (xg_I (pc' := 54) lf_0_295 w1162 gcu sh_27 (by decide) (by decide) ty_27_16 rfl rfl (fun b1168 b1169 => ?_))
          refine wp_of e153 c153_54 (xc_V (pc' := 57) (r := r0) (as := [vI (H1158 cu 16)]) (st := []) (lm_0_99) rfl rfl (Nat.le_of_ble_eq_true rfl) w1162 g0 sh_1 (by decide) rfl (by decide) (u_51  w1162 g0 ⟨Int.le_trans (by decide) b1168, Int.le_trans b1169 (by decide)⟩) (fun R1170 T1171 H1172 p1173 => ?_))
          obtain ⟨e1174, w1176, f1177, z1178, e1175, b1179, p1180⟩ := p1173
          subst e1174
          subst e1175
          obtain ⟨a1181, a1182⟩ := p1180
          have f1183 := f1164.tr f1177 rfl
          show wp _ _ 153 57 [(0, .ref r0), (1, vI a1), (2, vI a2)] [vI z1178] _ H1172 _
          have k1184 : H1172 cu 18 = H cu 18 := ((f1177 cu 18 _ gcu rfl).trans ((f1163 cu 18 _ gcu rfl).trans (f1148 cu 18 _ gcu rfl)))
          have h1185 : DC T H1172 cu (wq_u e 13 y.toNat w) := (DC_fr w1162 gcu f1177 rfl (DC_fr w1147 gcu f1163 rfl p1149))
          have h1186 : CS T H1172 cu d 0 := (CS_fr w1162 gcu f1177 rfl (CS_fr w1147 gcu f1163 rfl (CS_fr hW gcu f1148 rfl h1108)))
          exact wp_ireturn e153 c153_57 rfl ⟨rfl, w1176, f1183, z1178, rfl, ⟨b1179.1, b1179.2⟩, (Or.inr ⟨by omega, by omega, by omega, ⟨h1185, h1186, by omega⟩⟩)⟩
        · refine wp_of e153 c153_24 (rw_aload_n (pc' := 25) (v := .ref r0) rfl rfl rfl ?_)
          refine wp_of e153 c153_25 (rw_iconst (pc' := 26) rfl ?_)
          refine wp_of e153 c153_26 (xc_V (pc' := 29) (r := r0) (as := [vI 2]) (st := []) (lm_0_70) rfl rfl (Nat.le_of_ble_eq_true rfl) hW g0 sh_1 (by decide) rfl (by decide) (u_12  hW g0 ⟨by decide, by decide⟩) (fun R1187 T1188 H1189 p1190 => ?_))
          obtain ⟨e1191, w1193, f1194, z1195, e1192, b1196, p1197⟩ := p1190
          subst e1191
          subst e1192
          obtain ⟨a1198, a1199⟩ := p1197
          have f1200 := f0.tr f1194 rfl
          show wp _ _ 153 29 [(0, .ref r0), (1, vI a1), (2, vI a2)] [vI z1195] _ H1189 _
          have h1201 : CU T H1189 cu e d n := (CU_fr hW gcu f1194 rfl hCU_cu)
          exact wp_ireturn e153 c153_29 rfl ⟨rfl, w1193, f1200, z1195, rfl, ⟨b1196.1, b1196.2⟩, (Or.inl ⟨by omega, by omega, h1201⟩)⟩
    · exfalso
      omega
  · show wp _ _ 153 5 [(0, .ref r0), (1, vI a1), (2, vI a2)] [vI z1116] _ H _
    refine wp_of e153 c153_5 (rw_if_ne (p1 := 14) (p2 := 8) (by decide) rfl ⟨Int.le_trans (by decide) b1117.1, Int.le_trans b1117.2 (by decide)⟩ (fun c1202 => ?_) (fun c1202 => ?_))
    · exfalso
      omega
    · refine wp_of e153 c153_8 (rw_aload_n (pc' := 9) (v := .ref r0) rfl rfl rfl ?_)
      refine wp_of e153 c153_9 (rw_iconst (pc' := 10) rfl ?_)
      refine wp_of e153 c153_10 (xc_V (pc' := 13) (r := r0) (as := [vI 1]) (st := []) (lm_0_70) rfl rfl (Nat.le_of_ble_eq_true rfl) hW g0 sh_1 (by decide) rfl (by decide) (u_12  hW g0 ⟨by decide, by decide⟩) (fun R1203 T1204 H1205 p1206 => ?_))
      obtain ⟨e1207, w1209, f1210, z1211, e1208, b1212, p1213⟩ := p1206
      subst e1207
      subst e1208
      obtain ⟨a1214, a1215⟩ := p1213
      have f1216 := f0.tr f1210 rfl
      show wp _ _ 153 13 [(0, .ref r0), (1, vI a1), (2, vI a2)] [vI z1211] _ H1205 _
      have h1217 : CU T H1205 cu e d n := (CU_fr hW gcu f1210 rfl hCU_cu)
      exact wp_ireturn e153 c153_13 rfl ⟨rfl, w1209, f1216, z1211, rfl, ⟨b1212.1, b1212.2⟩, (Or.inl ⟨by omega, by omega, h1217⟩)⟩
/-! StrikeAwake.still(I)Z  -/
abbrev uq_154 (r0 : Nat) (a1 : Int) (cu : Nat) (e : xD) (d : xD) (n : Int) (y : Int) (T : wq_T) (H : wq_H) : Option Value → wq_T → wq_H → Prop := fun r T' H' => T = T' ∧ WT T H' ∧ wfr [(12, 9), (27, 16), (1, 10), (29, 999), (30, 999)] T H H' ∧ ∃ z : Int, some (vI z) = r ∧ (0 ≤ z ∧ z ≤ 1) ∧ (((z = 1) ∧ (0 ≤ y ∧ y < d 0 0) ∧ (e 13 (y).toNat > 0) ∧ CU T H' cu (wq_u e 13 (y).toNat 0) d n) ∨ ((z = 0) ∧ ((y < 0 ∨ d 0 0 ≤ y) ∨ e 13 (y).toNat ≤ 0) ∧ CU T H' cu e d n))
set_option maxHeartbeats 4000000 in
theorem u_154 {kt : Nat → Option mc_E} {T : wq_T} {H : wq_H} {r0 : Nat} {a1 : Int} {cu : Nat} {e : xD} {d : xD} {n : Int} {y : Int} (hW : WT T H) (g0 : T.2.2.2 r0 = some 1) (i1 : (-2147483648) ≤ a1 ∧ a1 ≤ 2147483647) (qcu : H r0 6 = (cu : Int)) (gcu : T.2.2.2 cu = some 27) (p0 : e 0 3 = d 0 3) (p1 : e 0 0 = d 0 0) (p2 : a1 = y) (hCU_cu : CU T H cu e d n) : wpc kt 3 154 [.ref r0, vI a1] T H (uq_154 r0 a1 cu e d n y T H) := by
  refine wp_enter e154 (Nat.le_of_ble_eq_true rfl) rfl ?_
  have f0 : wfr [(12, 9), (27, 16), (1, 10), (29, 999), (30, 999)] T H H := wfr.rf
  show wp _ _ 154 0 [(0, .ref r0), (1, vI a1)] [] _ H _
  have u1091 := CU_k hCU_cu
  have b1092 : 0 ≤ H cu 7 ∧ H cu 7 ≤ 24 := hW.box gcu (n := 19) rfl (by decide) rfl
  have h1093 : DC T H cu e := hCU_cu.1
  have h1094 : CS T H cu d 0 := hCU_cu.2.1
  have h1095 : ST T H cu (e 13) := hCU_cu.1.2.2.1
  refine wp_of e154 c154_0 (rw_aload_n (pc' := 1) (v := .ref r0) rfl rfl rfl ?_)
  refine wp_of e154 c154_1 (rw_iload_n (pc' := 2) (z := a1) rfl rfl ?_)
  refine wp_of e154 c154_2 (xc_V (pc' := 5) (r := r0) (as := [vI a1]) (st := []) (lm_0_132) rfl rfl (Nat.le_of_ble_eq_true rfl) hW g0 sh_1 (by decide) rfl (by decide) (u_60  hW g0 ⟨i1.1, i1.2⟩ qcu gcu) (fun R1096 T1097 H1098 p1099 => ?_))
  obtain ⟨e1100, e1102, z1103, e1101, b1104, p1105⟩ := p1099
  subst e1100
  subst e1101
  subst e1102
  rcases p1105 with ⟨a1106, a1107⟩ | ⟨a1108, a1109⟩
  · show wp _ _ 154 5 [(0, .ref r0), (1, vI a1)] [vI z1103] _ H _
    refine wp_of e154 c154_5 (rw_if_eq (p1 := 20) (p2 := 8) (by decide) rfl ⟨Int.le_trans (by decide) b1104.1, Int.le_trans b1104.2 (by decide)⟩ (fun c1110 => ?_) (fun c1110 => ?_))
    · exfalso
      omega
    · have _ty : (a1).toNat = (y).toNat := by rw [p2]
      refine wp_of e154 c154_8 (rw_aload_n (pc' := 9) (v := .ref r0) rfl rfl rfl ?_)
      refine wp_of e154 c154_9 (xg_K (pc' := 12) lf_0_51 hW g0 sh_1 (by decide) (by decide) rfl qcu rfl ?_)
      refine wp_of e154 c154_12 (xg_R (pc' := 15) lf_0_262 hW gcu sh_27 (by decide) (by decide) ty_27_1 rfl rfl (fun r1111 q1112 g1113 => ?_))
      refine wp_of e154 c154_15 (rw_iload_n (pc' := 16) (z := a1) rfl rfl ?_)
      refine wp_of e154 c154_16 (xa_I (so := 0) (pc' := 17) hW g1113 sh_29 (by decide) (ty_29 _) (by omega) (by omega) rfl (fun b1114 b1115 => ?_))
      have := ST_at h1095 q1112 (k := (a1.toNat)) (by omega)
      have _tz : e 13 (a1.toNat) = e 13 (y).toNat := by rw [← p2]
      refine wp_of e154 c154_17 (rw_if_ge (p1 := 26) (p2 := 20) (by decide) rfl ⟨b1114, b1115⟩ (fun c1116 => ?_) (fun c1116 => ?_))
      · refine wp_of e154 c154_26 (rw_aload_n (pc' := 27) (v := .ref r0) rfl rfl rfl ?_)
        refine wp_of e154 c154_27 (xg_K (pc' := 30) lf_0_51 hW g0 sh_1 (by decide) (by decide) rfl qcu rfl ?_)
        refine wp_of e154 c154_30 (rw_iload_n (pc' := 31) (z := a1) rfl rfl ?_)
        refine wp_of e154 c154_31 (rw_bipush (pc' := 33) (z := -2) rfl (by decide) ?_)
        refine wp_of e154 c154_33 (xc_V (pc' := 36) (r := cu) (as := [vI a1, vI (-2)]) (st := []) (lm_0_291) rfl rfl (Nat.le_of_ble_eq_true rfl) hW gcu sh_27 (by decide) rfl (by decide) (u_40 (d := e) (w := 0) (y := y) hW gcu ⟨by omega, by omega⟩ ⟨by decide, by decide⟩ (by omega) (by omega) h1093) (fun R1117 T1118 H1119 p1120 => ?_))
        obtain ⟨e1121, w1123, f1124, e1122, p1125⟩ := p1120
        subst e1121
        subst e1122
        have f1127 := f0.tr f1124 rfl
        show wp _ _ 154 36 [(0, .ref r0), (1, vI a1)] [] _ H1119 _
        have u1128 := DC_k p1125
        refine wp_of e154 c154_36 (rw_aload_n (pc' := 37) (v := .ref r0) rfl rfl rfl ?_)
        refine wp_of e154 c154_37 (xg_R (pc' := 40) lf_0_30 w1123 g0 sh_1 (by decide) (by decide) ty_1_3 rfl rfl (fun r1129 q1130 g1131 => ?_))
        refine wp_of e154 c154_40 (xc_V (pc' := 43) (r := r1129) (as := []) (st := []) (lm_0_93) rfl rfl (Nat.le_of_ble_eq_true rfl) w1123 g1131 sh_12 (by decide) rfl (by decide) (s_50 w1123 g1131) (fun R1132 T1133 H1134 p1135 => ?_))
        obtain ⟨e1136, w1138, f1139, e1137⟩ := p1135
        subst e1136
        subst e1137
        have f1140 := f1127.tr f1139 rfl
        show wp _ _ 154 43 [(0, .ref r0), (1, vI a1)] [] _ H1134 _
        refine wp_of e154 c154_43 (rw_aload_n (pc' := 44) (v := .ref r0) rfl rfl rfl ?_)
        refine wp_of e154 c154_44 (xc_V (pc' := 47) (r := r0) (as := []) (st := []) (lm_0_151) rfl rfl (Nat.le_of_ble_eq_true rfl) w1138 g0 sh_1 (by decide) rfl (by decide) (u_64  w1138 g0) (fun R1141 T1142 H1143 p1144 => ?_))
        obtain ⟨e1145, w1147, f1148, z1149, e1146, b1150, p1151⟩ := p1144
        subst e1145
        subst e1146
        obtain ⟨a1152, a1153⟩ := p1151
        have f1154 := f1140.tr f1148 rfl
        show wp _ _ 154 47 [(0, .ref r0), (1, vI a1)] [vI z1149] _ H1143 _
        have k1155 : H1143 cu 18 = H cu 18 := ((f1148 cu 18 _ gcu rfl).trans ((f1139 cu 18 _ gcu rfl).trans (f1124 cu 18 _ gcu rfl)))
        have h1156 : DC T H1143 cu (wq_u e 13 y.toNat 0) := (DC_fr w1138 gcu f1148 rfl (DC_fr w1123 gcu f1139 rfl p1125))
        have h1157 : CS T H1143 cu d 0 := (CS_fr w1138 gcu f1148 rfl (CS_fr w1123 gcu f1139 rfl (CS_fr hW gcu f1124 rfl h1094)))
        exact wp_zreturn e154 c154_47 rfl (by omega) ⟨rfl, w1147, f1154, z1149, rfl, ⟨b1150.1, b1150.2⟩, (Or.inl ⟨by omega, by omega, by omega, ⟨h1156, h1157, by omega⟩⟩)⟩
      · refine wp_of e154 c154_20 (rw_aload_n (pc' := 21) (v := .ref r0) rfl rfl rfl ?_)
        refine wp_of e154 c154_21 (rw_iconst (pc' := 22) rfl ?_)
        refine wp_of e154 c154_22 (xc_V (pc' := 25) (r := r0) (as := [vI 1]) (st := []) (lm_0_145) rfl rfl (Nat.le_of_ble_eq_true rfl) hW g0 sh_1 (by decide) rfl (by decide) (u_63  hW g0 ⟨by decide, by decide⟩) (fun R1158 T1159 H1160 p1161 => ?_))
        obtain ⟨e1162, w1164, f1165, z1166, e1163, b1167, p1168⟩ := p1161
        subst e1162
        subst e1163
        obtain ⟨a1169, a1170⟩ := p1168
        have f1171 := f0.tr f1165 rfl
        show wp _ _ 154 25 [(0, .ref r0), (1, vI a1)] [vI z1166] _ H1160 _
        have h1172 : CU T H1160 cu e d n := (CU_fr hW gcu f1165 rfl hCU_cu)
        exact wp_zreturn e154 c154_25 rfl (by omega) ⟨rfl, w1164, f1171, z1166, rfl, ⟨b1167.1, b1167.2⟩, (Or.inr ⟨by omega, by omega, h1172⟩)⟩
  · show wp _ _ 154 5 [(0, .ref r0), (1, vI a1)] [vI z1103] _ H _
    refine wp_of e154 c154_5 (rw_if_eq (p1 := 20) (p2 := 8) (by decide) rfl ⟨Int.le_trans (by decide) b1104.1, Int.le_trans b1104.2 (by decide)⟩ (fun c1173 => ?_) (fun c1173 => ?_))
    · refine wp_of e154 c154_20 (rw_aload_n (pc' := 21) (v := .ref r0) rfl rfl rfl ?_)
      refine wp_of e154 c154_21 (rw_iconst (pc' := 22) rfl ?_)
      refine wp_of e154 c154_22 (xc_V (pc' := 25) (r := r0) (as := [vI 1]) (st := []) (lm_0_145) rfl rfl (Nat.le_of_ble_eq_true rfl) hW g0 sh_1 (by decide) rfl (by decide) (u_63  hW g0 ⟨by decide, by decide⟩) (fun R1174 T1175 H1176 p1177 => ?_))
      obtain ⟨e1178, w1180, f1181, z1182, e1179, b1183, p1184⟩ := p1177
      subst e1178
      subst e1179
      obtain ⟨a1185, a1186⟩ := p1184
      have f1187 := f0.tr f1181 rfl
      show wp _ _ 154 25 [(0, .ref r0), (1, vI a1)] [vI z1182] _ H1176 _
      have h1188 : CU T H1176 cu e d n := (CU_fr hW gcu f1181 rfl hCU_cu)
      exact wp_zreturn e154 c154_25 rfl (by omega) ⟨rfl, w1180, f1187, z1182, rfl, ⟨b1183.1, b1183.2⟩, (Or.inr ⟨by omega, by omega, h1188⟩)⟩
    · exfalso
      omega
/-! StrikeAwake.quiet(I)I  -/
abbrev uq_152 (r0 : Nat) (a1 : Int) (cu : Nat) (e : xD) (d : xD) (n : Int) (T : wq_T) (H : wq_H) : Option Value → wq_T → wq_H → Prop := fun r T' H' => T = T' ∧ WT T H' ∧ wfr [(1, 10)] T H H' ∧ ∃ z : Int, some (vI z) = r ∧ ((-2147483648) ≤ z ∧ z ≤ 2147483647) ∧ (((z = -1) ∧ (H r0 8 = 0 ∨ a1 < 0 ∨ 99 < a1)) ∨ ((0 ≤ z ∧ z ≤ 16777215) ∧ (H r0 8 = 1 ∧ 0 ≤ a1 ∧ a1 ≤ 99) ∧ (z = xob (fun h => decide (e 13 h > 0 ∧ e 13 h ≤ a1 + 1)) 24)))
set_option maxHeartbeats 4000000 in
theorem u_152 {kt : Nat → Option mc_E} {T : wq_T} {H : wq_H} {r0 : Nat} {a1 : Int} {cu : Nat} {e : xD} {d : xD} {n : Int} (hW : WT T H) (g0 : T.2.2.2 r0 = some 1) (i1 : (-2147483648) ≤ a1 ∧ a1 ≤ 2147483647) (qcu : H r0 6 = (cu : Int)) (gcu : T.2.2.2 cu = some 27) (hCU_cu : CU T H cu e d n) : wpc kt 2 152 [.ref r0, vI a1] T H (uq_152 r0 a1 cu e d n T H) := by
  refine wp_enter e152 (Nat.le_of_ble_eq_true rfl) rfl ?_
  have f0 : wfr [(1, 10)] T H H := wfr.rf
  show wp _ _ 152 0 [(0, .ref r0), (1, vI a1)] [] _ H _
  have u1075 := CU_k hCU_cu
  have b1076 : 0 ≤ H r0 8 ∧ H r0 8 ≤ 1 := hW.box g0 (n := 13) rfl (by decide) rfl
  have h1077 : ST T H cu (e 13) := hCU_cu.1.2.2.1
  have h1078 : SV T H cu (e 13) 24 := hCU_cu.1.2.2.2.1
  refine wp_of e152 c152_0 (rw_aload_n (pc' := 1) (v := .ref r0) rfl rfl rfl ?_)
  refine wp_of e152 c152_1 (xg_I (pc' := 4) lf_0_58 hW g0 sh_1 (by decide) (by decide) ty_1_8 rfl rfl (fun b1079 b1080 => ?_))
  refine wp_of e152 c152_4 (rw_if_ne (p1 := 13) (p2 := 7) (by decide) rfl ⟨Int.le_trans (by decide) b1079, Int.le_trans b1080 (by decide)⟩ (fun c1081 => ?_) (fun c1081 => ?_))
  · refine wp_of e152 c152_13 (rw_iload_n (pc' := 14) (z := a1) rfl rfl ?_)
    refine wp_of e152 c152_14 (rw_if_lt (p1 := 23) (p2 := 17) (by decide) rfl ⟨i1.1, i1.2⟩ (fun c1082 => ?_) (fun c1082 => ?_))
    · refine wp_of e152 c152_23 (rw_aload_n (pc' := 24) (v := .ref r0) rfl rfl rfl ?_)
      refine wp_of e152 c152_24 (rw_iconst (pc' := 25) rfl ?_)
      refine wp_of e152 c152_25 (xc_V (pc' := 28) (r := r0) (as := [vI 2]) (st := []) (lm_0_70) rfl rfl (Nat.le_of_ble_eq_true rfl) hW g0 sh_1 (by decide) rfl (by decide) (u_12  hW g0 ⟨by decide, by decide⟩) (fun R1083 T1084 H1085 p1086 => ?_))
      obtain ⟨e1087, w1089, f1090, z1091, e1088, b1092, p1093⟩ := p1086
      subst e1087
      subst e1088
      obtain ⟨a1094, a1095⟩ := p1093
      have f1096 := f0.tr f1090 rfl
      show wp _ _ 152 28 [(0, .ref r0), (1, vI a1)] [vI z1091] _ H1085 _
      exact wp_ireturn e152 c152_28 rfl ⟨rfl, w1089, f1096, z1091, rfl, ⟨b1092.1, b1092.2⟩, (Or.inl ⟨by omega, by omega⟩)⟩
    · refine wp_of e152 c152_17 (rw_iload_n (pc' := 18) (z := a1) rfl rfl ?_)
      refine wp_of e152 c152_18 (rw_bipush (pc' := 20) (z := 99) rfl (by decide) ?_)
      refine wp_of e152 c152_20 (rw_icmp_le (p1 := 29) (p2 := 23) (by decide) rfl ⟨i1.1, i1.2⟩ ⟨by decide, by decide⟩ (fun c1097 => ?_) (fun c1097 => ?_))
      · refine wp_of e152 c152_29 (rw_aload_n (pc' := 30) (v := .ref r0) rfl rfl rfl ?_)
        refine wp_of e152 c152_30 (rw_aload_n (pc' := 31) (v := .ref r0) rfl rfl rfl ?_)
        refine wp_of e152 c152_31 (xg_K (pc' := 34) lf_0_51 hW g0 sh_1 (by decide) (by decide) rfl qcu rfl ?_)
        refine wp_of e152 c152_34 (rw_iload_n (pc' := 35) (z := a1) rfl rfl ?_)
        refine wp_of e152 c152_35 (xc_V (pc' := 38) (r := cu) (as := [vI a1]) (st := [.ref r0]) (lm_0_288) rfl rfl (Nat.le_of_ble_eq_true rfl) hW gcu sh_27 (by decide) rfl (by decide) (u_46 (f := ((e 13))) (y := a1) hW gcu ⟨i1.1, i1.2⟩ (by omega) (by omega) h1077 h1078) (fun R1098 T1099 H1100 p1101 => ?_))
        obtain ⟨e1102, e1104, z1105, e1103, b1106, p1107⟩ := p1101
        subst e1102
        subst e1103
        subst e1104
        show wp _ _ 152 38 [(0, .ref r0), (1, vI a1)] [vI z1105, .ref r0] _ H _
        refine wp_of e152 c152_38 (xc_V (pc' := 41) (r := r0) (as := [vI z1105]) (st := []) (lm_0_99) rfl rfl (Nat.le_of_ble_eq_true rfl) hW g0 sh_1 (by decide) rfl (by decide) (u_51  hW g0 ⟨Int.le_trans (by decide) b1106.1, Int.le_trans b1106.2 (by decide)⟩) (fun R1109 T1110 H1111 p1112 => ?_))
        obtain ⟨e1113, w1115, f1116, z1117, e1114, b1118, p1119⟩ := p1112
        subst e1113
        subst e1114
        obtain ⟨a1120, a1121⟩ := p1119
        have f1122 := f0.tr f1116 rfl
        show wp _ _ 152 41 [(0, .ref r0), (1, vI a1)] [vI z1117] _ H1111 _
        exact wp_ireturn e152 c152_41 rfl ⟨rfl, w1115, f1122, z1117, rfl, ⟨b1118.1, b1118.2⟩, (Or.inr ⟨by omega, by omega, by omega⟩)⟩
      · refine wp_of e152 c152_23 (rw_aload_n (pc' := 24) (v := .ref r0) rfl rfl rfl ?_)
        refine wp_of e152 c152_24 (rw_iconst (pc' := 25) rfl ?_)
        refine wp_of e152 c152_25 (xc_V (pc' := 28) (r := r0) (as := [vI 2]) (st := []) (lm_0_70) rfl rfl (Nat.le_of_ble_eq_true rfl) hW g0 sh_1 (by decide) rfl (by decide) (u_12  hW g0 ⟨by decide, by decide⟩) (fun R1123 T1124 H1125 p1126 => ?_))
        obtain ⟨e1127, w1129, f1130, z1131, e1128, b1132, p1133⟩ := p1126
        subst e1127
        subst e1128
        obtain ⟨a1134, a1135⟩ := p1133
        have f1136 := f0.tr f1130 rfl
        show wp _ _ 152 28 [(0, .ref r0), (1, vI a1)] [vI z1131] _ H1125 _
        exact wp_ireturn e152 c152_28 rfl ⟨rfl, w1129, f1136, z1131, rfl, ⟨b1132.1, b1132.2⟩, (Or.inl ⟨by omega, by omega⟩)⟩
  · refine wp_of e152 c152_7 (rw_aload_n (pc' := 8) (v := .ref r0) rfl rfl rfl ?_)
    refine wp_of e152 c152_8 (rw_iconst (pc' := 9) rfl ?_)
    refine wp_of e152 c152_9 (xc_V (pc' := 12) (r := r0) (as := [vI 1]) (st := []) (lm_0_70) rfl rfl (Nat.le_of_ble_eq_true rfl) hW g0 sh_1 (by decide) rfl (by decide) (u_12  hW g0 ⟨by decide, by decide⟩) (fun R1137 T1138 H1139 p1140 => ?_))
    obtain ⟨e1141, w1143, f1144, z1145, e1142, b1146, p1147⟩ := p1140
    subst e1141
    subst e1142
    obtain ⟨a1148, a1149⟩ := p1147
    have f1150 := f0.tr f1144 rfl
    show wp _ _ 152 12 [(0, .ref r0), (1, vI a1)] [vI z1145] _ H1139 _
    exact wp_ireturn e152 c152_12 rfl ⟨rfl, w1143, f1150, z1145, rfl, ⟨b1146.1, b1146.2⟩, (Or.inl ⟨by omega, by omega⟩)⟩
end
section
/-! A PARISH OF THE REFERENCE, MADE (own work): nothing is told yet -/
abbrev uq_171 (T0 : wq_T) (H0 : wq_H) : Option Value → wq_T → wq_H → Prop := fun r T' H' => q_171 T0 H0 r T' H' ∧ (∀ m, T0.2.2.2 m = some 42 → H0 m 16 = 0 → DM T' H' (256 + T0.2.1) m xD0) ∧ (∀ j, 9 ≤ j → j ≤ 26 → ((256 + T0.2.1 : Nat) : Int) ≤ H' (256 + T0.2.1) j) ∧ ∀ a t, T'.2.2.2 a = some t → T0.2.2.2 a = some t ∨ 54 ≤ t
theorem wNP.allf {T0 : wq_T} {H0 : wq_H} {T : wq_T} {H : wq_H} (h : wNP T0 H0 T H 18) (hx : H (256 + T0.2.1) 8 = -1) (hW : WT T0 H0) (hf : ∀ a, 256 + T0.2.1 ≤ a → T0.1 a = none) : uq_171 T0 H0 none (T.1, T.2.1, T.2.2.1, wNPg T0) H := by
  refine ⟨h.all (by rw [hx]; exact ⟨by decide, by decide⟩) hW hf, fun m gm h16 => ?_, fun j h1 h2 => by
    have h3 := h.fr (j - 9) (by omega)
    rw [show 9 + (j - 9) = j by omega] at h3
    rw [h3]
    omega, fun a t h => by
    have h : wNPg T0 a = some t := h
    unfold wNPg at h
    split at h
    · cases h
      exact Or.inr (by decide)
    · split at h
      · have := Option.some.inj h
        exact Or.inr (by omega)
      · exact Or.inl h⟩
  have hm : m < 256 + T0.2.1 := by
    by_cases q : m < 256 + T0.2.1
    · exact q
    · have h1 := (hW.2 m 42 gm).1
      rw [hf m (by omega)] at h1
      cases h1
  have e16 : H m 16 = 0 := by rw [(h.old m hm).2]; exact h16
  refine ⟨wNPg_mono hW hf m 42 gm, ⟨h.f0 0 (by omega), h.f0 1 (by omega), h.f0 2 (by omega), h.f0 3 (by omega), h.f0 4 (by omega), h.f0 5 (by omega), h.f0 6 (by omega), h.f0 7 (by omega), hx, e16, by decide, by decide⟩, xdP_0, ⟨257 + T0.2.1 + 0, h.fr 0 (by omega), wNP.tag (by omega), fun k _ => (h.ar 0 (by omega)).2 k⟩, ⟨257 + T0.2.1 + 1, h.fr 1 (by omega), wNP.tag (by omega), fun k _ => (h.ar 1 (by omega)).2 k⟩, ⟨257 + T0.2.1 + 2, h.fr 2 (by omega), wNP.tag (by omega), fun k _ => (h.ar 2 (by omega)).2 k⟩, ⟨257 + T0.2.1 + 3, h.fr 3 (by omega), wNP.tag (by omega), fun k _ => (h.ar 3 (by omega)).2 k⟩, ⟨257 + T0.2.1 + 4, h.fr 4 (by omega), wNP.tag (by omega), fun k _ => (h.ar 4 (by omega)).2 k⟩, ⟨257 + T0.2.1 + 5, h.fr 5 (by omega), wNP.tag (by omega), fun k _ => (h.ar 5 (by omega)).2 k⟩, ⟨257 + T0.2.1 + 6, h.fr 6 (by omega), wNP.tag (by omega), fun k _ => (h.ar 6 (by omega)).2 k⟩, ⟨257 + T0.2.1 + 7, h.fr 7 (by omega), wNP.tag (by omega), fun k _ => (h.ar 7 (by omega)).2 k⟩, ⟨257 + T0.2.1 + 8, h.fr 8 (by omega), wNP.tag (by omega), fun k _ => (h.ar 8 (by omega)).2 k⟩, ⟨257 + T0.2.1 + 9, h.fr 9 (by omega), wNP.tag (by omega), fun k _ => (h.ar 9 (by omega)).2 k⟩, ⟨257 + T0.2.1 + 10, h.fr 10 (by omega), wNP.tag (by omega), fun k _ => (h.ar 10 (by omega)).2 k⟩, ⟨257 + T0.2.1 + 11, h.fr 11 (by omega), wNP.tag (by omega), fun k _ => (h.ar 11 (by omega)).2 k⟩, ⟨257 + T0.2.1 + 12, h.fr 12 (by omega), wNP.tag (by omega), fun k _ => (h.ar 12 (by omega)).2 k⟩, ⟨257 + T0.2.1 + 13, h.fr 13 (by omega), wNP.tag (by omega), fun k _ => (h.ar 13 (by omega)).2 k⟩, ⟨257 + T0.2.1 + 14, h.fr 14 (by omega), wNP.tag (by omega), fun k _ => (h.ar 14 (by omega)).2 k⟩, ⟨257 + T0.2.1 + 16, h.fr 16 (by omega), wNP.tag (by omega), fun k _ => (h.ar 16 (by omega)).2 k⟩, ⟨257 + T0.2.1 + 17, h.fr 17 (by omega), wNP.tag (by omega), fun k _ => (h.ar 17 (by omega)).2 k⟩⟩
theorem wPI_dm {T : wq_T} {H : wq_H} {R m : Nat} {d : xD} (h : DM T H R m d) : wPI H R = 1 := by
  obtain ⟨-, -, hp, -, ⟨b1, q1, -, a1⟩, ⟨b2, q2, -, a2⟩, ⟨b3, q3, -, a3⟩, ⟨b4, q4, -, a4⟩, -⟩ := h
  refine wPI_of q1 q2 q3 q4 (fun k hk => ?_)
  rw [a1 k hk, a2 k hk, a3 k hk, a4 k hk]
  have := hp k
  omega
set_option maxHeartbeats 4000000 in
theorem u_171 {kt : Nat → Option mc_E} {T : wq_T} {H : wq_H} (hW : WT T H) (hf : ∀ a, 256 + T.2.1 ≤ a → T.1 a = none) : wpc kt 1 171 [.ref (256 + T.2.1)] (wq_gT T (110, 27) 27) (wq_gH H (256 + T.2.1) (wq_d 10)) (uq_171 T H) := by
  refine wp_enter e171 (Nat.le_of_ble_eq_true rfl) rfl ?_
  have G18 : (∀ T' H', wNP T H T' H' 18 → H' (256 + T.2.1) 8 = -1 → wp kt 0 171 147 [(0, .ref (256 + T.2.1))] [] T' H' (uq_171 T H)) := fun T' H' np hx => wp.ghost (wNPg T) (wp_return e171 c171_147 rfl (np.allf hx hW hf))
  have G17 : (∀ T' H', wNP T H T' H' 17 → H' (256 + T.2.1) 8 = -1 → wp kt 0 171 139 [(0, .ref (256 + T.2.1))] [] T' H' (uq_171 T H)) := fun T' H' np hx => by
    have hn := np.n
    refine wp_of e171 c171_139 (rw_aload_n (pc' := 140) (v := .ref (256 + T.2.1)) rfl rfl rfl ?_)
    refine wp_of e171 c171_140 (rw_bipush (pc' := 142) (z := 6) rfl (by decide) ?_)
    refine wp_of e171 c171_142 (rw_newa (pc' := 144) (tt := 0) (n := 6) rfl (by decide) (by decide) (by decide) rfl rfl ?_)
    refine wp_of e171 c171_144 (px_R (pc' := 147) (z := ((256 + T'.2.1 : Nat) : Int)) lf_10_69 (by show (if _ = _ then _ else T'.1 _) = _; rw [if_neg (by omega)]; exact np.ob) (by omega) (by decide) rfl (vR_of _) trivial rfl ?_)
    exact G18 _ _ (np.next (i := 17) sh_72 (by decide)) (by rw [wq_u_ne (by omega), wq_gH_ne (by omega)]; exact hx)
  have G16 : (∀ T' H', wNP T H T' H' 16 → H' (256 + T.2.1) 8 = -1 → wp kt 0 171 131 [(0, .ref (256 + T.2.1))] [] T' H' (uq_171 T H)) := fun T' H' np hx => by
    have hn := np.n
    refine wp_of e171 c171_131 (rw_aload_n (pc' := 132) (v := .ref (256 + T.2.1)) rfl rfl rfl ?_)
    refine wp_of e171 c171_132 (rw_bipush (pc' := 134) (z := 6) rfl (by decide) ?_)
    refine wp_of e171 c171_134 (rw_newa (pc' := 136) (tt := 0) (n := 6) rfl (by decide) (by decide) (by decide) rfl rfl ?_)
    refine wp_of e171 c171_136 (px_R (pc' := 139) (z := ((256 + T'.2.1 : Nat) : Int)) lf_10_66 (by show (if _ = _ then _ else T'.1 _) = _; rw [if_neg (by omega)]; exact np.ob) (by omega) (by decide) rfl (vR_of _) trivial rfl ?_)
    exact G17 _ _ (np.next (i := 16) sh_71 (by decide)) (by rw [wq_u_ne (by omega), wq_gH_ne (by omega)]; exact hx)
  have G15 : (∀ T' H', wNP T H T' H' 15 → H' (256 + T.2.1) 8 = -1 → wp kt 0 171 124 [(0, .ref (256 + T.2.1))] [] T' H' (uq_171 T H)) := fun T' H' np hx => by
    have hn := np.n
    refine wp_of e171 c171_124 (rw_aload_n (pc' := 125) (v := .ref (256 + T.2.1)) rfl rfl rfl ?_)
    refine wp_of e171 c171_125 (rw_iconst (pc' := 126) rfl ?_)
    refine wp_of e171 c171_126 (rw_newa (pc' := 128) (tt := 0) (n := 4) rfl (by decide) (by decide) (by decide) rfl rfl ?_)
    refine wp_of e171 c171_128 (px_R (pc' := 131) (z := ((256 + T'.2.1 : Nat) : Int)) lf_10_63 (by show (if _ = _ then _ else T'.1 _) = _; rw [if_neg (by omega)]; exact np.ob) (by omega) (by decide) rfl (vR_of _) trivial rfl ?_)
    exact G16 _ _ (np.next (i := 15) sh_70 (by decide)) (by rw [wq_u_ne (by omega), wq_gH_ne (by omega)]; exact hx)
  have G14 : (∀ T' H', wNP T H T' H' 14 → H' (256 + T.2.1) 8 = -1 → wp kt 0 171 117 [(0, .ref (256 + T.2.1))] [] T' H' (uq_171 T H)) := fun T' H' np hx => by
    have hn := np.n
    refine wp_of e171 c171_117 (rw_aload_n (pc' := 118) (v := .ref (256 + T.2.1)) rfl rfl rfl ?_)
    refine wp_of e171 c171_118 (rw_iconst (pc' := 119) rfl ?_)
    refine wp_of e171 c171_119 (rw_newa (pc' := 121) (tt := 0) (n := 4) rfl (by decide) (by decide) (by decide) rfl rfl ?_)
    refine wp_of e171 c171_121 (px_R (pc' := 124) (z := ((256 + T'.2.1 : Nat) : Int)) lf_10_60 (by show (if _ = _ then _ else T'.1 _) = _; rw [if_neg (by omega)]; exact np.ob) (by omega) (by decide) rfl (vR_of _) trivial rfl ?_)
    exact G15 _ _ (np.next (i := 14) sh_69 (by decide)) (by rw [wq_u_ne (by omega), wq_gH_ne (by omega)]; exact hx)
  have G13 : (∀ T' H', wNP T H T' H' 13 → H' (256 + T.2.1) 8 = -1 → wp kt 0 171 110 [(0, .ref (256 + T.2.1))] [] T' H' (uq_171 T H)) := fun T' H' np hx => by
    have hn := np.n
    refine wp_of e171 c171_110 (rw_aload_n (pc' := 111) (v := .ref (256 + T.2.1)) rfl rfl rfl ?_)
    refine wp_of e171 c171_111 (rw_iconst (pc' := 112) rfl ?_)
    refine wp_of e171 c171_112 (rw_newa (pc' := 114) (tt := 0) (n := 4) rfl (by decide) (by decide) (by decide) rfl rfl ?_)
    refine wp_of e171 c171_114 (px_R (pc' := 117) (z := ((256 + T'.2.1 : Nat) : Int)) lf_10_57 (by show (if _ = _ then _ else T'.1 _) = _; rw [if_neg (by omega)]; exact np.ob) (by omega) (by decide) rfl (vR_of _) trivial rfl ?_)
    exact G14 _ _ (np.next (i := 13) sh_68 (by decide)) (by rw [wq_u_ne (by omega), wq_gH_ne (by omega)]; exact hx)
  have G12 : (∀ T' H', wNP T H T' H' 12 → H' (256 + T.2.1) 8 = -1 → wp kt 0 171 102 [(0, .ref (256 + T.2.1))] [] T' H' (uq_171 T H)) := fun T' H' np hx => by
    have hn := np.n
    refine wp_of e171 c171_102 (rw_aload_n (pc' := 103) (v := .ref (256 + T.2.1)) rfl rfl rfl ?_)
    refine wp_of e171 c171_103 (rw_bipush (pc' := 105) (z := 24) rfl (by decide) ?_)
    refine wp_of e171 c171_105 (rw_newa (pc' := 107) (tt := 0) (n := 24) rfl (by decide) (by decide) (by decide) rfl rfl ?_)
    refine wp_of e171 c171_107 (px_R (pc' := 110) (z := ((256 + T'.2.1 : Nat) : Int)) lf_10_54 (by show (if _ = _ then _ else T'.1 _) = _; rw [if_neg (by omega)]; exact np.ob) (by omega) (by decide) rfl (vR_of _) trivial rfl ?_)
    exact G13 _ _ (np.next (i := 12) sh_67 (by decide)) (by rw [wq_u_ne (by omega), wq_gH_ne (by omega)]; exact hx)
  have G11 : (∀ T' H', wNP T H T' H' 11 → H' (256 + T.2.1) 8 = -1 → wp kt 0 171 95 [(0, .ref (256 + T.2.1))] [] T' H' (uq_171 T H)) := fun T' H' np hx => by
    have hn := np.n
    refine wp_of e171 c171_95 (rw_aload_n (pc' := 96) (v := .ref (256 + T.2.1)) rfl rfl rfl ?_)
    refine wp_of e171 c171_96 (rw_iconst (pc' := 97) rfl ?_)
    refine wp_of e171 c171_97 (rw_newa (pc' := 99) (tt := 0) (n := 3) rfl (by decide) (by decide) (by decide) rfl rfl ?_)
    refine wp_of e171 c171_99 (px_R (pc' := 102) (z := ((256 + T'.2.1 : Nat) : Int)) lf_10_51 (by show (if _ = _ then _ else T'.1 _) = _; rw [if_neg (by omega)]; exact np.ob) (by omega) (by decide) rfl (vR_of _) trivial rfl ?_)
    exact G12 _ _ (np.next (i := 11) sh_66 (by decide)) (by rw [wq_u_ne (by omega), wq_gH_ne (by omega)]; exact hx)
  have G10 : (∀ T' H', wNP T H T' H' 10 → H' (256 + T.2.1) 8 = -1 → wp kt 0 171 88 [(0, .ref (256 + T.2.1))] [] T' H' (uq_171 T H)) := fun T' H' np hx => by
    have hn := np.n
    refine wp_of e171 c171_88 (rw_aload_n (pc' := 89) (v := .ref (256 + T.2.1)) rfl rfl rfl ?_)
    refine wp_of e171 c171_89 (rw_iconst (pc' := 90) rfl ?_)
    refine wp_of e171 c171_90 (rw_newa (pc' := 92) (tt := 0) (n := 3) rfl (by decide) (by decide) (by decide) rfl rfl ?_)
    refine wp_of e171 c171_92 (px_R (pc' := 95) (z := ((256 + T'.2.1 : Nat) : Int)) lf_10_48 (by show (if _ = _ then _ else T'.1 _) = _; rw [if_neg (by omega)]; exact np.ob) (by omega) (by decide) rfl (vR_of _) trivial rfl ?_)
    exact G11 _ _ (np.next (i := 10) sh_65 (by decide)) (by rw [wq_u_ne (by omega), wq_gH_ne (by omega)]; exact hx)
  have G9 : (∀ T' H', wNP T H T' H' 9 → H' (256 + T.2.1) 8 = -1 → wp kt 0 171 81 [(0, .ref (256 + T.2.1))] [] T' H' (uq_171 T H)) := fun T' H' np hx => by
    have hn := np.n
    refine wp_of e171 c171_81 (rw_aload_n (pc' := 82) (v := .ref (256 + T.2.1)) rfl rfl rfl ?_)
    refine wp_of e171 c171_82 (rw_iconst (pc' := 83) rfl ?_)
    refine wp_of e171 c171_83 (rw_newa (pc' := 85) (tt := 0) (n := 3) rfl (by decide) (by decide) (by decide) rfl rfl ?_)
    refine wp_of e171 c171_85 (px_R (pc' := 88) (z := ((256 + T'.2.1 : Nat) : Int)) lf_10_45 (by show (if _ = _ then _ else T'.1 _) = _; rw [if_neg (by omega)]; exact np.ob) (by omega) (by decide) rfl (vR_of _) trivial rfl ?_)
    exact G10 _ _ (np.next (i := 9) sh_64 (by decide)) (by rw [wq_u_ne (by omega), wq_gH_ne (by omega)]; exact hx)
  have G8 : (∀ T' H', wNP T H T' H' 8 → H' (256 + T.2.1) 8 = -1 → wp kt 0 171 73 [(0, .ref (256 + T.2.1))] [] T' H' (uq_171 T H)) := fun T' H' np hx => by
    have hn := np.n
    refine wp_of e171 c171_73 (rw_aload_n (pc' := 74) (v := .ref (256 + T.2.1)) rfl rfl rfl ?_)
    refine wp_of e171 c171_74 (rw_bipush (pc' := 76) (z := 6) rfl (by decide) ?_)
    refine wp_of e171 c171_76 (rw_newa (pc' := 78) (tt := 3) (n := 6) rfl (by decide) (by decide) (by decide) rfl rfl ?_)
    refine wp_of e171 c171_78 (px_R (pc' := 81) (z := ((256 + T'.2.1 : Nat) : Int)) lf_10_41 (by show (if _ = _ then _ else T'.1 _) = _; rw [if_neg (by omega)]; exact np.ob) (by omega) (by decide) rfl (vR_of _) trivial rfl ?_)
    exact G9 _ _ (np.next (i := 8) sh_63 (by decide)) (by rw [wq_u_ne (by omega), wq_gH_ne (by omega)]; exact hx)
  have G7 : (∀ T' H', wNP T H T' H' 7 → H' (256 + T.2.1) 8 = -1 → wp kt 0 171 65 [(0, .ref (256 + T.2.1))] [] T' H' (uq_171 T H)) := fun T' H' np hx => by
    have hn := np.n
    refine wp_of e171 c171_65 (rw_aload_n (pc' := 66) (v := .ref (256 + T.2.1)) rfl rfl rfl ?_)
    refine wp_of e171 c171_66 (rw_bipush (pc' := 68) (z := 6) rfl (by decide) ?_)
    refine wp_of e171 c171_68 (rw_newa (pc' := 70) (tt := 0) (n := 6) rfl (by decide) (by decide) (by decide) rfl rfl ?_)
    refine wp_of e171 c171_70 (px_R (pc' := 73) (z := ((256 + T'.2.1 : Nat) : Int)) lf_10_38 (by show (if _ = _ then _ else T'.1 _) = _; rw [if_neg (by omega)]; exact np.ob) (by omega) (by decide) rfl (vR_of _) trivial rfl ?_)
    exact G8 _ _ (np.next (i := 7) sh_62 (by decide)) (by rw [wq_u_ne (by omega), wq_gH_ne (by omega)]; exact hx)
  have G6 : (∀ T' H', wNP T H T' H' 6 → H' (256 + T.2.1) 8 = -1 → wp kt 0 171 57 [(0, .ref (256 + T.2.1))] [] T' H' (uq_171 T H)) := fun T' H' np hx => by
    have hn := np.n
    refine wp_of e171 c171_57 (rw_aload_n (pc' := 58) (v := .ref (256 + T.2.1)) rfl rfl rfl ?_)
    refine wp_of e171 c171_58 (rw_bipush (pc' := 60) (z := 6) rfl (by decide) ?_)
    refine wp_of e171 c171_60 (rw_newa (pc' := 62) (tt := 0) (n := 6) rfl (by decide) (by decide) (by decide) rfl rfl ?_)
    refine wp_of e171 c171_62 (px_R (pc' := 65) (z := ((256 + T'.2.1 : Nat) : Int)) lf_10_35 (by show (if _ = _ then _ else T'.1 _) = _; rw [if_neg (by omega)]; exact np.ob) (by omega) (by decide) rfl (vR_of _) trivial rfl ?_)
    exact G7 _ _ (np.next (i := 6) sh_61 (by decide)) (by rw [wq_u_ne (by omega), wq_gH_ne (by omega)]; exact hx)
  have G5 : (∀ T' H', wNP T H T' H' 5 → H' (256 + T.2.1) 8 = -1 → wp kt 0 171 49 [(0, .ref (256 + T.2.1))] [] T' H' (uq_171 T H)) := fun T' H' np hx => by
    have hn := np.n
    refine wp_of e171 c171_49 (rw_aload_n (pc' := 50) (v := .ref (256 + T.2.1)) rfl rfl rfl ?_)
    refine wp_of e171 c171_50 (rw_bipush (pc' := 52) (z := 6) rfl (by decide) ?_)
    refine wp_of e171 c171_52 (rw_newa (pc' := 54) (tt := 0) (n := 6) rfl (by decide) (by decide) (by decide) rfl rfl ?_)
    refine wp_of e171 c171_54 (px_R (pc' := 57) (z := ((256 + T'.2.1 : Nat) : Int)) lf_10_32 (by show (if _ = _ then _ else T'.1 _) = _; rw [if_neg (by omega)]; exact np.ob) (by omega) (by decide) rfl (vR_of _) trivial rfl ?_)
    exact G6 _ _ (np.next (i := 5) sh_60 (by decide)) (by rw [wq_u_ne (by omega), wq_gH_ne (by omega)]; exact hx)
  have G4 : (∀ T' H', wNP T H T' H' 4 → H' (256 + T.2.1) 8 = -1 → wp kt 0 171 41 [(0, .ref (256 + T.2.1))] [] T' H' (uq_171 T H)) := fun T' H' np hx => by
    have hn := np.n
    refine wp_of e171 c171_41 (rw_aload_n (pc' := 42) (v := .ref (256 + T.2.1)) rfl rfl rfl ?_)
    refine wp_of e171 c171_42 (rw_bipush (pc' := 44) (z := 6) rfl (by decide) ?_)
    refine wp_of e171 c171_44 (rw_newa (pc' := 46) (tt := 0) (n := 6) rfl (by decide) (by decide) (by decide) rfl rfl ?_)
    refine wp_of e171 c171_46 (px_R (pc' := 49) (z := ((256 + T'.2.1 : Nat) : Int)) lf_10_29 (by show (if _ = _ then _ else T'.1 _) = _; rw [if_neg (by omega)]; exact np.ob) (by omega) (by decide) rfl (vR_of _) trivial rfl ?_)
    exact G5 _ _ (np.next (i := 4) sh_59 (by decide)) (by rw [wq_u_ne (by omega), wq_gH_ne (by omega)]; exact hx)
  have G3 : (∀ T' H', wNP T H T' H' 3 → H' (256 + T.2.1) 8 = -1 → wp kt 0 171 33 [(0, .ref (256 + T.2.1))] [] T' H' (uq_171 T H)) := fun T' H' np hx => by
    have hn := np.n
    refine wp_of e171 c171_33 (rw_aload_n (pc' := 34) (v := .ref (256 + T.2.1)) rfl rfl rfl ?_)
    refine wp_of e171 c171_34 (rw_bipush (pc' := 36) (z := 6) rfl (by decide) ?_)
    refine wp_of e171 c171_36 (rw_newa (pc' := 38) (tt := 0) (n := 6) rfl (by decide) (by decide) (by decide) rfl rfl ?_)
    refine wp_of e171 c171_38 (px_R (pc' := 41) (z := ((256 + T'.2.1 : Nat) : Int)) lf_10_26 (by show (if _ = _ then _ else T'.1 _) = _; rw [if_neg (by omega)]; exact np.ob) (by omega) (by decide) rfl (vR_of _) trivial rfl ?_)
    exact G4 _ _ (np.next (i := 3) sh_58 (by decide)) (by rw [wq_u_ne (by omega), wq_gH_ne (by omega)]; exact hx)
  have G2 : (∀ T' H', wNP T H T' H' 2 → H' (256 + T.2.1) 8 = -1 → wp kt 0 171 25 [(0, .ref (256 + T.2.1))] [] T' H' (uq_171 T H)) := fun T' H' np hx => by
    have hn := np.n
    refine wp_of e171 c171_25 (rw_aload_n (pc' := 26) (v := .ref (256 + T.2.1)) rfl rfl rfl ?_)
    refine wp_of e171 c171_26 (rw_bipush (pc' := 28) (z := 6) rfl (by decide) ?_)
    refine wp_of e171 c171_28 (rw_newa (pc' := 30) (tt := 0) (n := 6) rfl (by decide) (by decide) (by decide) rfl rfl ?_)
    refine wp_of e171 c171_30 (px_R (pc' := 33) (z := ((256 + T'.2.1 : Nat) : Int)) lf_10_23 (by show (if _ = _ then _ else T'.1 _) = _; rw [if_neg (by omega)]; exact np.ob) (by omega) (by decide) rfl (vR_of _) trivial rfl ?_)
    exact G3 _ _ (np.next (i := 2) sh_57 (by decide)) (by rw [wq_u_ne (by omega), wq_gH_ne (by omega)]; exact hx)
  have G1 : (∀ T' H', wNP T H T' H' 1 → H' (256 + T.2.1) 8 = -1 → wp kt 0 171 17 [(0, .ref (256 + T.2.1))] [] T' H' (uq_171 T H)) := fun T' H' np hx => by
    have hn := np.n
    refine wp_of e171 c171_17 (rw_aload_n (pc' := 18) (v := .ref (256 + T.2.1)) rfl rfl rfl ?_)
    refine wp_of e171 c171_18 (rw_bipush (pc' := 20) (z := 6) rfl (by decide) ?_)
    refine wp_of e171 c171_20 (rw_newa (pc' := 22) (tt := 0) (n := 6) rfl (by decide) (by decide) (by decide) rfl rfl ?_)
    refine wp_of e171 c171_22 (px_R (pc' := 25) (z := ((256 + T'.2.1 : Nat) : Int)) lf_10_19 (by show (if _ = _ then _ else T'.1 _) = _; rw [if_neg (by omega)]; exact np.ob) (by omega) (by decide) rfl (vR_of _) trivial rfl ?_)
    exact G2 _ _ (np.next (i := 1) sh_56 (by decide)) (by rw [wq_u_ne (by omega), wq_gH_ne (by omega)]; exact hx)
  have G0 : (∀ T' H', wNP T H T' H' 0 → H' (256 + T.2.1) 8 = -1 → wp kt 0 171 9 [(0, .ref (256 + T.2.1))] [] T' H' (uq_171 T H)) := fun T' H' np hx => by
    have hn := np.n
    refine wp_of e171 c171_9 (rw_aload_n (pc' := 10) (v := .ref (256 + T.2.1)) rfl rfl rfl ?_)
    refine wp_of e171 c171_10 (rw_bipush (pc' := 12) (z := 6) rfl (by decide) ?_)
    refine wp_of e171 c171_12 (rw_newa (pc' := 14) (tt := 1) (n := 6) rfl (by decide) (by decide) (by decide) rfl rfl ?_)
    refine wp_of e171 c171_14 (px_R (pc' := 17) (z := ((256 + T'.2.1 : Nat) : Int)) lf_10_15 (by show (if _ = _ then _ else T'.1 _) = _; rw [if_neg (by omega)]; exact np.ob) (by omega) (by decide) rfl (vR_of _) trivial rfl ?_)
    exact G1 _ _ (np.next (i := 0) sh_55 (by decide)) (by rw [wq_u_ne (by omega), wq_gH_ne (by omega)]; exact hx)
  refine wp_of e171 c171_0 (rw_aload_n (pc' := 1) (v := .ref (256 + T.2.1)) rfl rfl rfl ?_)
  refine wp_of e171 c171_1 (rw_obj (pc' := 4) (e := _) rfl rfl (Nat.le_of_ble_eq_true rfl) rfl ?_)
  refine wp_of e171 c171_4 (rw_aload_n (pc' := 5) (v := .ref (256 + T.2.1)) rfl rfl rfl ?_)
  refine wp_of e171 c171_5 (rw_iconst (pc' := 6) rfl ?_)
  refine wp_of e171 c171_6 (px_R (pc' := 9) (z := -1) lf_10_9 (if_pos rfl) (by omega) (by decide) rfl rfl ⟨by decide, by decide⟩ rfl ?_)
  exact G0 _ _ wNP.zero.num (by rw [wq_u_eq])
end
