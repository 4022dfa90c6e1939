/-! StrikeAwake.say(II)Z  -/
abbrev uq_62 (r0 : Nat) (a1 : Int) (a2 : Int) (cu : Nat) (e : xD) (d : xD) (n : Int) (nY : Int) (gY : Nat → Int) (cY : Int) (T : wq_T) (H : wq_H) : Option Value → wq_T → wq_H → Prop := fun r T' H' => T = T' ∧ WT T H' ∧ wfr [(35, 16), (1, 10)] T H H' ∧ ∃ z : Int, some (vI z) = r ∧ (0 ≤ z ∧ z ≤ 1) ∧ (((z = 1) ∧ ((0 ≤ a1 ∧ a1 < d 0 3) ∧ 0 ≤ a2 ∧ a2 < ((xsp d (a1).toNat).length : Int)) ∧ (SG d (xup gY (a1).toNat a2)) ∧ CY T H' cu nY (xup gY (a1).toNat a2) cY) ∨ ((z = 0) ∧ ((a1 < 0 ∨ d 0 3 ≤ a1) ∨ a2 < 0 ∨ ((xsp d (a1).toNat).length : Int) ≤ a2) ∧ CY T H' cu nY gY cY))
set_option maxHeartbeats 4000000 in
theorem u_62 {kt : Nat → Option mc_E} {T : wq_T} {H : wq_H} {r0 : Nat} {a1 : Int} {a2 : Int} {cu : Nat} {e : xD} {d : xD} {n : Int} {nY : Int} {gY : Nat → Int} {cY : Int} (hW : WT T H) (g0 : T.2.2.2 r0 = some 1) (i1 : (-2147483648) ≤ a1 ∧ a1 ≤ 2147483647) (i2 : (-2147483648) ≤ a2 ∧ a2 ≤ 2147483647) (qcu : H r0 6 = (cu : Int)) (gcu : T.2.2.2 cu = some 27) (p0 : e 0 3 = d 0 3) (p1 : e 0 0 = d 0 0) (p2 : nY = d 0 3) (p3 : SG d gY) (hCU_cu : CU T H cu e d n) (hCY_cu : CY T H cu nY gY cY) (hDD_cu : DD T H cu ) : wpc kt 3 62 [.ref r0, vI a1, vI a2] T H (uq_62 r0 a1 a2 cu e d n nY gY cY T H) := by
  refine wp_enter e62 (Nat.le_of_ble_eq_true rfl) rfl ?_
  have f0 : wfr [(35, 16), (1, 10)] T H H := wfr.rf
  show wp _ _ 62 0 [(0, .ref r0), (1, vI a1), (2, vI a2)] [] _ H _
  have u1056 := CU_k hCU_cu
  have _xl := @xsp_len d (a1).toNat hCU_cu.2.1.1
  refine wp_of e62 c62_0 (rw_aload_n (pc' := 1) (v := .ref r0) rfl rfl rfl ?_)
  refine wp_of e62 c62_1 (rw_iload_n (pc' := 2) (z := a1) rfl rfl ?_)
  refine wp_of e62 c62_2 (rw_iload_n (pc' := 3) (z := a2) rfl rfl ?_)
  refine wp_of e62 c62_3 (xc_V (pc' := 6) (r := r0) (as := [vI a1, vI a2]) (st := []) (lm_0_118) rfl rfl (Nat.le_of_ble_eq_true rfl) hW g0 sh_1 (by decide) rfl (by decide) (u_57 (e := e) (d := d) (n := n) hW g0 ⟨i1.1, i1.2⟩ ⟨i2.1, i2.2⟩ qcu gcu (by omega) (by omega) hCU_cu) (fun R1057 T1058 H1059 p1060 => ?_))
  obtain ⟨e1061, e1063, z1064, e1062, b1065, p1066⟩ := p1060
  subst e1061
  subst e1062
  subst e1063
  rcases p1066 with ⟨a1067, a1068⟩ | ⟨a1069, a1070⟩
  · show wp _ _ 62 6 [(0, .ref r0), (1, vI a1), (2, vI a2)] [vI z1064] _ H _
    refine wp_of e62 c62_6 (rw_if_ne (p1 := 15) (p2 := 9) (by decide) rfl ⟨Int.le_trans (by decide) b1065.1, Int.le_trans b1065.2 (by decide)⟩ (fun c1071 => ?_) (fun c1071 => ?_))
    · refine wp_of e62 c62_15 (rw_aload_n (pc' := 16) (v := .ref r0) rfl rfl rfl ?_)
      refine wp_of e62 c62_16 (xg_K (pc' := 19) lf_0_51 hW g0 sh_1 (by decide) (by decide) rfl qcu rfl ?_)
      refine wp_of e62 c62_19 (xg_R (pc' := 22) lf_0_109 hW gcu sh_27 (by decide) (by decide) ty_27_0 rfl rfl (fun r1072 q1073 g1074 => ?_))
      refine wp_of e62 c62_22 (rw_iload_n (pc' := 23) (z := a1) rfl rfl ?_)
      refine wp_of e62 c62_23 (xa_R (pc' := 24) (by decide) hW g1074 sh_28 (by decide) (ty_28 _) (by omega) (by omega) rfl (fun r1075 q1076 g1077 => ?_))
      refine wp_of e62 c62_24 (rw_iload_n (pc' := 25) (z := a2) rfl rfl ?_)
      refine wp_of e62 c62_25 (xp_I (pc' := 28) lf_0_148 hW g1077 sh_35 (by decide) (by decide) ty_35_16 rfl rfl (by omega) (by omega) ⟨i2.1, i2.2⟩ rfl (fun H1078 e1079 w1080 => ?_))
      have f1081 := f0.put' e1079 g1077 rfl
      have k1082 : H1078 r1075 16 = a2 := wq_u_s e1079
      have h1083 : CY T H1078 cu nY (xup gY (a1).toNat a2) cY := CY_put hDD_cu q1073 g1074 gcu q1076 g1077 (k := (a1).toNat) (by omega) (by omega) e1079 hCY_cu
      refine wp_of e62 c62_28 (rw_aload_n (pc' := 29) (v := .ref r0) rfl rfl rfl ?_)
      refine wp_of e62 c62_29 (xc_V (pc' := 32) (r := r0) (as := []) (st := []) (lm_0_151) rfl rfl (Nat.le_of_ble_eq_true rfl) w1080 g0 sh_1 (by decide) rfl (by decide) (u_64  w1080 g0) (fun R1084 T1085 H1086 p1087 => ?_))
      obtain ⟨e1088, w1090, f1091, z1092, e1089, b1093, p1094⟩ := p1087
      subst e1088
      subst e1089
      obtain ⟨a1095, a1096⟩ := p1094
      have f1097 := f1081.tr f1091 rfl
      show wp _ _ 62 32 [(0, .ref r0), (1, vI a1), (2, vI a2)] [vI z1092] _ H1086 _
      have h1098 : CY T H1086 cu nY (xup gY (a1).toNat a2) cY := (CY_fr w1080 gcu f1091 rfl h1083)
      exact wp_zreturn e62 c62_32 rfl (by omega) ⟨rfl, w1090, f1097, z1092, rfl, ⟨b1093.1, b1093.2⟩, (Or.inl ⟨by omega, by omega, SG_up (by assumption) (by omega) (by omega), h1098⟩)⟩
    · exfalso
      omega
  · show wp _ _ 62 6 [(0, .ref r0), (1, vI a1), (2, vI a2)] [vI z1064] _ H _
    refine wp_of e62 c62_6 (rw_if_ne (p1 := 15) (p2 := 9) (by decide) rfl ⟨Int.le_trans (by decide) b1065.1, Int.le_trans b1065.2 (by decide)⟩ (fun c1099 => ?_) (fun c1099 => ?_))
    · exfalso
      omega
    · refine wp_of e62 c62_9 (rw_aload_n (pc' := 10) (v := .ref r0) rfl rfl rfl ?_)
      refine wp_of e62 c62_10 (rw_iconst (pc' := 11) rfl ?_)
      refine wp_of e62 c62_11 (xc_V (pc' := 14) (r := r0) (as := [vI 1]) (st := []) (lm_0_145) rfl rfl (Nat.le_of_ble_eq_true rfl) hW g0 sh_1 (by decide) rfl (by decide) (u_63  hW g0 ⟨by decide, by decide⟩) (fun R1100 T1101 H1102 p1103 => ?_))
      obtain ⟨e1104, w1106, f1107, z1108, e1105, b1109, p1110⟩ := p1103
      subst e1104
      subst e1105
      obtain ⟨a1111, a1112⟩ := p1110
      have f1113 := f0.tr f1107 rfl
      show wp _ _ 62 14 [(0, .ref r0), (1, vI a1), (2, vI a2)] [vI z1108] _ H1102 _
      have h1114 : CY T H1102 cu nY gY cY := (CY_fr hW gcu f1107 rfl hCY_cu)
      exact wp_zreturn e62 c62_14 rfl (by omega) ⟨rfl, w1106, f1113, z1108, rfl, ⟨b1109.1, b1109.2⟩, (Or.inr ⟨by omega, by omega, h1114⟩)⟩
/-! StrikeAwake.strike(II)I  -/
abbrev uq_153 (r0 : Nat) (a1 : Int) (a2 : Int) (cu : Nat) (ce : Nat) (e : xD) (d : xD) (n : Int) (y : Int) (w : Int) (T : wq_T) (H : wq_H) : Option Value → wq_T → wq_H → Prop := fun r T' H' => T = T' ∧ WT T H' ∧ wfr [(12, 9), (27, 16), (1, 10), (29, 999), (30, 999)] T H H' ∧ ∃ z : Int, some (vI z) = r ∧ ((-2147483648) ≤ z ∧ z ≤ 2147483647) ∧ (((z = -1) ∧ ((y < 0 ∨ d 0 0 ≤ y) ∨ a2 < 0 ∨ 99 < a2) ∧ CU T H' cu e d n ∧ CEN T H' ce e d) ∨ ((0 ≤ z ∧ z ≤ 24) ∧ ((0 ≤ y ∧ y < d 0 0) ∧ 0 ≤ a2 ∧ a2 ≤ 99) ∧ (z = xcn ((wq_u e 13 (y).toNat w) 13) 24) ∧ (H' ce 9 = 0) ∧ CU T H' cu (wq_u e 13 (y).toNat w) d n))
set_option maxHeartbeats 4000000 in
theorem u_153 {kt : Nat → Option mc_E} {T : wq_T} {H : wq_H} {r0 : Nat} {a1 : Int} {a2 : Int} {cu : Nat} {ce : Nat} {e : xD} {d : xD} {n : Int} {y : Int} {w : Int} (hW : WT T H) (g0 : T.2.2.2 r0 = some 1) (i1 : (-2147483648) ≤ a1 ∧ a1 ≤ 2147483647) (i2 : (-2147483648) ≤ a2 ∧ a2 ≤ 2147483647) (qcu : H r0 6 = (cu : Int)) (gcu : T.2.2.2 cu = some 27) (qce : H r0 3 = (ce : Int)) (gce : T.2.2.2 ce = some 12) (p0 : e 0 3 = d 0 3) (p1 : e 0 0 = d 0 0) (p2 : a1 = y) (p3 : w = a2 + 1) (hCU_cu : CU T H cu e d n) (hCEN_ce : CEN T H ce e d) : wpc kt 3 153 [.ref r0, vI a1, vI a2] T H (uq_153 r0 a1 a2 cu ce e d n y w T H) := by
  refine wp_enter e153 (Nat.le_of_ble_eq_true rfl) rfl ?_
  have f0 : wfr [(12, 9), (27, 16), (1, 10), (29, 999), (30, 999)] T H H := wfr.rf
  show wp _ _ 153 0 [(0, .ref r0), (1, vI a1), (2, vI a2)] [] _ H _
  have u1106 := CU_k hCU_cu
  have b1107 : 0 ≤ H cu 7 ∧ H cu 7 ≤ 24 := hW.box gcu (n := 19) rfl (by decide) rfl
  have h1108 : DC T H cu e := hCU_cu.1
  have h1109 : CS T H cu d 0 := hCU_cu.2.1
  refine wp_of e153 c153_0 (rw_aload_n (pc' := 1) (v := .ref r0) rfl rfl rfl ?_)
  refine wp_of e153 c153_1 (rw_iload_n (pc' := 2) (z := a1) rfl rfl ?_)
  refine wp_of e153 c153_2 (xc_V (pc' := 5) (r := r0) (as := [vI a1]) (st := []) (lm_0_132) rfl rfl (Nat.le_of_ble_eq_true rfl) hW g0 sh_1 (by decide) rfl (by decide) (u_60  hW g0 ⟨i1.1, i1.2⟩ qcu gcu) (fun R1110 T1111 H1112 p1113 => ?_))
  obtain ⟨e1114, e1116, z1117, e1115, b1118, p1119⟩ := p1113
  subst e1114
  subst e1115
  subst e1116
  rcases p1119 with ⟨a1120, a1121⟩ | ⟨a1122, a1123⟩
  · show wp _ _ 153 5 [(0, .ref r0), (1, vI a1), (2, vI a2)] [vI z1117] _ H _
    refine wp_of e153 c153_5 (rw_if_ne (p1 := 14) (p2 := 8) (by decide) rfl ⟨Int.le_trans (by decide) b1118.1, Int.le_trans b1118.2 (by decide)⟩ (fun c1124 => ?_) (fun c1124 => ?_))
    · refine wp_of e153 c153_14 (rw_iload_n (pc' := 15) (z := a2) rfl rfl ?_)
      refine wp_of e153 c153_15 (rw_if_lt (p1 := 24) (p2 := 18) (by decide) rfl ⟨i2.1, i2.2⟩ (fun c1125 => ?_) (fun c1125 => ?_))
      · refine wp_of e153 c153_24 (rw_aload_n (pc' := 25) (v := .ref r0) rfl rfl rfl ?_)
        refine wp_of e153 c153_25 (rw_iconst (pc' := 26) rfl ?_)
        refine wp_of e153 c153_26 (xc_V (pc' := 29) (r := r0) (as := [vI 2]) (st := []) (lm_0_70) rfl rfl (Nat.le_of_ble_eq_true rfl) hW g0 sh_1 (by decide) rfl (by decide) (u_12  hW g0 ⟨by decide, by decide⟩) (fun R1126 T1127 H1128 p1129 => ?_))
        obtain ⟨e1130, w1132, f1133, z1134, e1131, b1135, p1136⟩ := p1129
        subst e1130
        subst e1131
        obtain ⟨a1137, a1138⟩ := p1136
        have f1139 := f0.tr f1133 rfl
        show wp _ _ 153 29 [(0, .ref r0), (1, vI a1), (2, vI a2)] [vI z1134] _ H1128 _
        have h1140 : CU T H1128 cu e d n := (CU_fr hW gcu f1133 rfl hCU_cu)
        have h1141 : CEN T H1128 ce e d := (CEN_fr hW gce f1133 rfl hCEN_ce)
        exact wp_ireturn e153 c153_29 rfl ⟨rfl, w1132, f1139, z1134, rfl, ⟨b1135.1, b1135.2⟩, (Or.inl ⟨by omega, by omega, h1140, h1141⟩)⟩
      · refine wp_of e153 c153_18 (rw_iload_n (pc' := 19) (z := a2) rfl rfl ?_)
        refine wp_of e153 c153_19 (rw_bipush (pc' := 21) (z := 99) rfl (by decide) ?_)
        refine wp_of e153 c153_21 (rw_icmp_le (p1 := 30) (p2 := 24) (by decide) rfl ⟨i2.1, i2.2⟩ ⟨by decide, by decide⟩ (fun c1142 => ?_) (fun c1142 => ?_))
        · refine wp_of e153 c153_30 (rw_aload_n (pc' := 31) (v := .ref r0) rfl rfl rfl ?_)
          refine wp_of e153 c153_31 (xg_K (pc' := 34) lf_0_51 hW g0 sh_1 (by decide) (by decide) rfl qcu rfl ?_)
          refine wp_of e153 c153_34 (rw_iload_n (pc' := 35) (z := a1) rfl rfl ?_)
          refine wp_of e153 c153_35 (rw_iload_n (pc' := 36) (z := a2) rfl rfl ?_)
          refine wp_of e153 c153_36 (xc_V (pc' := 39) (r := cu) (as := [vI a1, vI a2]) (st := []) (lm_0_291) rfl rfl (Nat.le_of_ble_eq_true rfl) hW gcu sh_27 (by decide) rfl (by decide) (u_40 (d := e) (w := w) (y := y) hW gcu ⟨by omega, by omega⟩ ⟨by omega, by omega⟩ (by omega) (by omega) h1108) (fun R1143 T1144 H1145 p1146 => ?_))
          obtain ⟨e1147, w1149, f1150, e1148, p1151⟩ := p1146
          subst e1147
          subst e1148
          have f1153 := f0.tr f1150 rfl
          show wp _ _ 153 39 [(0, .ref r0), (1, vI a1), (2, vI a2)] [] _ H1145 _
          have u1154 := DC_k p1151
          refine wp_of e153 c153_39 (rw_aload_n (pc' := 40) (v := .ref r0) rfl rfl rfl ?_)
          have k1155 : H1145 r0 3 = H r0 3 := (f1150 r0 3 _ g0 rfl)
          have q1156 : H1145 r0 3 = (ce : Int) := k1155.trans qce
          refine wp_of e153 c153_40 (xg_K (pc' := 43) lf_0_30 w1149 g0 sh_1 (by decide) (by decide) rfl q1156 rfl ?_)
          refine wp_of e153 c153_43 (xc_V (pc' := 46) (r := ce) (as := []) (st := []) (lm_0_93) rfl rfl (Nat.le_of_ble_eq_true rfl) w1149 gce sh_12 (by decide) rfl (by decide) (u_50  w1149 gce) (fun R1157 T1158 H1159 p1160 => ?_))
          obtain ⟨e1161, w1163, f1164, e1162, p1165⟩ := p1160
          subst e1161
          subst e1162
          have f1167 := f1153.tr f1164 rfl
          show wp _ _ 153 46 [(0, .ref r0), (1, vI a1), (2, vI a2)] [] _ H1159 _
          refine wp_of e153 c153_46 (rw_aload_n (pc' := 47) (v := .ref r0) rfl rfl rfl ?_)
          refine wp_of e153 c153_47 (rw_aload_n (pc' := 48) (v := .ref r0) rfl rfl rfl ?_)
          have k1168 : H1159 r0 6 = H r0 6 := ((f1164 r0 6 _ g0 rfl).trans (f1150 r0 6 _ g0 rfl))
          have q1169 : H1159 r0 6 = (cu : Int) := k1168.trans qcu
          refine wp_of e153 c153_48 (xg_K (pc' := 51) lf_0_51 w1163 g0 sh_1 (by decide) (by decide) rfl q1169 rfl ?_)
          have k1170 : H1159 cu 16 = H1145 cu 16 := (f1164 cu 16 _ gcu rfl)
          refine wp_of e153 c153_51 (xg_I (pc' := 54) lf_0_295 w1163 gcu sh_27 (by decide) (by decide) ty_27_16 rfl rfl (fun b1171 b1172 => ?_))
          refine wp_of e153 c153_54 (xc_V (pc' := 57) (r := r0) (as := [vI (H1159 cu 16)]) (st := []) (lm_0_99) rfl rfl (Nat.le_of_ble_eq_true rfl) w1163 g0 sh_1 (by decide) rfl (by decide) (u_51  w1163 g0 ⟨Int.le_trans (by decide) b1171, Int.le_trans b1172 (by decide)⟩) (fun R1173 T1174 H1175 p1176 => ?_))
          obtain ⟨e1177, w1179, f1180, z1181, e1178, b1182, p1183⟩ := p1176
          subst e1177
          subst e1178
          obtain ⟨a1184, a1185⟩ := p1183
          have f1186 := f1167.tr f1180 rfl
          show wp _ _ 153 57 [(0, .ref r0), (1, vI a1), (2, vI a2)] [vI z1181] _ H1175 _
          have k1187 : H1175 cu 18 = H cu 18 := ((f1180 cu 18 _ gcu rfl).trans ((f1164 cu 18 _ gcu rfl).trans (f1150 cu 18 _ gcu rfl)))
          have k1188 : H1175 ce 9 = H1159 ce 9 := (f1180 ce 9 _ gce rfl)
          have h1189 : DC T H1175 cu (wq_u e 13 y.toNat w) := (DC_fr w1163 gcu f1180 rfl (DC_fr w1149 gcu f1164 rfl p1151))
          have h1190 : CS T H1175 cu d 0 := (CS_fr w1163 gcu f1180 rfl (CS_fr w1149 gcu f1164 rfl (CS_fr hW gcu f1150 rfl h1109)))
          exact wp_ireturn e153 c153_57 rfl ⟨rfl, w1179, f1186, z1181, rfl, ⟨b1182.1, b1182.2⟩, (Or.inr ⟨by omega, by omega, by omega, by omega, ⟨h1189, h1190, by omega⟩⟩)⟩
        · refine wp_of e153 c153_24 (rw_aload_n (pc' := 25) (v := .ref r0) rfl rfl rfl ?_)
          refine wp_of e153 c153_25 (rw_iconst (pc' := 26) rfl ?_)
          refine wp_of e153 c153_26 (xc_V (pc' := 29) (r := r0) (as := [vI 2]) (st := []) (lm_0_70) rfl rfl (Nat.le_of_ble_eq_true rfl) hW g0 sh_1 (by decide) rfl (by decide) (u_12  hW g0 ⟨by decide, by decide⟩) (fun R1191 T1192 H1193 p1194 => ?_))
          obtain ⟨e1195, w1197, f1198, z1199, e1196, b1200, p1201⟩ := p1194
          subst e1195
          subst e1196
          obtain ⟨a1202, a1203⟩ := p1201
          have f1204 := f0.tr f1198 rfl
          show wp _ _ 153 29 [(0, .ref r0), (1, vI a1), (2, vI a2)] [vI z1199] _ H1193 _
          have h1205 : CU T H1193 cu e d n := (CU_fr hW gcu f1198 rfl hCU_cu)
          have h1206 : CEN T H1193 ce e d := (CEN_fr hW gce f1198 rfl hCEN_ce)
          exact wp_ireturn e153 c153_29 rfl ⟨rfl, w1197, f1204, z1199, rfl, ⟨b1200.1, b1200.2⟩, (Or.inl ⟨by omega, by omega, h1205, h1206⟩)⟩
    · exfalso
      omega
  · show wp _ _ 153 5 [(0, .ref r0), (1, vI a1), (2, vI a2)] [vI z1117] _ H _
    refine wp_of e153 c153_5 (rw_if_ne (p1 := 14) (p2 := 8) (by decide) rfl ⟨Int.le_trans (by decide) b1118.1, Int.le_trans b1118.2 (by decide)⟩ (fun c1207 => ?_) (fun c1207 => ?_))
    · exfalso
      omega
    · refine wp_of e153 c153_8 (rw_aload_n (pc' := 9) (v := .ref r0) rfl rfl rfl ?_)
      refine wp_of e153 c153_9 (rw_iconst (pc' := 10) rfl ?_)
      refine wp_of e153 c153_10 (xc_V (pc' := 13) (r := r0) (as := [vI 1]) (st := []) (lm_0_70) rfl rfl (Nat.le_of_ble_eq_true rfl) hW g0 sh_1 (by decide) rfl (by decide) (u_12  hW g0 ⟨by decide, by decide⟩) (fun R1208 T1209 H1210 p1211 => ?_))
      obtain ⟨e1212, w1214, f1215, z1216, e1213, b1217, p1218⟩ := p1211
      subst e1212
      subst e1213
      obtain ⟨a1219, a1220⟩ := p1218
      have f1221 := f0.tr f1215 rfl
      show wp _ _ 153 13 [(0, .ref r0), (1, vI a1), (2, vI a2)] [vI z1216] _ H1210 _
      have h1222 : CU T H1210 cu e d n := (CU_fr hW gcu f1215 rfl hCU_cu)
      have h1223 : CEN T H1210 ce e d := (CEN_fr hW gce f1215 rfl hCEN_ce)
      exact wp_ireturn e153 c153_13 rfl ⟨rfl, w1214, f1221, z1216, rfl, ⟨b1217.1, b1217.2⟩, (Or.inl ⟨by omega, by omega, h1222, h1223⟩)⟩
/-! StrikeAwake.still(I)Z  -/
abbrev uq_154 (r0 : Nat) (a1 : Int) (cu : Nat) (ce : Nat) (e : xD) (d : xD) (n : Int) (y : Int) (T : wq_T) (H : wq_H) : Option Value → wq_T → wq_H → Prop := fun r T' H' => T = T' ∧ WT T H' ∧ wfr [(12, 9), (27, 16), (1, 10), (29, 999), (30, 999)] T H H' ∧ ∃ z : Int, some (vI z) = r ∧ (0 ≤ z ∧ z ≤ 1) ∧ (((z = 1) ∧ (0 ≤ y ∧ y < d 0 0) ∧ (e 13 (y).toNat > 0) ∧ (H' ce 9 = 0) ∧ CU T H' cu (wq_u e 13 (y).toNat 0) d n) ∨ ((z = 0) ∧ ((y < 0 ∨ d 0 0 ≤ y) ∨ e 13 (y).toNat ≤ 0) ∧ CU T H' cu e d n ∧ CEN T H' ce e d))
set_option maxHeartbeats 4000000 in
theorem u_154 {kt : Nat → Option mc_E} {T : wq_T} {H : wq_H} {r0 : Nat} {a1 : Int} {cu : Nat} {ce : Nat} {e : xD} {d : xD} {n : Int} {y : Int} (hW : WT T H) (g0 : T.2.2.2 r0 = some 1) (i1 : (-2147483648) ≤ a1 ∧ a1 ≤ 2147483647) (qcu : H r0 6 = (cu : Int)) (gcu : T.2.2.2 cu = some 27) (qce : H r0 3 = (ce : Int)) (gce : T.2.2.2 ce = some 12) (p0 : e 0 3 = d 0 3) (p1 : e 0 0 = d 0 0) (p2 : a1 = y) (hCU_cu : CU T H cu e d n) (hCEN_ce : CEN T H ce e d) : wpc kt 3 154 [.ref r0, vI a1] T H (uq_154 r0 a1 cu ce e d n y T H) := by
  refine wp_enter e154 (Nat.le_of_ble_eq_true rfl) rfl ?_
  have f0 : wfr [(12, 9), (27, 16), (1, 10), (29, 999), (30, 999)] T H H := wfr.rf
  show wp _ _ 154 0 [(0, .ref r0), (1, vI a1)] [] _ H _
  have u1092 := CU_k hCU_cu
  have b1093 : 0 ≤ H cu 7 ∧ H cu 7 ≤ 24 := hW.box gcu (n := 19) rfl (by decide) rfl
  have h1094 : DC T H cu e := hCU_cu.1
  have h1095 : CS T H cu d 0 := hCU_cu.2.1
  have h1096 : ST T H cu (e 13) := hCU_cu.1.2.2.1
  refine wp_of e154 c154_0 (rw_aload_n (pc' := 1) (v := .ref r0) rfl rfl rfl ?_)
  refine wp_of e154 c154_1 (rw_iload_n (pc' := 2) (z := a1) rfl rfl ?_)
  refine wp_of e154 c154_2 (xc_V (pc' := 5) (r := r0) (as := [vI a1]) (st := []) (lm_0_132) rfl rfl (Nat.le_of_ble_eq_true rfl) hW g0 sh_1 (by decide) rfl (by decide) (u_60  hW g0 ⟨i1.1, i1.2⟩ qcu gcu) (fun R1097 T1098 H1099 p1100 => ?_))
  obtain ⟨e1101, e1103, z1104, e1102, b1105, p1106⟩ := p1100
  subst e1101
  subst e1102
  subst e1103
  rcases p1106 with ⟨a1107, a1108⟩ | ⟨a1109, a1110⟩
  · show wp _ _ 154 5 [(0, .ref r0), (1, vI a1)] [vI z1104] _ H _
    refine wp_of e154 c154_5 (rw_if_eq (p1 := 20) (p2 := 8) (by decide) rfl ⟨Int.le_trans (by decide) b1105.1, Int.le_trans b1105.2 (by decide)⟩ (fun c1111 => ?_) (fun c1111 => ?_))
    · exfalso
      omega
    · have _ty : (a1).toNat = (y).toNat := by rw [p2]
      refine wp_of e154 c154_8 (rw_aload_n (pc' := 9) (v := .ref r0) rfl rfl rfl ?_)
      refine wp_of e154 c154_9 (xg_K (pc' := 12) lf_0_51 hW g0 sh_1 (by decide) (by decide) rfl qcu rfl ?_)
      refine wp_of e154 c154_12 (xg_R (pc' := 15) lf_0_262 hW gcu sh_27 (by decide) (by decide) ty_27_1 rfl rfl (fun r1112 q1113 g1114 => ?_))
      refine wp_of e154 c154_15 (rw_iload_n (pc' := 16) (z := a1) rfl rfl ?_)
      refine wp_of e154 c154_16 (xa_I (so := 0) (pc' := 17) hW g1114 sh_29 (by decide) (ty_29 _) (by omega) (by omega) rfl (fun b1115 b1116 => ?_))
      have := ST_at h1096 q1113 (k := (a1.toNat)) (by omega)
      have _tz : e 13 (a1.toNat) = e 13 (y).toNat := by rw [← p2]
      refine wp_of e154 c154_17 (rw_if_ge (p1 := 26) (p2 := 20) (by decide) rfl ⟨b1115, b1116⟩ (fun c1117 => ?_) (fun c1117 => ?_))
      · refine wp_of e154 c154_26 (rw_aload_n (pc' := 27) (v := .ref r0) rfl rfl rfl ?_)
        refine wp_of e154 c154_27 (xg_K (pc' := 30) lf_0_51 hW g0 sh_1 (by decide) (by decide) rfl qcu rfl ?_)
        refine wp_of e154 c154_30 (rw_iload_n (pc' := 31) (z := a1) rfl rfl ?_)
        refine wp_of e154 c154_31 (rw_bipush (pc' := 33) (z := -2) rfl (by decide) ?_)
        refine wp_of e154 c154_33 (xc_V (pc' := 36) (r := cu) (as := [vI a1, vI (-2)]) (st := []) (lm_0_291) rfl rfl (Nat.le_of_ble_eq_true rfl) hW gcu sh_27 (by decide) rfl (by decide) (u_40 (d := e) (w := 0) (y := y) hW gcu ⟨by omega, by omega⟩ ⟨by decide, by decide⟩ (by omega) (by omega) h1094) (fun R1118 T1119 H1120 p1121 => ?_))
        obtain ⟨e1122, w1124, f1125, e1123, p1126⟩ := p1121
        subst e1122
        subst e1123
        have f1128 := f0.tr f1125 rfl
        show wp _ _ 154 36 [(0, .ref r0), (1, vI a1)] [] _ H1120 _
        have u1129 := DC_k p1126
        refine wp_of e154 c154_36 (rw_aload_n (pc' := 37) (v := .ref r0) rfl rfl rfl ?_)
        have k1130 : H1120 r0 3 = H r0 3 := (f1125 r0 3 _ g0 rfl)
        have q1131 : H1120 r0 3 = (ce : Int) := k1130.trans qce
        refine wp_of e154 c154_37 (xg_K (pc' := 40) lf_0_30 w1124 g0 sh_1 (by decide) (by decide) rfl q1131 rfl ?_)
        refine wp_of e154 c154_40 (xc_V (pc' := 43) (r := ce) (as := []) (st := []) (lm_0_93) rfl rfl (Nat.le_of_ble_eq_true rfl) w1124 gce sh_12 (by decide) rfl (by decide) (u_50  w1124 gce) (fun R1132 T1133 H1134 p1135 => ?_))
        obtain ⟨e1136, w1138, f1139, e1137, p1140⟩ := p1135
        subst e1136
        subst e1137
        have f1142 := f1128.tr f1139 rfl
        show wp _ _ 154 43 [(0, .ref r0), (1, vI a1)] [] _ H1134 _
        refine wp_of e154 c154_43 (rw_aload_n (pc' := 44) (v := .ref r0) rfl rfl rfl ?_)
        refine wp_of e154 c154_44 (xc_V (pc' := 47) (r := r0) (as := []) (st := []) (lm_0_151) rfl rfl (Nat.le_of_ble_eq_true rfl) w1138 g0 sh_1 (by decide) rfl (by decide) (u_64  w1138 g0) (fun R1143 T1144 H1145 p1146 => ?_))
        obtain ⟨e1147, w1149, f1150, z1151, e1148, b1152, p1153⟩ := p1146
        subst e1147
        subst e1148
        obtain ⟨a1154, a1155⟩ := p1153
        have f1156 := f1142.tr f1150 rfl
        show wp _ _ 154 47 [(0, .ref r0), (1, vI a1)] [vI z1151] _ H1145 _
        have k1157 : H1145 cu 18 = H cu 18 := ((f1150 cu 18 _ gcu rfl).trans ((f1139 cu 18 _ gcu rfl).trans (f1125 cu 18 _ gcu rfl)))
        have k1158 : H1145 ce 9 = H1134 ce 9 := (f1150 ce 9 _ gce rfl)
        have h1159 : DC T H1145 cu (wq_u e 13 y.toNat 0) := (DC_fr w1138 gcu f1150 rfl (DC_fr w1124 gcu f1139 rfl p1126))
        have h1160 : CS T H1145 cu d 0 := (CS_fr w1138 gcu f1150 rfl (CS_fr w1124 gcu f1139 rfl (CS_fr hW gcu f1125 rfl h1095)))
        exact wp_zreturn e154 c154_47 rfl (by omega) ⟨rfl, w1149, f1156, z1151, rfl, ⟨b1152.1, b1152.2⟩, (Or.inl ⟨by omega, by omega, by omega, by omega, ⟨h1159, h1160, by omega⟩⟩)⟩
      · refine wp_of e154 c154_20 (rw_aload_n (pc' := 21) (v := .ref r0) rfl rfl rfl ?_)
        refine wp_of e154 c154_21 (rw_iconst (pc' := 22) rfl ?_)
        refine wp_of e154 c154_22 (xc_V (pc' := 25) (r := r0) (as := [vI 1]) (st := []) (lm_0_145) rfl rfl (Nat.le_of_ble_eq_true rfl) hW g0 sh_1 (by decide) rfl (by decide) (u_63  hW g0 ⟨by decide, by decide⟩) (fun R1161 T1162 H1163 p1164 => ?_))
        obtain ⟨e1165, w1167, f1168, z1169, e1166, b1170, p1171⟩ := p1164
        subst e1165
        subst e1166
        obtain ⟨a1172, a1173⟩ := p1171
        have f1174 := f0.tr f1168 rfl
        show wp _ _ 154 25 [(0, .ref r0), (1, vI a1)] [vI z1169] _ H1163 _
        have h1175 : CU T H1163 cu e d n := (CU_fr hW gcu f1168 rfl hCU_cu)
        have h1176 : CEN T H1163 ce e d := (CEN_fr hW gce f1168 rfl hCEN_ce)
        exact wp_zreturn e154 c154_25 rfl (by omega) ⟨rfl, w1167, f1174, z1169, rfl, ⟨b1170.1, b1170.2⟩, (Or.inr ⟨by omega, by omega, h1175, h1176⟩)⟩
  · show wp _ _ 154 5 [(0, .ref r0), (1, vI a1)] [vI z1104] _ H _
    refine wp_of e154 c154_5 (rw_if_eq (p1 := 20) (p2 := 8) (by decide) rfl ⟨Int.le_trans (by decide) b1105.1, Int.le_trans b1105.2 (by decide)⟩ (fun c1177 => ?_) (fun c1177 => ?_))
    · refine wp_of e154 c154_20 (rw_aload_n (pc' := 21) (v := .ref r0) rfl rfl rfl ?_)
      refine wp_of e154 c154_21 (rw_iconst (pc' := 22) rfl ?_)
      refine wp_of e154 c154_22 (xc_V (pc' := 25) (r := r0) (as := [vI 1]) (st := []) (lm_0_145) rfl rfl (Nat.le_of_ble_eq_true rfl) hW g0 sh_1 (by decide) rfl (by decide) (u_63  hW g0 ⟨by decide, by decide⟩) (fun R1178 T1179 H1180 p1181 => ?_))
      obtain ⟨e1182, w1184, f1185, z1186, e1183, b1187, p1188⟩ := p1181
      subst e1182
      subst e1183
      obtain ⟨a1189, a1190⟩ := p1188
      have f1191 := f0.tr f1185 rfl
      show wp _ _ 154 25 [(0, .ref r0), (1, vI a1)] [vI z1186] _ H1180 _
      have h1192 : CU T H1180 cu e d n := (CU_fr hW gcu f1185 rfl hCU_cu)
      have h1193 : CEN T H1180 ce e d := (CEN_fr hW gce f1185 rfl hCEN_ce)
      exact wp_zreturn e154 c154_25 rfl (by omega) ⟨rfl, w1184, f1191, z1186, rfl, ⟨b1187.1, b1187.2⟩, (Or.inr ⟨by omega, by omega, h1192, h1193⟩)⟩
    · exfalso
      omega
/-! StrikeAwake.barOfLots(Z)I  -/
abbrev uq_84 (r0 : Nat) (a1 : Int) (cu : Nat) (e : xD) (d : xD) (n : Int) (T : wq_T) (H : wq_H) : Option Value → wq_T → wq_H → Prop := fun r T' H' => T = T' ∧ H = H' ∧ ∃ z : Int, some (vI z) = r ∧ (0 ≤ z ∧ z ≤ 6) ∧ (((z = 0) ∧ (a1 = 1) ∧ (n ≤ 20000)) ∨ ((1 ≤ z ∧ z ≤ 6) ∧ (a1 ≠ 1 ∨ 20000 < n)))
set_option maxHeartbeats 4000000 in
theorem u_84 {kt : Nat → Option mc_E} {T : wq_T} {H : wq_H} {r0 : Nat} {a1 : Int} {cu : Nat} {e : xD} {d : xD} {n : Int} (hW : WT T H) (g0 : T.2.2.2 r0 = some 1) (i1 : 0 ≤ a1 ∧ a1 ≤ 1) (qcu : H r0 6 = (cu : Int)) (gcu : T.2.2.2 cu = some 27) (hCU_cu : CU T H cu e d n) : wpc kt 1 84 [.ref r0, vI a1] T H (uq_84 r0 a1 cu e d n T H) := by
  refine wp_enter e84 (Nat.le_of_ble_eq_true rfl) rfl ?_
  show wp _ _ 84 0 [(0, .ref r0), (1, vI a1)] [] _ H _
  have u1006 := CU_k hCU_cu
  refine wp_of e84 c84_0 (rw_iload_n (pc' := 1) (z := a1) rfl rfl ?_)
  refine wp_of e84 c84_1 (rw_if_ne (p1 := 6) (p2 := 4) (by decide) rfl ⟨Int.le_trans (by decide) i1.1, Int.le_trans i1.2 (by decide)⟩ (fun c1007 => ?_) (fun c1007 => ?_))
  · refine wp_of e84 c84_6 (rw_aload_n (pc' := 7) (v := .ref r0) rfl rfl rfl ?_)
    refine wp_of e84 c84_7 (xg_K (pc' := 10) lf_0_51 hW g0 sh_1 (by decide) (by decide) rfl qcu rfl ?_)
    refine wp_of e84 c84_10 (xg_L (pc' := 13) lf_0_141 hW gcu sh_27 (by decide) (by decide) ty_27_18 rfl rfl (fun b1008 b1009 => ?_))
    refine wp_of e84 c84_13 (rw_ldc2 (pc' := 16) (z := 20000) rfl rfl rfl ?_)
    refine wp_of e84 c84_16 (rw_lcmp (pc' := 17) rfl ⟨b1008, b1009⟩ ⟨by decide, by decide⟩ ?_)
    have b1010 := wq_cmp_b (H cu 18) 20000
    refine wp_of e84 c84_17 (rw_if_le (p1 := 24) (p2 := 20) (by decide) rfl ⟨by omega, by omega⟩ (fun c1011 => ?_) (fun c1011 => ?_))
    · refine wp_of e84 c84_24 (rw_iconst (pc' := 25) rfl ?_)
      exact wp_ireturn e84 c84_25 rfl ⟨rfl, rfl, 0, rfl, ⟨by decide, by decide⟩, (Or.inl ⟨by omega, by omega, by omega⟩)⟩
    · refine wp_of e84 c84_20 (rw_iconst (pc' := 21) rfl ?_)
      refine wp_of e84 c84_21 (rw_goto (p1 := 25) (by decide) ?_)
      exact wp_ireturn e84 c84_25 rfl ⟨rfl, rfl, 3, rfl, ⟨by decide, by decide⟩, (Or.inr ⟨by omega, by omega⟩)⟩
  · refine wp_of e84 c84_4 (rw_iconst (pc' := 5) rfl ?_)
    exact wp_ireturn e84 c84_5 rfl ⟨rfl, rfl, 1, rfl, ⟨by decide, by decide⟩, (Or.inr ⟨by omega, by omega⟩)⟩
/-! StrikeAwake$Parish.isPicture(J)Z  -/
abbrev uq_162 (r0 : Nat) (a1 : Int) (e : xD) (d : xD) (n : Int) (T : wq_T) (H : wq_H) : Option Value → wq_T → wq_H → Prop := fun r T' H' => T = T' ∧ H = H' ∧ ∃ z : Int, some (vI z) = r ∧ (0 ≤ z ∧ z ≤ 1) ∧ (((z = 1) ∧ (0 ≤ a1 ∧ wdv (d 0 3).toNat a1 ≤ 20000) ∧ (xpd d a1 0 (d 0 3).toNat = 0)) ∨ ((z = 0) ∧ (a1 < 0 ∨ 0 < xpd d a1 0 (d 0 3).toNat ∨ 20000 < wdv (d 0 3).toNat a1)))
set_option maxHeartbeats 4000000 in
theorem u_162 {kt : Nat → Option mc_E} {T : wq_T} {H : wq_H} {r0 : Nat} {a1 : Int} {e : xD} {d : xD} {n : Int} (hW : WT T H) (g0 : T.2.2.2 r0 = some 27) (i1 : (-9223372036854775808) ≤ a1 ∧ a1 ≤ 9223372036854775807) (p0 : e 0 3 = d 0 3) (hCU_r0 : CU T H r0 e d n) : wpc kt 1 162 [.ref r0, vL a1] T H (uq_162 r0 a1 e d n T H) := by
  refine wp_enter e162 (Nat.le_of_ble_eq_true rfl) rfl ?_
  show wp _ _ 162 0 [(0, .ref r0), (1, vL a1)] [] _ H _
  have u1046 := CU_k hCU_r0
  refine wp_of e162 c162_0 (rw_lload_n (pc' := 1) (z := a1) rfl rfl ?_)
  refine wp_of e162 c162_1 (rw_lstore_n (pc' := 2) (z := a1) (L' := [(3, vL a1), (0, .ref r0), (1, vL a1)]) rfl rfl rfl ?_)
  refine wp_of e162 c162_2 (rw_aload_n (pc' := 3) (v := .ref r0) rfl rfl rfl ?_)
  refine wp_of e162 c162_3 (xg_I (pc' := 6) lf_7_50 hW g0 sh_27 (by decide) (by decide) ty_27_10 rfl rfl (fun b1047 b1048 => ?_))
  refine wp_of e162 c162_6 (rw_iconst (pc' := 7) rfl ?_)
  refine wp_of e162 c162_7 (rw_isub (pc' := 8) rfl ?_)
  refine wp_of e162 c162_8 (rw_istore (pc' := 10) (z := (H r0 10) - 1) (L' := [(5, vI ((H r0 10) - 1)), (3, vL a1), (0, .ref r0), (1, vL a1)]) rfl rfl rfl ?_)
  have lp1068 : ∀ (n1069 : Nat) (v1071 : Int) (v1072 : Int), ((-1) ≤ v1071 ∧ v1071 ≤ 5) → ((-9223372036854775808) ≤ v1072 ∧ v1072 ≤ 9223372036854775807) → (v1071 ≤ d 0 3 - 1) → (a1 < 0 ∨ 0 ≤ v1072) → (a1 < 0 ∨ v1072 = wdv (d 0 3 - 1 - v1071).toNat a1) → (a1 < 0 ∨ xpd d a1 (v1071 + 1).toNat ((d 0 3).toNat - (v1071 + 1).toNat) = 0) → (v1071 - (-1)).toNat = n1069 → wp kt 0 162 10 [(5, vI v1071), (3, vL v1072), (0, .ref r0), (1, vL a1)] [] T H (uq_162 r0 a1 e d n T H) := by
    intro n1069
    induction n1069 using Nat.strongRecOn with
    | _ n1069 ih1070 =>
      intro v1071 v1072 b1075 b1076 x1078 x1079 x1080 x1081 m1077
      have _x : v1071 = -1 → a1 < 0 ∨ (v1072 = wdv (d 0 3).toNat a1 ∧ xpd d a1 0 (d 0 3).toNat = 0) := fun q => by
        rcases ‹a1 < 0 ∨ v1072 = wdv (d 0 3 - 1 - v1071).toNat a1› with h | h
        · exact Or.inl h
        · rcases ‹a1 < 0 ∨ xpd d a1 (v1071 + 1).toNat ((d 0 3).toNat - (v1071 + 1).toNat) = 0› with k | k
          · exact Or.inl k
          · rw [q] at k
            exact Or.inr ⟨wdv_z h q, k⟩
      refine wp_of e162 c162_10 (rw_iload (pc' := 12) (z := v1071) rfl rfl ?_)
      refine wp_of e162 c162_12 (rw_if_lt (p1 := 60) (p2 := 15) (by decide) rfl ⟨Int.le_trans (by decide) b1075.1, Int.le_trans b1075.2 (by decide)⟩ (fun c1082 => ?_) (fun c1082 => ?_))
      · refine wp_of e162 c162_60 (rw_lload_n (pc' := 61) (z := a1) rfl rfl ?_)
        refine wp_of e162 c162_61 (rw_lconst (pc' := 62) (z := 0) rfl rfl ?_)
        refine wp_of e162 c162_62 (rw_lcmp (pc' := 63) rfl ⟨i1.1, i1.2⟩ ⟨by decide, by decide⟩ ?_)
        have b1083 := wq_cmp_b a1 0
        refine wp_of e162 c162_63 (rw_if_lt (p1 := 78) (p2 := 66) (by decide) rfl ⟨by omega, by omega⟩ (fun c1084 => ?_) (fun c1084 => ?_))
        · refine wp_of e162 c162_78 (rw_iconst (pc' := 79) rfl ?_)
          exact wp_zreturn e162 c162_79 rfl (by omega) ⟨rfl, rfl, 0, rfl, ⟨by decide, by decide⟩, (Or.inr ⟨by omega, by omega⟩)⟩
        · refine wp_of e162 c162_66 (rw_lload_n (pc' := 67) (z := v1072) rfl rfl ?_)
          refine wp_of e162 c162_67 (rw_ldc2 (pc' := 70) (z := 20000) rfl rfl rfl ?_)
          refine wp_of e162 c162_70 (rw_lcmp (pc' := 71) rfl ⟨b1076.1, b1076.2⟩ ⟨by decide, by decide⟩ ?_)
          have b1085 := wq_cmp_b v1072 20000
          refine wp_of e162 c162_71 (rw_if_gt (p1 := 78) (p2 := 74) (by decide) rfl ⟨by omega, by omega⟩ (fun c1086 => ?_) (fun c1086 => ?_))
          · refine wp_of e162 c162_78 (rw_iconst (pc' := 79) rfl ?_)
            exact wp_zreturn e162 c162_79 rfl (by omega) ⟨rfl, rfl, 0, rfl, ⟨by decide, by decide⟩, (Or.inr ⟨by omega, by omega⟩)⟩
          · refine wp_of e162 c162_74 (rw_iconst (pc' := 75) rfl ?_)
            refine wp_of e162 c162_75 (rw_goto (p1 := 79) (by decide) ?_)
            exact wp_zreturn e162 c162_79 rfl (by omega) ⟨rfl, rfl, 1, rfl, ⟨by decide, by decide⟩, (Or.inl ⟨by omega, by omega, by omega⟩)⟩
      · refine wp_of e162 c162_15 (rw_lload_n (pc' := 16) (z := v1072) rfl rfl ?_)
        refine wp_of e162 c162_16 (rw_ldc2 (pc' := 19) (z := 40) rfl rfl rfl ?_)
        refine wp_of e162 c162_19 (rw_lrem (pc' := 20) rfl ⟨by omega, by omega⟩ (by omega) ?_)
        obtain ⟨v1087, e1088⟩ : ∃ x : Int, x = wl_rem v1072 40 := ⟨_, rfl⟩
        rw [← e1088]
        have b1089 : -9223372036854775808 ≤ v1087 ∧ v1087 ≤ 9223372036854775807 := by
          rw [e1088]
          exact wL_rem _ _
        have b1090 : v1072 < 0 ∨ v1087 = v1072 % 40 := by
          rw [e1088]
          exact wl_rem_or ⟨by omega, by omega⟩ ⟨by omega, by omega⟩
        refine wp_of e162 c162_20 (rw_lstore (pc' := 22) (z := v1087) (L' := [(6, vL v1087), (5, vI v1071), (3, vL v1072), (0, .ref r0), (1, vL a1)]) rfl rfl rfl ?_)
        refine wp_of e162 c162_22 (rw_lload (pc' := 24) (z := v1087) rfl rfl ?_)
        refine wp_of e162 c162_24 (rw_lconst (pc' := 25) (z := 0) rfl rfl ?_)
        refine wp_of e162 c162_25 (rw_lcmp (pc' := 26) rfl ⟨b1089.1, b1089.2⟩ ⟨by decide, by decide⟩ ?_)
        have b1091 := wq_cmp_b v1087 0
        refine wp_of e162 c162_26 (rw_if_eq (p1 := 48) (p2 := 29) (by decide) rfl ⟨by omega, by omega⟩ (fun c1092 => ?_) (fun c1092 => ?_))
        · have _i : a1 < 0 ∨ v1072 = wdv (d 0 3 - 1 - v1071).toNat a1 := by
            rcases ‹a1 < 0 ∨ v1072 = wdv (d 0 3 - 1 - v1071).toNat a1› with h | h
            · exact Or.inl h
            · exact Or.inr h
          have _s := xpd_s (d := d) (a := a1) (v := v1087) (x := v1072) (i := v1071) (by omega) (by omega) _i (by omega) (by omega) (by assumption)
          refine wp_of e162 c162_48 (rw_lload_n (pc' := 49) (z := v1072) rfl rfl ?_)
          refine wp_of e162 c162_49 (rw_ldc2 (pc' := 52) (z := 40) rfl rfl rfl ?_)
          refine wp_of e162 c162_52 (rw_ldiv (pc' := 53) rfl ⟨by omega, by omega⟩ (by omega) ?_)
          obtain ⟨v1093, e1094⟩ : ∃ x : Int, x = wl_div v1072 40 := ⟨_, rfl⟩
          rw [← e1094]
          have b1095 : -9223372036854775808 ≤ v1093 ∧ v1093 ≤ 9223372036854775807 := by
            rw [e1094]
            exact wL_div _ _
          have b1096 : v1072 < 0 ∨ v1093 = v1072 / 40 := by
            rw [e1094]
            exact wl_div_or ⟨by omega, by omega⟩ ⟨by omega, by omega⟩
          refine wp_of e162 c162_53 (rw_lstore_n (pc' := 54) (z := v1093) (L' := [(3, vL v1093), (6, vL v1087), (5, vI v1071), (0, .ref r0), (1, vL a1)]) rfl rfl rfl ?_)
          refine wp_of e162 c162_54 (rw_iinc (pc' := 57) (z := v1071) (L' := [(5, vI (v1071 + (-1))), (3, vL v1093), (6, vL v1087), (0, .ref r0), (1, vL a1)]) rfl rfl rfl rfl ?_)
          refine wp_of e162 c162_57 (rw_goto (p1 := 10) (by decide) ?_)
          exact wp_lc (ks := [5, 3, 6, 0, 1]) (wl_c rfl (wl_c rfl (wl_c rfl (wl_c rfl wl_n)))) rfl (by decide) (ih1070 _ (by omega) (v1071 + (-1)) v1093 ⟨by omega, by omega⟩ ⟨b1095.1, b1095.2⟩ (by omega) (by omega) (by by_cases q : a1 < 0; exact Or.inl q; exact Or.inr (wdv_n (by omega) (_i.resolve_left q) (by omega))) (by rw [show (v1071 + (-1) + 1).toNat = (v1071).toNat by omega]; exact _s) rfl)
        · refine wp_of e162 c162_29 (rw_lload (pc' := 31) (z := v1087) rfl rfl ?_)
          refine wp_of e162 c162_31 (rw_aload_n (pc' := 32) (v := .ref r0) rfl rfl rfl ?_)
          refine wp_of e162 c162_32 (xg_R (pc' := 35) lf_7_11 hW g0 sh_27 (by decide) (by decide) ty_27_0 rfl rfl (fun r1097 q1098 g1099 => ?_))
          refine wp_of e162 c162_35 (rw_iload (pc' := 37) (z := v1071) rfl rfl ?_)
          refine wp_of e162 c162_37 (xa_R (pc' := 38) (by decide) hW g1099 sh_28 (by decide) (ty_28 _) (by omega) (Int.lt_of_le_of_lt b1075.2 (by decide)) rfl (fun r1100 q1101 g1102 => ?_))
          have _z := CS_at (hCU_r0).2.1 q1098 q1101 (k := (v1071).toNat) (by omega) (by omega)
          have _l := @xsp_len d (v1071).toNat (hCU_r0).2.1.1
          have _n := _z.1.1
          have _b := xpr_5 (hCU_r0).2.1.1 (by omega) (v1071).toNat
          have _w : H r1100 17 = xpr d ((v1071).toNat + 1) ((d 0 3).toNat - ((v1071).toNat + 1)) := _z.2.trans (wq_w_id ⟨by omega, by omega⟩)
          refine wp_of e162 c162_38 (xg_I (pc' := 41) lf_7_110 hW g1102 sh_35 (by decide) (by decide) ty_35_15 rfl rfl (fun b1103 b1104 => ?_))
          refine wp_of e162 c162_41 (rw_i2l (pc' := 42) rfl ⟨Int.le_trans (by decide) b1103, Int.le_trans b1104 (by decide)⟩ ?_)
          refine wp_of e162 c162_42 (rw_lcmp (pc' := 43) rfl ⟨b1089.1, b1089.2⟩ ⟨Int.le_trans (by decide) b1103, Int.le_trans b1104 (by decide)⟩ ?_)
          have b1105 := wq_cmp_b v1087 (H r1100 15)
          refine wp_of e162 c162_43 (rw_if_lt (p1 := 48) (p2 := 46) (by decide) rfl ⟨by omega, by omega⟩ (fun c1106 => ?_) (fun c1106 => ?_))
          · have _i : a1 < 0 ∨ v1072 = wdv (d 0 3 - 1 - v1071).toNat a1 := by
              rcases ‹a1 < 0 ∨ v1072 = wdv (d 0 3 - 1 - v1071).toNat a1› with h | h
              · exact Or.inl h
              · exact Or.inr h
            have _s := xpd_s (d := d) (a := a1) (v := v1087) (x := v1072) (i := v1071) (by omega) (by omega) _i (by omega) (by omega) (by assumption)
            refine wp_of e162 c162_48 (rw_lload_n (pc' := 49) (z := v1072) rfl rfl ?_)
            refine wp_of e162 c162_49 (rw_ldc2 (pc' := 52) (z := 40) rfl rfl rfl ?_)
            refine wp_of e162 c162_52 (rw_ldiv (pc' := 53) rfl ⟨by omega, by omega⟩ (by omega) ?_)
            obtain ⟨v1107, e1108⟩ : ∃ x : Int, x = wl_div v1072 40 := ⟨_, rfl⟩
            rw [← e1108]
            have b1109 : -9223372036854775808 ≤ v1107 ∧ v1107 ≤ 9223372036854775807 := by
              rw [e1108]
              exact wL_div _ _
            have b1110 : v1072 < 0 ∨ v1107 = v1072 / 40 := by
              rw [e1108]
              exact wl_div_or ⟨by omega, by omega⟩ ⟨by omega, by omega⟩
            refine wp_of e162 c162_53 (rw_lstore_n (pc' := 54) (z := v1107) (L' := [(3, vL v1107), (6, vL v1087), (5, vI v1071), (0, .ref r0), (1, vL a1)]) rfl rfl rfl ?_)
            refine wp_of e162 c162_54 (rw_iinc (pc' := 57) (z := v1071) (L' := [(5, vI (v1071 + (-1))), (3, vL v1107), (6, vL v1087), (0, .ref r0), (1, vL a1)]) rfl rfl rfl rfl ?_)
            refine wp_of e162 c162_57 (rw_goto (p1 := 10) (by decide) ?_)
            exact wp_lc (ks := [5, 3, 6, 0, 1]) (wl_c rfl (wl_c rfl (wl_c rfl (wl_c rfl wl_n)))) rfl (by decide) (ih1070 _ (by omega) (v1071 + (-1)) v1107 ⟨by omega, by omega⟩ ⟨b1109.1, b1109.2⟩ (by omega) (by omega) (by by_cases q : a1 < 0; exact Or.inl q; exact Or.inr (wdv_n (by omega) (_i.resolve_left q) (by omega))) (by rw [show (v1071 + (-1) + 1).toNat = (v1071).toNat by omega]; exact _s) rfl)
          · have _i : a1 < 0 ∨ v1072 = wdv (d 0 3 - 1 - v1071).toNat a1 := by
              rcases ‹a1 < 0 ∨ v1072 = wdv (d 0 3 - 1 - v1071).toNat a1› with h | h
              · exact Or.inl h
              · exact Or.inr h
            have _s := xpd_n (d := d) (a := a1) (v := v1087) (x := v1072) (i := v1071) (by omega) (by omega) _i (by omega) (by omega) (by omega)
            refine wp_of e162 c162_46 (rw_iconst (pc' := 47) rfl ?_)
            exact wp_zreturn e162 c162_47 rfl (by omega) ⟨rfl, rfl, 0, rfl, ⟨by decide, by decide⟩, (Or.inr ⟨by omega, by omega⟩)⟩
  exact wp_lc (ks := [5, 3, 0, 1]) (wl_c rfl (wl_c rfl (wl_c rfl (wl_c rfl wl_n)))) rfl (by decide) (lp1068 _ ((H r0 10) - 1) a1 ⟨by omega, by omega⟩ ⟨i1.1, i1.2⟩ (by omega) (by omega) (Or.inr (wdv_1 (by omega))) (Or.inr (xpd_e (by omega))) rfl)
/-! StrikeAwake$Parish.takePicture(J)V  -/
abbrev uq_163 (r0 : Nat) (a1 : Int) (d : xD) (nY : Int) (gY : Nat → Int) (cY : Int) (T : wq_T) (H : wq_H) : Option Value → wq_T → wq_H → Prop := fun r T' H' => T = T' ∧ WT T H' ∧ wfr [(27, 17), (35, 16)] T H H' ∧ none = r ∧ ((CY T H' r0 nY (xdg d a1) (wdv (d 0 3).toNat a1)))
set_option maxHeartbeats 4000000 in
theorem u_163 {kt : Nat → Option mc_E} {T : wq_T} {H : wq_H} {r0 : Nat} {a1 : Int} {d : xD} {nY : Int} {gY : Nat → Int} {cY : Int} (hW : WT T H) (g0 : T.2.2.2 r0 = some 27) (i1 : 0 ≤ a1 ∧ a1 ≤ 9223372036854775807) (p0 : H r0 10 = d 0 3) (p1 : wdv (d 0 3).toNat a1 ≤ 20000) (p2 : nY = d 0 3) (hCY_r0 : CY T H r0 nY gY cY) (hDD_r0 : DD T H r0 ) : wpc kt 1 163 [.ref r0, vL a1] T H (uq_163 r0 a1 d nY gY cY T H) := by
  refine wp_enter e163 (Nat.le_of_ble_eq_true rfl) rfl ?_
  have f0 : wfr [(27, 17), (35, 16)] T H H := wfr.rf
  show wp _ _ 163 0 [(0, .ref r0), (1, vL a1)] [] _ H _
  have b1065 : 0 ≤ H r0 10 ∧ H r0 10 ≤ 6 := hW.box g0 (n := 19) rfl (by decide) rfl
  refine wp_of e163 c163_0 (rw_lload_n (pc' := 1) (z := a1) rfl rfl ?_)
  refine wp_of e163 c163_1 (rw_lstore_n (pc' := 2) (z := a1) (L' := [(3, vL a1), (0, .ref r0), (1, vL a1)]) rfl rfl rfl ?_)
  refine wp_of e163 c163_2 (rw_aload_n (pc' := 3) (v := .ref r0) rfl rfl rfl ?_)
  refine wp_of e163 c163_3 (xg_I (pc' := 6) lf_7_50 hW g0 sh_27 (by decide) (by decide) ty_27_10 rfl rfl (fun b1066 b1067 => ?_))
  refine wp_of e163 c163_6 (rw_iconst (pc' := 7) rfl ?_)
  refine wp_of e163 c163_7 (rw_isub (pc' := 8) rfl ?_)
  refine wp_of e163 c163_8 (rw_istore (pc' := 10) (z := (H r0 10) - 1) (L' := [(5, vI ((H r0 10) - 1)), (3, vL a1), (0, .ref r0), (1, vL a1)]) rfl rfl rfl ?_)
  have lp1104 : ∀ (n1105 : Nat) (v1107 : Int) (v1108 : Int) (H1109 : wq_H), WT T H1109 → wfr [(35, 16)] T H H1109 → ((-1) ≤ v1107 ∧ v1107 ≤ 5) → (0 ≤ v1108 ∧ v1108 ≤ 9223372036854775807) → CGi T H1109 r0 (v1107 + 1) (d 0 3) (xdg d a1) → (v1107 ≤ d 0 3 - 1) → (v1108 = wdv (d 0 3 - 1 - v1107).toNat a1) → (v1107 - (-1)).toNat = n1105 → wp kt 0 163 10 [(5, vI v1107), (3, vL v1108), (0, .ref r0)] [] T H1109 (uq_163 r0 a1 d nY gY cY T H) := by
    intro n1105
    induction n1105 using Nat.strongRecOn with
    | _ n1105 ih1106 =>
      intro v1107 v1108 H1109 w1110 f1111 b1112 b1113 h1115 x1116 x1117 m1114
      have f1118 := f0.tr f1111 rfl
      have k1119 : H1109 r0 10 = H r0 10 := (f1111 r0 10 _ g0 rfl)
      have _x : v1107 = -1 → v1108 = wdv (d 0 3).toNat a1 := fun q => wdv_z ‹v1108 = wdv (d 0 3 - 1 - v1107).toNat a1› q
      refine wp_of e163 c163_10 (rw_iload (pc' := 12) (z := v1107) rfl rfl ?_)
      refine wp_of e163 c163_12 (rw_if_lt (p1 := 43) (p2 := 15) (by decide) rfl ⟨Int.le_trans (by decide) b1112.1, Int.le_trans b1112.2 (by decide)⟩ (fun c1120 => ?_) (fun c1120 => ?_))
      · have h1121 : CG T H1109 r0 (d 0 3) (xdg d a1) := CGi_all h1115 (by omega)
        refine wp_of e163 c163_43 (rw_aload_n (pc' := 44) (v := .ref r0) rfl rfl rfl ?_)
        refine wp_of e163 c163_44 (rw_lload_n (pc' := 45) (z := v1108) rfl rfl ?_)
        refine wp_of e163 c163_45 (rw_l2i (pc' := 46) rfl ?_)
        obtain ⟨v1122, e1123⟩ : ∃ x : Int, x = wq_w v1108 := ⟨_, rfl⟩
        rw [← e1123]
        have b1124 : -2147483648 ≤ v1122 ∧ v1122 ≤ 2147483647 := by
          rw [e1123]
          exact wI_w _
        have b1125 : (-2147483648 ≤ v1108 ∧ v1108 ≤ 2147483647) → v1122 = v1108 := by
          rw [e1123]
          exact fun h => wq_w_id h
        refine wp_of e163 c163_46 (xp_I (pc' := 49) lf_7_68 w1110 g0 sh_27 (by decide) (by decide) ty_27_17 rfl rfl (by omega) (b1124.2) ⟨b1124.1, b1124.2⟩ rfl (fun H1126 e1127 w1128 => ?_))
        have f1129 := f1118.put' e1127 g0 rfl
        have k1130 : H1126 r0 17 = v1122 := wq_u_s e1127
        have h1131 : CG T H1126 r0 (d 0 3) (xdg d a1) := (CG_fr w1110 g0 ((wfr.rf (l := [(27, 17)])).put' e1127 g0 rfl) rfl h1121)
        exact wp_return e163 c163_49 rfl ⟨rfl, w1128, f1129, rfl, (⟨by rw [p2]; exact h1131, by omega⟩)⟩
      · refine wp_of e163 c163_15 (rw_aload_n (pc' := 16) (v := .ref r0) rfl rfl rfl ?_)
        refine wp_of e163 c163_16 (xg_R (pc' := 19) lf_7_11 w1110 g0 sh_27 (by decide) (by decide) ty_27_0 rfl rfl (fun r1132 q1133 g1134 => ?_))
        refine wp_of e163 c163_19 (rw_iload (pc' := 21) (z := v1107) rfl rfl ?_)
        refine wp_of e163 c163_21 (xa_R (pc' := 22) (by decide) w1110 g1134 sh_28 (by decide) (ty_28 _) (by omega) (Int.lt_of_le_of_lt b1112.2 (by decide)) rfl (fun r1135 q1136 g1137 => ?_))
        refine wp_of e163 c163_22 (rw_lload_n (pc' := 23) (z := v1108) rfl rfl ?_)
        refine wp_of e163 c163_23 (rw_ldc2 (pc' := 26) (z := 40) rfl rfl rfl ?_)
        refine wp_of e163 c163_26 (rw_lrem (pc' := 27) rfl ⟨by omega, by omega⟩ (by omega) ?_)
        obtain ⟨v1138, e1139⟩ : ∃ x : Int, x = wl_rem v1108 40 := ⟨_, rfl⟩
        rw [← e1139]
        have b1140 : v1138 = v1108 % 40 := by
          rw [e1139]
          exact wl_rem_e ⟨by omega, by omega⟩ ⟨by omega, by omega⟩
        refine wp_of e163 c163_27 (rw_l2i (pc' := 28) rfl ?_)
        obtain ⟨v1141, e1142⟩ : ∃ x : Int, x = wq_w v1138 := ⟨_, rfl⟩
        rw [← e1142]
        have b1143 : v1141 = v1138 := by
          rw [e1142]
          exact wq_w_id ⟨by omega, by omega⟩
        have h1144 : DD T H1109 r0  := (DD_fr hW g0 f1111 rfl hDD_r0)
        refine wp_of e163 c163_28 (xp_I (pc' := 31) lf_7_127 w1110 g1137 sh_35 (by decide) (by decide) ty_35_16 rfl rfl (by omega) (by omega) ⟨by omega, by omega⟩ rfl (fun H1145 e1146 w1147 => ?_))
        have f1148 := f1118.put' e1146 g1137 rfl
        have f1149 := f1111.put' e1146 g1137 rfl
        have k1150 : H1145 r1135 16 = v1141 := wq_u_s e1146
        have h1151 : CGi T H1145 r0 v1107 (d 0 3) (xdg d a1) := CGi_put h1144 q1133 g1134 g0 q1136 g1137 (k := (v1107).toNat) (by omega) (by omega) e1146 (by omega) (xdg_e (by omega) (by omega) (by assumption) (by omega)) h1115
        refine wp_of e163 c163_31 (rw_lload_n (pc' := 32) (z := v1108) rfl rfl ?_)
        refine wp_of e163 c163_32 (rw_ldc2 (pc' := 35) (z := 40) rfl rfl rfl ?_)
        refine wp_of e163 c163_35 (rw_ldiv (pc' := 36) rfl ⟨by omega, by omega⟩ (by omega) ?_)
        obtain ⟨v1152, e1153⟩ : ∃ x : Int, x = wl_div v1108 40 := ⟨_, rfl⟩
        rw [← e1153]
        have b1154 : v1152 = v1108 / 40 := by
          rw [e1153]
          exact wl_div_e ⟨by omega, by omega⟩ ⟨by omega, by omega⟩
        refine wp_of e163 c163_36 (rw_lstore_n (pc' := 37) (z := v1152) (L' := [(3, vL v1152), (5, vI v1107), (0, .ref r0)]) rfl rfl rfl ?_)
        have h1155 : CGi T H1145 r0 ((v1107 + (-1)) + 1) (d 0 3) (xdg d a1) := by rw [show (v1107 + (-1)) + 1 = v1107 by omega]; exact h1151
        refine wp_of e163 c163_37 (rw_iinc (pc' := 40) (z := v1107) (L' := [(5, vI (v1107 + (-1))), (3, vL v1152), (0, .ref r0)]) rfl rfl rfl rfl ?_)
        refine wp_of e163 c163_40 (rw_goto (p1 := 10) (by decide) ?_)
        have k1156 : H1145 r0 10 = H1109 r0 10 := (wq_u_t e1146 g1137 g0 rfl 10)
        exact wp_lc (ks := [5, 3, 0]) (wl_c rfl (wl_c rfl (wl_c rfl wl_n))) rfl (by decide) (ih1106 _ (by omega) (v1107 + (-1)) v1152 H1145 w1147 f1149 ⟨by omega, by omega⟩ ⟨by omega, by omega⟩ h1155 (by omega) (wdv_n (by omega) (by assumption) (by omega)) rfl)
  have h1157 : CGi T H r0 (((H r0 10) - 1) + 1) (d 0 3) (xdg d a1) := CGi_0 (by omega)
  exact wp_lc (ks := [5, 3, 0, 1]) (wl_c rfl (wl_c rfl (wl_c rfl wl_n))) rfl (by decide) (lp1104 _ ((H r0 10) - 1) a1 H hW wfr.rf ⟨by omega, by omega⟩ ⟨i1.1, i1.2⟩ h1157 (by omega) (wdv_1 (by omega)) rfl)
/-! StrikeAwake.restore(J)Z  -/
abbrev uq_161 (r0 : Nat) (a1 : Int) (cu : Nat) (e : xD) (d : xD) (n : Int) (nY : Int) (gY : Nat → Int) (cY : Int) (T : wq_T) (H : wq_H) : Option Value → wq_T → wq_H → Prop := fun r T' H' => T = T' ∧ WT T H' ∧ wfr [(27, 17), (35, 16), (1, 10)] T H H' ∧ ∃ z : Int, some (vI z) = r ∧ (0 ≤ z ∧ z ≤ 1) ∧ (((z = 1) ∧ (H r0 8 = 1 ∧ 0 ≤ a1 ∧ wdv (d 0 3).toNat a1 ≤ 20000) ∧ (xpd d a1 0 (d 0 3).toNat = 0) ∧ (SG d (xdg d a1)) ∧ CY T H' cu nY (xdg d a1) (wdv (d 0 3).toNat a1)) ∨ ((z = 0) ∧ (H r0 8 = 0 ∨ a1 < 0 ∨ 0 < xpd d a1 0 (d 0 3).toNat ∨ 20000 < wdv (d 0 3).toNat a1) ∧ CY T H' cu nY gY cY))
set_option maxHeartbeats 4000000 in
theorem u_161 {kt : Nat → Option mc_E} {T : wq_T} {H : wq_H} {r0 : Nat} {a1 : Int} {cu : Nat} {e : xD} {d : xD} {n : Int} {nY : Int} {gY : Nat → Int} {cY : Int} (hW : WT T H) (g0 : T.2.2.2 r0 = some 1) (i1 : (-9223372036854775808) ≤ a1 ∧ a1 ≤ 9223372036854775807) (qcu : H r0 6 = (cu : Int)) (gcu : T.2.2.2 cu = some 27) (p0 : e 0 3 = d 0 3) (p1 : e 0 0 = d 0 0) (p2 : nY = d 0 3) (hCU_cu : CU T H cu e d n) (hCY_cu : CY T H cu nY gY cY) (hDD_cu : DD T H cu ) : wpc kt 2 161 [.ref r0, vL a1] T H (uq_161 r0 a1 cu e d n nY gY cY T H) := by
  refine wp_enter e161 (Nat.le_of_ble_eq_true rfl) rfl ?_
  have f0 : wfr [(27, 17), (35, 16), (1, 10)] T H H := wfr.rf
  show wp _ _ 161 0 [(0, .ref r0), (1, vL a1)] [] _ H _
  have u1074 := CU_k hCU_cu
  have b1075 : 0 ≤ H r0 8 ∧ H r0 8 ≤ 1 := hW.box g0 (n := 13) rfl (by decide) rfl
  refine wp_of e161 c161_0 (rw_aload_n (pc' := 1) (v := .ref r0) rfl rfl rfl ?_)
  refine wp_of e161 c161_1 (xg_I (pc' := 4) lf_0_58 hW g0 sh_1 (by decide) (by decide) ty_1_8 rfl rfl (fun b1076 b1077 => ?_))
  refine wp_of e161 c161_4 (rw_if_ne (p1 := 13) (p2 := 7) (by decide) rfl ⟨Int.le_trans (by decide) b1076, Int.le_trans b1077 (by decide)⟩ (fun c1078 => ?_) (fun c1078 => ?_))
  · refine wp_of e161 c161_13 (rw_aload_n (pc' := 14) (v := .ref r0) rfl rfl rfl ?_)
    refine wp_of e161 c161_14 (xg_K (pc' := 17) lf_0_51 hW g0 sh_1 (by decide) (by decide) rfl qcu rfl ?_)
    refine wp_of e161 c161_17 (rw_lload_n (pc' := 18) (z := a1) rfl rfl ?_)
    refine wp_of e161 c161_18 (xc_V (pc' := 21) (r := cu) (as := [vL a1]) (st := []) (lm_0_309) rfl rfl (Nat.le_of_ble_eq_true rfl) hW gcu sh_27 (by decide) rfl (by decide) (u_162 (e := e) (d := d) (n := n) hW gcu ⟨i1.1, i1.2⟩ (by omega) hCU_cu) (fun R1079 T1080 H1081 p1082 => ?_))
    obtain ⟨e1083, e1085, z1086, e1084, b1087, p1088⟩ := p1082
    subst e1083
    subst e1084
    subst e1085
    rcases p1088 with ⟨a1089, a1090, a1091⟩ | ⟨a1092, a1093⟩
    · show wp _ _ 161 21 [(0, .ref r0), (1, vL a1)] [vI z1086] _ H _
      refine wp_of e161 c161_21 (rw_if_ne (p1 := 30) (p2 := 24) (by decide) rfl ⟨Int.le_trans (by decide) b1087.1, Int.le_trans b1087.2 (by decide)⟩ (fun c1094 => ?_) (fun c1094 => ?_))
      · have _w : wdv (H cu 10).toNat a1 = wdv (d 0 3).toNat a1 := by rw [show H cu 10 = d 0 3 by omega]
        refine wp_of e161 c161_30 (rw_aload_n (pc' := 31) (v := .ref r0) rfl rfl rfl ?_)
        refine wp_of e161 c161_31 (xg_K (pc' := 34) lf_0_51 hW g0 sh_1 (by decide) (by decide) rfl qcu rfl ?_)
        refine wp_of e161 c161_34 (rw_lload_n (pc' := 35) (z := a1) rfl rfl ?_)
        refine wp_of e161 c161_35 (xc_V (pc' := 38) (r := cu) (as := [vL a1]) (st := []) (lm_0_313) rfl rfl (Nat.le_of_ble_eq_true rfl) hW gcu sh_27 (by decide) rfl (by decide) (u_163 (d := d) (nY := nY) (gY := gY) (cY := cY) hW gcu ⟨by omega, i1.2⟩ (by omega) (by omega) (by omega) hCY_cu hDD_cu) (fun R1095 T1096 H1097 p1098 => ?_))
        obtain ⟨e1099, w1101, f1102, e1100, p1103⟩ := p1098
        subst e1099
        subst e1100
        have f1105 := f0.tr f1102 rfl
        show wp _ _ 161 38 [(0, .ref r0), (1, vL a1)] [] _ H1097 _
        refine wp_of e161 c161_38 (rw_aload_n (pc' := 39) (v := .ref r0) rfl rfl rfl ?_)
        refine wp_of e161 c161_39 (xc_V (pc' := 42) (r := r0) (as := []) (st := []) (lm_0_151) rfl rfl (Nat.le_of_ble_eq_true rfl) w1101 g0 sh_1 (by decide) rfl (by decide) (u_64  w1101 g0) (fun R1106 T1107 H1108 p1109 => ?_))
        obtain ⟨e1110, w1112, f1113, z1114, e1111, b1115, p1116⟩ := p1109
        subst e1110
        subst e1111
        obtain ⟨a1117, a1118⟩ := p1116
        have f1119 := f1105.tr f1113 rfl
        show wp _ _ 161 42 [(0, .ref r0), (1, vL a1)] [vI z1114] _ H1108 _
        have h1120 : CY T H1108 cu nY (xdg d a1) (wdv (d 0 3).toNat a1) := (CY_fr w1101 gcu f1113 rfl p1103)
        exact wp_zreturn e161 c161_42 rfl (by omega) ⟨rfl, w1112, f1119, z1114, rfl, ⟨b1115.1, b1115.2⟩, (Or.inl ⟨by omega, by omega, by omega, SG_im (by omega), h1120⟩)⟩
      · exfalso
        omega
    · show wp _ _ 161 21 [(0, .ref r0), (1, vL a1)] [vI z1086] _ H _
      refine wp_of e161 c161_21 (rw_if_ne (p1 := 30) (p2 := 24) (by decide) rfl ⟨Int.le_trans (by decide) b1087.1, Int.le_trans b1087.2 (by decide)⟩ (fun c1121 => ?_) (fun c1121 => ?_))
      · exfalso
        omega
      · refine wp_of e161 c161_24 (rw_aload_n (pc' := 25) (v := .ref r0) rfl rfl rfl ?_)
        refine wp_of e161 c161_25 (rw_iconst (pc' := 26) rfl ?_)
        refine wp_of e161 c161_26 (xc_V (pc' := 29) (r := r0) (as := [vI 2]) (st := []) (lm_0_145) rfl rfl (Nat.le_of_ble_eq_true rfl) hW g0 sh_1 (by decide) rfl (by decide) (u_63  hW g0 ⟨by decide, by decide⟩) (fun R1122 T1123 H1124 p1125 => ?_))
        obtain ⟨e1126, w1128, f1129, z1130, e1127, b1131, p1132⟩ := p1125
        subst e1126
        subst e1127
        obtain ⟨a1133, a1134⟩ := p1132
        have f1135 := f0.tr f1129 rfl
        show wp _ _ 161 29 [(0, .ref r0), (1, vL a1)] [vI z1130] _ H1124 _
        have h1136 : CY T H1124 cu nY gY cY := (CY_fr hW gcu f1129 rfl hCY_cu)
        exact wp_zreturn e161 c161_29 rfl (by omega) ⟨rfl, w1128, f1135, z1130, rfl, ⟨b1131.1, b1131.2⟩, (Or.inr ⟨by omega, by omega, h1136⟩)⟩
  · refine wp_of e161 c161_7 (rw_aload_n (pc' := 8) (v := .ref r0) rfl rfl rfl ?_)
    refine wp_of e161 c161_8 (rw_iconst (pc' := 9) rfl ?_)
    refine wp_of e161 c161_9 (xc_V (pc' := 12) (r := r0) (as := [vI 1]) (st := []) (lm_0_145) rfl rfl (Nat.le_of_ble_eq_true rfl) hW g0 sh_1 (by decide) rfl (by decide) (u_63  hW g0 ⟨by decide, by decide⟩) (fun R1137 T1138 H1139 p1140 => ?_))
    obtain ⟨e1141, w1143, f1144, z1145, e1142, b1146, p1147⟩ := p1140
    subst e1141
    subst e1142
    obtain ⟨a1148, a1149⟩ := p1147
    have f1150 := f0.tr f1144 rfl
    show wp _ _ 161 12 [(0, .ref r0), (1, vL a1)] [vI z1145] _ H1139 _
    have h1151 : CY T H1139 cu nY gY cY := (CY_fr hW gcu f1144 rfl hCY_cu)
    exact wp_zreturn e161 c161_12 rfl (by omega) ⟨rfl, w1143, f1150, z1145, rfl, ⟨b1146.1, b1146.2⟩, (Or.inr ⟨by omega, by omega, h1151⟩)⟩
/-! StrikeAwake$Walk.countBirths(LStrikeAwake$Parish;)V  -/
abbrev uq_69 (r0 : Nat) (r1 : Nat) (e : xD) (d : xD) (n : Int) (g : Nat → Int) (T : wq_T) (H : wq_H) : Option Value → wq_T → wq_H → Prop := fun r T' H' => T = T' ∧ WT T H' ∧ wfr [(6, 5), (8, 999), (10, 999), (9, 999)] T H H' ∧ none = r ∧ (((H' r0 5 = d 0 3) ∧ WP1 T H' r0 (0 + 1) (xer d g) ∧ WP2 T H' r0 (0 + 1) (xla d g) ∧ WP3 T H' r0 (0 + 1) (xfl d g) ∧ WP4 T H' r0 (0 + 1) (xqu d g)))
set_option maxHeartbeats 4000000 in
theorem u_69 {kt : Nat → Option mc_E} {T : wq_T} {H : wq_H} {r0 : Nat} {r1 : Nat} {e : xD} {d : xD} {n : Int} {g : Nat → Int} (hW : WT T H) (g0 : T.2.2.2 r0 = some 6) (g1 : T.2.2.2 r1 = some 27) (p0 : ∀ i, i ≠ 13 → e i = d i) (p1 : XW d) (p2 : e 0 3 = d 0 3) (hCU_r1 : CU T H r1 e d n) : wpc kt 2 69 [.ref r0, .ref r1] T H (uq_69 r0 r1 e d n g T H) := by
  refine wp_enter e69 (Nat.le_of_ble_eq_true rfl) rfl ?_
  have f0 : wfr [(6, 5), (8, 999), (10, 999), (9, 999)] T H H := wfr.rf
  show wp _ _ 69 0 [(0, .ref r0), (1, .ref r1)] [] _ H _
  have u1401 := CU_k hCU_r1
  have h1402 : DA3 T H r1 (d 0 5) (d 12) := (by have h := hCU_r1.1.2.2.2.2.1; rw [p0 12 (by decide), p0 0 (by decide)] at h; exact h)
  have _k := CU_k hCU_r1
  have _xc := p1.2.1
  unfold XC at _xc
  have _d0 := p0 0 (by decide)
  have _e3 : e 0 3 = d 0 3 := by rw [_d0]
  have _e4 : e 0 4 = d 0 4 := by rw [_d0]
  have _e5 : e 0 5 = d 0 5 := by rw [_d0]
  have _b12 := p1.2.2.2.2.1
  refine wp_of e69 c69_0 (rw_aload_n (pc' := 1) (v := .ref r0) rfl rfl rfl ?_)
  refine wp_of e69 c69_1 (rw_aload_n (pc' := 2) (v := .ref r1) rfl rfl rfl ?_)
  refine wp_of e69 c69_2 (xg_I (pc' := 5) lf_3_36 hW g1 sh_27 (by decide) (by decide) ty_27_10 rfl rfl (fun b1403 b1404 => ?_))
  refine wp_of e69 c69_5 (xp_I (pc' := 8) lf_3_51 hW g0 sh_6 (by decide) (by decide) ty_6_5 rfl rfl (b1403) (b1404) ⟨Int.le_trans (by decide) b1403, Int.le_trans b1404 (by decide)⟩ rfl (fun H1405 e1406 w1407 => ?_))
  have f1408 := f0.put' e1406 g0 rfl
  have k1409 : H1405 r0 5 = H r1 10 := wq_u_s e1406
  refine wp_of e69 c69_8 (rw_aload_n (pc' := 9) (v := .ref r0) rfl rfl rfl ?_)
  refine wp_of e69 c69_9 (xg_R (pc' := 12) lf_3_15 w1407 g0 sh_6 (by decide) (by decide) ty_6_1 rfl rfl (fun r1410 q1411 g1412 => ?_))
  refine wp_of e69 c69_12 (rw_iconst (pc' := 13) rfl ?_)
  refine wp_of e69 c69_13 (rw_lconst (pc' := 14) (z := 0) rfl rfl ?_)
  refine wp_of e69 c69_14 (xs_L (pc' := 15) w1407 g1412 (by decide) sh_8 (by decide) (ty_8 _) (by decide) (by decide) ⟨by decide, by decide⟩ (by decide) (by decide) rfl (fun H1413 e1414 w1415 => ?_))
  have f1416 := f1408.put' e1414 g1412 rfl
  have h1417 : WP1 T H1413 r0 (0 + 1) (fun _ => 0) := DA_first q1411 g0 g1412 (by decide) e1414 rfl
  refine wp_of e69 c69_15 (rw_aload_n (pc' := 16) (v := .ref r0) rfl rfl rfl ?_)
  refine wp_of e69 c69_16 (xg_R (pc' := 19) lf_3_19 w1415 g0 sh_6 (by decide) (by decide) ty_6_2 rfl rfl (fun r1418 q1419 g1420 => ?_))
  refine wp_of e69 c69_19 (rw_iconst (pc' := 20) rfl ?_)
  refine wp_of e69 c69_20 (rw_lconst (pc' := 21) (z := 0) rfl rfl ?_)
  refine wp_of e69 c69_21 (xs_L (pc' := 22) w1415 g1420 (by decide) sh_9 (by decide) (ty_9 _) (by decide) (by decide) ⟨by decide, by decide⟩ (by decide) (by decide) rfl (fun H1421 e1422 w1423 => ?_))
  have f1424 := f1416.put' e1422 g1420 rfl
  have h1425 : WP2 T H1421 r0 (0 + 1) (fun _ => 0) := DA_first q1419 g0 g1420 (by decide) e1422 rfl
  refine wp_of e69 c69_22 (rw_aload_n (pc' := 23) (v := .ref r0) rfl rfl rfl ?_)
  refine wp_of e69 c69_23 (xg_R (pc' := 26) lf_3_22 w1423 g0 sh_6 (by decide) (by decide) ty_6_3 rfl rfl (fun r1426 q1427 g1428 => ?_))
  refine wp_of e69 c69_26 (rw_iconst (pc' := 27) rfl ?_)
  refine wp_of e69 c69_27 (rw_iconst (pc' := 28) rfl ?_)
  refine wp_of e69 c69_28 (xs_I (pc' := 29) w1423 g1428 (by decide) sh_10 (by decide) (ty_10 _) (by decide) (by decide) ⟨by decide, by decide⟩ (by decide) (by decide) rfl (fun H1429 e1430 w1431 => ?_))
  have f1432 := f1424.put' e1430 g1428 rfl
  have h1433 : WP3 T H1429 r0 (0 + 1) (fun _ => 0) := DA_first q1427 g0 g1428 (by decide) e1430 rfl
  refine wp_of e69 c69_29 (rw_iconst (pc' := 30) rfl ?_)
  refine wp_of e69 c69_30 (rw_istore_n (pc' := 31) (z := 0) (L' := [(2, vI 0), (0, .ref r0), (1, .ref r1)]) rfl rfl rfl ?_)
  have k1735 : H1429 r0 5 = H1405 r0 5 := ((wq_u_t e1430 g1428 g0 rfl 5).trans ((wq_u_t e1422 g1420 g0 rfl 5).trans (wq_u_t e1414 g1412 g0 rfl 5)))
  have lp1730 : ∀ (n1731 : Nat) (v1733 : Int) (H1734 : wq_H), WT T H1734 → wfr [(8, 999), (10, 999), (9, 999)] T H1429 H1734 → (0 ≤ v1733 ∧ v1733 ≤ 3) → WP1 T H1734 r0 (0 + 1) (fun _ => xbe d (v1733).toNat) → WP2 T H1734 r0 (0 + 1) (fun _ => xbl d (v1733).toNat) → WP3 T H1734 r0 (0 + 1) (fun _ => xbf (d 12) (v1733).toNat) → (v1733 ≤ d 0 5) → (H1734 r0 5 = d 0 3) → (3 - v1733).toNat = n1731 → wp kt 1 69 31 [(2, vI v1733), (0, .ref r0), (1, .ref r1)] [] T H1734 (uq_69 r0 r1 e d n g T H) := by
    intro n1731
    induction n1731 using Nat.strongRecOn with
    | _ n1731 ih1732 =>
      intro v1733 H1734 w1736 f1737 b1738 h1740 h1741 h1742 x1743 x1744 m1739
      have f1745 := f1432.tr f1737 rfl
      have k1746 : H1734 r0 5 = H1429 r0 5 := (f1737 r0 5 _ g0 rfl)
      refine wp_of e69 c69_31 (rw_iload_n (pc' := 32) (z := v1733) rfl rfl ?_)
      refine wp_of e69 c69_32 (rw_aload_n (pc' := 33) (v := .ref r1) rfl rfl rfl ?_)
      have k1747 : H1734 r1 12 = H r1 12 := ((f1737 r1 12 _ g1 rfl).trans ((wq_u_t e1430 g1428 g1 rfl 12).trans ((wq_u_t e1422 g1420 g1 rfl 12).trans ((wq_u_t e1414 g1412 g1 rfl 12).trans (wq_u_t e1406 g0 g1 rfl 12)))))
      refine wp_of e69 c69_33 (xg_I (pc' := 36) lf_3_55 w1736 g1 sh_27 (by decide) (by decide) ty_27_12 rfl rfl (fun b1748 b1749 => ?_))
      refine wp_of e69 c69_36 (rw_icmp_ge (p1 := 96) (p2 := 39) (by decide) rfl ⟨Int.le_trans (by decide) b1738.1, Int.le_trans b1738.2 (by decide)⟩ ⟨Int.le_trans (by decide) b1748, Int.le_trans b1749 (by decide)⟩ (fun c1750 => ?_) (fun c1750 => ?_))
      · exact wp_return e69 c69_96 rfl ⟨rfl, w1736, f1745, rfl, ⟨by omega, DA_1 h1740 (by show xbe d (v1733).toNat = xbe d (d 0 5).toNat; rw [show v1733 = d 0 5 by omega]), DA_1 h1741 (by show xbl d (v1733).toNat = xbl d (d 0 5).toNat; rw [show v1733 = d 0 5 by omega]), DA_1 h1742 (by show xbf (d 12) (v1733).toNat = xbf (d 12) (d 0 5).toNat; rw [show v1733 = d 0 5 by omega]), WP4_0 w1736 g0⟩⟩
      · refine wp_of e69 c69_39 (rw_aload_n (pc' := 40) (v := .ref r1) rfl rfl rfl ?_)
        refine wp_of e69 c69_40 (xg_R (pc' := 43) lf_3_58 w1736 g1 sh_27 (by decide) (by decide) ty_27_3 rfl rfl (fun r1751 q1752 g1753 => ?_))
        refine wp_of e69 c69_43 (rw_iload_n (pc' := 44) (z := v1733) rfl rfl ?_)
        refine wp_of e69 c69_44 (xa_I (so := 0) (pc' := 45) w1736 g1753 sh_31 (by decide) (ty_31 _) (b1738.1) (by omega) rfl (fun b1754 b1755 => ?_))
        have h1756 : DA3 T H1734 r1 (d 0 5) (d 12) := (DA3_fr w1431 g1 f1737 rfl (DA3_fr w1423 g1 ((wfr.rf (l := [(10, 999)])).put' e1430 g1428 rfl) rfl (DA3_fr w1415 g1 ((wfr.rf (l := [(9, 999)])).put' e1422 g1420 rfl) rfl (DA3_fr w1407 g1 ((wfr.rf (l := [(8, 999)])).put' e1414 g1412 rfl) rfl (DA3_fr hW g1 ((wfr.rf (l := [(6, 5)])).put' e1406 g0 rfl) rfl h1402)))))
        have := DA_at h1756 q1752 (k := (v1733.toNat)) (by omega)
        have _bb := _b12 (v1733.toNat) (by omega)
        unfold xrB at _bb
        refine wp_of e69 c69_45 (rw_bipush (pc' := 47) (z := 24) rfl (by decide) ?_)
        refine wp_of e69 c69_47 (xc_S (pc' := 50) (as := [vI (H1734 r1751 (v1733.toNat)), vI 24]) (st := []) (lm_3_61) rfl rfl (Nat.le_of_ble_eq_true rfl) rfl (by decide) (u_31 (lo := ((d 12 (v1733).toNat))) (hi := 24) w1736 ⟨by omega, by omega⟩ ⟨by decide, by decide⟩ (by omega) (by omega) (by omega)) (fun R1757 T1758 H1759 p1760 => ?_))
        obtain ⟨e1761, e1763, z1764, e1762, b1765, p1766⟩ := p1760
        subst e1761
        subst e1762
        subst e1763
        show wp _ _ 69 50 [(2, vI v1733), (0, .ref r0), (1, .ref r1)] [vI z1764] _ H1734 _
        have _w : z1764 = xhs (d 12 (v1733).toNat) 24 := by assumption
        have _wb := @xhs_b (d 12 (v1733).toNat) 24
        refine wp_of e69 c69_50 (rw_istore_n (pc' := 51) (z := z1764) (L' := [(3, vI z1764), (2, vI v1733), (0, .ref r0), (1, .ref r1)]) rfl rfl rfl ?_)
        refine wp_of e69 c69_51 (rw_aload_n (pc' := 52) (v := .ref r0) rfl rfl rfl ?_)
        have k1768 : H1734 r0 1 = H1405 r0 1 := ((f1737 r0 1 _ g0 rfl).trans ((wq_u_t e1430 g1428 g0 rfl 1).trans ((wq_u_t e1422 g1420 g0 rfl 1).trans (wq_u_t e1414 g1412 g0 rfl 1))))
        have q1769 : H1734 r0 1 = (r1410 : Int) := k1768.trans q1411
        refine wp_of e69 c69_52 (xg_K (pc' := 55) lf_3_15 w1736 g0 sh_6 (by decide) (by decide) rfl q1769 rfl ?_)
        refine wp_of e69 c69_55 (rw_iconst (pc' := 56) rfl ?_)
        refine wp_of e69 c69_56 (rw_dup2 (pc' := 57) rfl rfl rfl ?_)
        refine wp_of e69 c69_57 (xa_L (pc' := 58) w1736 g1412 sh_8 (by decide) (ty_8 _) (by decide) (by decide) rfl (fun b1770 b1771 => ?_))
        have := DA_at h1740 q1769 (k := ((0 : Int).toNat)) (by omega)
        refine wp_of e69 c69_58 (rw_iload_n (pc' := 59) (z := z1764) rfl rfl ?_)
        refine wp_of e69 c69_59 (xc_S (pc' := 62) (as := [vI z1764]) (st := [vL (H1734 r1410 ((0 : Int).toNat)), vI 0, .ref r1410]) (lm_3_65) rfl rfl (Nat.le_of_ble_eq_true rfl) rfl (by decide) (u_49  w1736 ⟨Int.le_trans (by decide) b1765.1, Int.le_trans b1765.2 (by decide)⟩) (fun R1772 T1773 H1774 p1775 => ?_))
        obtain ⟨e1776, e1778, z1779, e1777, b1780, p1781⟩ := p1775
        subst e1776
        subst e1777
        subst e1778
        show wp _ _ 69 62 [(3, vI z1764), (2, vI v1733), (0, .ref r0), (1, .ref r1)] [vL z1779, vL (H1734 r1410 ((0 : Int).toNat)), vI 0, .ref r1410] _ H1734 _
        have _t1 : z1779 = xtal (xhs (d 12 (v1733).toNat) 24) 12 := by
          rw [← _w]
          assumption
        refine wp_of e69 c69_62 (rw_laddw (pc' := 63) rfl ?_)
        obtain ⟨v1783, e1784⟩ : ∃ x : Int, x = wl_w ((H1734 r1410 ((0 : Int).toNat)) + z1779) := ⟨_, rfl⟩
        rw [← e1784]
        have b1785 : -9223372036854775808 ≤ v1783 ∧ v1783 ≤ 9223372036854775807 := by
          rw [e1784]
          exact wL_w _
        have b1786 : (-9223372036854775808 ≤ (H1734 r1410 ((0 : Int).toNat)) + z1779 ∧ (H1734 r1410 ((0 : Int).toNat)) + z1779 ≤ 9223372036854775807) → v1783 = (H1734 r1410 ((0 : Int).toNat)) + z1779 := fun h => by rw [e1784]; exact wl_w_id h
        have _v1 : v1783 = xbe d (v1733 + 1).toNat := by
          rw [show (v1733 + 1).toNat = (v1733).toNat + 1 by omega, xbe_s]
          have := @xbe_b d (v1733).toNat (by omega)
          have := xtal_b _wb
          omega
        refine wp_of e69 c69_63 (xs_L (pc' := 64) w1736 g1412 (by decide) sh_8 (by decide) (ty_8 _) (b1785.1) (b1785.2) ⟨b1785.1, b1785.2⟩ (by decide) (by decide) rfl (fun H1787 e1788 w1789 => ?_))
        have f1790 := f1745.put' e1788 g1412 rfl
        have f1791 := f1737.put' e1788 g1412 rfl
        have h1792 : WP1 T H1787 r0 (0 + 1) (fun _ => xbe d (v1733 + 1).toNat) := DA_first q1769 g0 g1412 (by decide) e1788 _v1
        refine wp_of e69 c69_64 (rw_aload_n (pc' := 65) (v := .ref r0) rfl rfl rfl ?_)
        have k1793 : H1787 r0 2 = H1413 r0 2 := ((wq_u_t e1788 g1412 g0 rfl 2).trans ((f1737 r0 2 _ g0 rfl).trans ((wq_u_t e1430 g1428 g0 rfl 2).trans (wq_u_t e1422 g1420 g0 rfl 2))))
        have q1794 : H1787 r0 2 = (r1418 : Int) := k1793.trans q1419
        refine wp_of e69 c69_65 (xg_K (pc' := 68) lf_3_19 w1789 g0 sh_6 (by decide) (by decide) rfl q1794 rfl ?_)
        refine wp_of e69 c69_68 (rw_iconst (pc' := 69) rfl ?_)
        refine wp_of e69 c69_69 (rw_dup2 (pc' := 70) rfl rfl rfl ?_)
        refine wp_of e69 c69_70 (xa_L (pc' := 71) w1789 g1420 sh_9 (by decide) (ty_9 _) (by decide) (by decide) rfl (fun b1795 b1796 => ?_))
        have h1797 : WP2 T H1787 r0 (0 + 1) (fun _ => xbl d (v1733).toNat) := (WP2_fr w1736 g0 ((wfr.rf (l := [(8, 999)])).put' e1788 g1412 rfl) rfl h1741)
        have := DA_at h1797 q1794 (k := ((0 : Int).toNat)) (by omega)
        refine wp_of e69 c69_71 (rw_iload_n (pc' := 72) (z := z1764) rfl rfl ?_)
        refine wp_of e69 c69_72 (rw_bipush (pc' := 74) (z := 12) rfl (by decide) ?_)
        refine wp_of e69 c69_74 (rw_ishr (pc' := 75) rfl ?_)
        obtain ⟨v1798, e1799⟩ : ∃ x : Int, x = wq_shr z1764 12 := ⟨_, rfl⟩
        rw [← e1799]
        have b1800 : -2147483648 ≤ v1798 ∧ v1798 ≤ 2147483647 := by
          rw [e1799]
          exact wI_shr _ _
        have _sh : v1798 = wq_shr (xhs (d 12 (v1733).toNat) 24) 12 := by
          rw [← _w]
          exact e1799
        refine wp_of e69 c69_75 (xc_S (pc' := 78) (as := [vI v1798]) (st := [vL (H1787 r1418 ((0 : Int).toNat)), vI 0, .ref r1418]) (lm_3_65) rfl rfl (Nat.le_of_ble_eq_true rfl) rfl (by decide) (u_49  w1789 ⟨b1800.1, b1800.2⟩) (fun R1801 T1802 H1803 p1804 => ?_))
        obtain ⟨e1805, e1807, z1808, e1806, b1809, p1810⟩ := p1804
        subst e1805
        subst e1806
        subst e1807
        show wp _ _ 69 78 [(3, vI z1764), (2, vI v1733), (0, .ref r0), (1, .ref r1)] [vL z1808, vL (H1787 r1418 ((0 : Int).toNat)), vI 0, .ref r1418] _ H1787 _
        have _t2 : z1808 = xtal (wq_shr (xhs (d 12 (v1733).toNat) 24) 12) 12 := by
          rw [← _sh]
          assumption
        refine wp_of e69 c69_78 (rw_laddw (pc' := 79) rfl ?_)
        obtain ⟨v1812, e1813⟩ : ∃ x : Int, x = wl_w ((H1787 r1418 ((0 : Int).toNat)) + z1808) := ⟨_, rfl⟩
        rw [← e1813]
        have b1814 : -9223372036854775808 ≤ v1812 ∧ v1812 ≤ 9223372036854775807 := by
          rw [e1813]
          exact wL_w _
        have b1815 : (-9223372036854775808 ≤ (H1787 r1418 ((0 : Int).toNat)) + z1808 ∧ (H1787 r1418 ((0 : Int).toNat)) + z1808 ≤ 9223372036854775807) → v1812 = (H1787 r1418 ((0 : Int).toNat)) + z1808 := fun h => by rw [e1813]; exact wl_w_id h
        have _v2 : v1812 = xbl d (v1733 + 1).toNat := by
          rw [show (v1733 + 1).toNat = (v1733).toNat + 1 by omega, xbl_s]
          have := @xbl_b d (v1733).toNat (by omega)
          have := xtal_b (shr12_b _wb)
          omega
        refine wp_of e69 c69_79 (xs_L (pc' := 80) w1789 g1420 (by decide) sh_9 (by decide) (ty_9 _) (b1814.1) (b1814.2) ⟨b1814.1, b1814.2⟩ (by decide) (by decide) rfl (fun H1816 e1817 w1818 => ?_))
        have f1819 := f1790.put' e1817 g1420 rfl
        have f1820 := f1791.put' e1817 g1420 rfl
        have h1821 : WP2 T H1816 r0 (0 + 1) (fun _ => xbl d (v1733 + 1).toNat) := DA_first q1794 g0 g1420 (by decide) e1817 _v2
        refine wp_of e69 c69_80 (rw_aload_n (pc' := 81) (v := .ref r0) rfl rfl rfl ?_)
        have k1822 : H1816 r0 3 = H1421 r0 3 := ((wq_u_t e1817 g1420 g0 rfl 3).trans ((wq_u_t e1788 g1412 g0 rfl 3).trans ((f1737 r0 3 _ g0 rfl).trans (wq_u_t e1430 g1428 g0 rfl 3))))
        have q1823 : H1816 r0 3 = (r1426 : Int) := k1822.trans q1427
        refine wp_of e69 c69_81 (xg_K (pc' := 84) lf_3_22 w1818 g0 sh_6 (by decide) (by decide) rfl q1823 rfl ?_)
        refine wp_of e69 c69_84 (rw_iconst (pc' := 85) rfl ?_)
        refine wp_of e69 c69_85 (rw_dup2 (pc' := 86) rfl rfl rfl ?_)
        refine wp_of e69 c69_86 (xa_I (so := 0) (pc' := 87) w1818 g1428 sh_10 (by decide) (ty_10 _) (by decide) (by decide) rfl (fun b1824 b1825 => ?_))
        have h1826 : WP3 T H1816 r0 (0 + 1) (fun _ => xbf (d 12) (v1733).toNat) := (WP3_fr w1789 g0 ((wfr.rf (l := [(9, 999)])).put' e1817 g1420 rfl) rfl (WP3_fr w1736 g0 ((wfr.rf (l := [(8, 999)])).put' e1788 g1412 rfl) rfl h1742))
        have := DA_at h1826 q1823 (k := ((0 : Int).toNat)) (by omega)
        have _fb := @xbf_b (d 12) (v1733).toNat
        refine wp_of e69 c69_87 (rw_iload_n (pc' := 88) (z := z1764) rfl rfl ?_)
        refine wp_of e69 c69_88 (rw_ior (pc' := 89) rfl ?_)
        obtain ⟨v1827, e1828⟩ : ∃ x : Int, x = wq_or (H1816 r1426 ((0 : Int).toNat)) z1764 := ⟨_, rfl⟩
        rw [← e1828]
        have b1829 : -2147483648 ≤ v1827 ∧ v1827 ≤ 2147483647 := by
          rw [e1828]
          exact wI_or _ _
        have _v3 : v1827 = xbf (d 12) (v1733 + 1).toNat := by
          rw [show (v1733 + 1).toNat = (v1733).toNat + 1 by omega]
          exact xbf_s e1828 (by omega) _w
        refine wp_of e69 c69_89 (xs_I (pc' := 90) w1818 g1428 (by decide) sh_10 (by decide) (ty_10 _) (b1829.1) (b1829.2) ⟨b1829.1, b1829.2⟩ (by decide) (by decide) rfl (fun H1830 e1831 w1832 => ?_))
        have f1833 := f1819.put' e1831 g1428 rfl
        have f1834 := f1820.put' e1831 g1428 rfl
        have h1835 : WP3 T H1830 r0 (0 + 1) (fun _ => xbf (d 12) (v1733 + 1).toNat) := DA_first q1823 g0 g1428 (by decide) e1831 _v3
        refine wp_of e69 c69_90 (rw_iinc (pc' := 93) (z := v1733) (L' := [(2, vI (v1733 + 1)), (3, vI z1764), (0, .ref r0), (1, .ref r1)]) rfl rfl rfl rfl ?_)
        refine wp_of e69 c69_93 (rw_goto (p1 := 31) (by decide) ?_)
        have k1836 : H1830 r0 5 = H1734 r0 5 := ((wq_u_t e1831 g1428 g0 rfl 5).trans ((wq_u_t e1817 g1420 g0 rfl 5).trans (wq_u_t e1788 g1412 g0 rfl 5)))
        have h1837 : WP1 T H1830 r0 (0 + 1) (fun _ => xbe d (v1733 + 1).toNat) := (WP1_fr w1818 g0 ((wfr.rf (l := [(10, 999)])).put' e1831 g1428 rfl) rfl (WP1_fr w1789 g0 ((wfr.rf (l := [(9, 999)])).put' e1817 g1420 rfl) rfl h1792))
        have h1838 : WP2 T H1830 r0 (0 + 1) (fun _ => xbl d (v1733 + 1).toNat) := (WP2_fr w1818 g0 ((wfr.rf (l := [(10, 999)])).put' e1831 g1428 rfl) rfl h1821)
        exact wp_lc (ks := [2, 3, 0, 1]) (wl_c rfl (wl_c rfl (wl_c rfl wl_n))) rfl (by decide) (ih1732 _ (by omega) (v1733 + 1) H1830 w1832 f1834 ⟨by omega, by omega⟩ h1837 h1838 h1835 (by omega) (by omega) rfl)
  have h1839 : WP1 T H1429 r0 (0 + 1) (fun _ => 0) := (WP1_fr w1423 g0 ((wfr.rf (l := [(10, 999)])).put' e1430 g1428 rfl) rfl (WP1_fr w1415 g0 ((wfr.rf (l := [(9, 999)])).put' e1422 g1420 rfl) rfl h1417))
  have h1840 : WP1 T H1429 r0 (0 + 1) (fun _ => xbe d (0 : Int).toNat) := DA_cg h1839 rfl (by funext k; exact xbe_0)
  have h1841 : WP2 T H1429 r0 (0 + 1) (fun _ => 0) := (WP2_fr w1423 g0 ((wfr.rf (l := [(10, 999)])).put' e1430 g1428 rfl) rfl h1425)
  have h1842 : WP2 T H1429 r0 (0 + 1) (fun _ => xbl d (0 : Int).toNat) := DA_cg h1841 rfl (by funext k; exact xbl_0)
  have h1843 : WP3 T H1429 r0 (0 + 1) (fun _ => xbf (d 12) (0 : Int).toNat) := h1433
  exact wp_lc (ks := [2, 0, 1]) (wl_c rfl (wl_c rfl (wl_c rfl wl_n))) rfl (by decide) (lp1730 _ 0 H1429 w1431 wfr.rf ⟨by decide, by decide⟩ h1840 h1842 h1843 (by omega) (by omega) rfl)
