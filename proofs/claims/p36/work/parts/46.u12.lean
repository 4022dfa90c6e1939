section
/-! what methods do (own work, written by wip/gen3/sx3.py) -/
/-! StrikeAwakeModel.lie(I)I  -/
abbrev uq_272 (r0 : Nat) (a1 : Int) (e : xD) (d : xD) (T : wq_T) (H : wq_H) : Option Value → wq_T → wq_H → Prop := fun r T' H' => T = T' ∧ WT T H' ∧ wfr [(42, 0), (42, 1), (42, 2), (42, 28), (42, 29), (51, 999), (52, 999)] T H H' ∧ ∃ z : Int, some (vI z) = r ∧ ((-2147483648) ≤ z ∧ z ≤ 2147483647) ∧ (((wKI H' r0 = 1) ∧ KNN T H' r0 e d))
set_option maxHeartbeats 4000000 in
theorem u_272 {kt : Nat → Option mc_E} {T : wq_T} {H : wq_H} {r0 : Nat} {a1 : Int} {e : xD} {d : xD} (hW : WT T H) (g0 : T.2.2.2 r0 = some 42) (i1 : (-2147483648) ≤ a1 ∧ a1 ≤ 2147483647) (p0 : wKI H r0 = 1) (p1 : XW d) (p2 : ∀ h : Nat, d 0 0 ≤ (h : Int) → h < 24 → e 13 h = 0) (p3 : XN d) (p4 : ∀ h : Nat, h < 24 → 0 ≤ e 13 h ∧ e 13 h ≤ 100) (hRB_r0 : RB T H r0 e d) (hKNN_r0 : KNN T H r0 e d) : wpc kt 8 272 [.ref r0, vI a1] T H (uq_272 r0 a1 e d T H) := by
  refine wp_enter e272 (Nat.le_of_ble_eq_true rfl) rfl ?_
  have f0 : wfr [(42, 0), (42, 1), (42, 2), (42, 28), (42, 29), (51, 999), (52, 999)] T H H := wfr.rf
  show wp _ _ 272 0 [(0, .ref r0), (1, vI a1)] [] _ H _
  have _b := RB_b hW hRB_r0
  have _nu := RB_n3 hRB_r0
  have _lm := RB_lm hRB_r0
  refine wp_of e272 c272_0 (rw_aload_n (pc' := 1) (v := .ref r0) rfl rfl rfl ?_)
  refine wp_of e272 c272_1 (rw_iconst (pc' := 2) rfl ?_)
  refine wp_of e272 c272_2 (xp_I (pc' := 5) lf_9_48 hW g0 sh_42 (by decide) (by decide) ty_42_0 rfl rfl (by decide) (by decide) ⟨by decide, by decide⟩ rfl (fun H1100 e1101 w1102 => ?_))
  have f1103 := f0.put' e1101 g0 rfl
  have k1104 : H1100 r0 0 = 0 := wq_u_s e1101
  refine wp_of e272 c272_5 (rw_aload_n (pc' := 6) (v := .ref r0) rfl rfl rfl ?_)
  refine wp_of e272 c272_6 (rw_aload_n (pc' := 7) (v := .ref r0) rfl rfl rfl ?_)
  refine wp_of e272 c272_7 (rw_iload_n (pc' := 8) (z := a1) rfl rfl ?_)
  refine wp_of e272 c272_8 (xc_V (pc' := 11) (r := r0) (as := [vI a1]) (st := [.ref r0]) (lm_9_473) rfl rfl (Nat.le_of_ble_eq_true rfl) w1102 g0 sh_42 (by decide) rfl (by decide) (s_273 w1102 g0 ⟨i1.1, i1.2⟩) (fun R1105 T1106 H1107 p1108 => ?_))
  obtain ⟨e1109, e1111, z1113, e1110, b1114, p1112⟩ := p1108
  subst e1109
  subst e1110
  subst e1111
  show wp _ _ 272 11 [(0, .ref r0), (1, vI a1)] [vI z1113, .ref r0] _ H1100 _
  have k1115 : H1100 r0 3 = H r0 3 := (wq_u_j e1101 rfl)
  have k1116 : wKI H1100 r0 = wKI H r0 := (wKI_fr hW g0 ((wfr.rf (l := [(42, 0)])).put' e1101 g0 rfl) rfl)
  have h1117 : RB T H1100 r0 e d := (RB_fr hW g0 ((wfr.rf (l := [(42, 0)])).put' e1101 g0 rfl) rfl hRB_r0)
  have h1118 : KNN T H1100 r0 e d := (KNN_fr hW g0 ((wfr.rf (l := [(42, 0)])).put' e1101 g0 rfl) rfl hKNN_r0)
  refine wp_of e272 c272_11 (xc_V (pc' := 14) (r := r0) (as := [vI z1113]) (st := []) (lm_9_433) rfl rfl (Nat.le_of_ble_eq_true rfl) w1102 g0 sh_42 (by decide) rfl (by decide) (u_241 (e := e) (d := d) w1102 g0 ⟨b1114.1, b1114.2⟩ (by omega) (by omega) (by assumption) (by assumption) (by assumption) (by assumption) h1117 h1118) (fun R1119 T1120 H1121 p1122 => ?_))
  obtain ⟨e1123, w1125, f1126, z1127, e1124, b1128, p1129⟩ := p1122
  subst e1123
  subst e1124
  rcases p1129 with ⟨a1130, a1131, a1132, a1133, a1134, a1135, a1136, a1137, a1138⟩ | ⟨a1139, a1140, a1141, a1142, a1143, a1144, a1145⟩
  · have f1146 := f1103.tr f1126 rfl
    show wp _ _ 272 14 [(0, .ref r0), (1, vI a1)] [vI z1127] _ H1121 _
    have k1147 : wLM H1121 r0 = wLM H r0 := ((wLM_fr w1102 g0 f1126 rfl).trans (wLM_fr hW g0 ((wfr.rf (l := [(42, 0)])).put' e1101 g0 rfl) rfl))
    refine wp_of e272 c272_14 (rw_istore_n (pc' := 15) (z := z1127) (L' := [(2, vI z1127), (0, .ref r0), (1, vI a1)]) rfl rfl rfl ?_)
    refine wp_of e272 c272_15 (rw_iload_n (pc' := 16) (z := z1127) rfl rfl ?_)
    refine wp_of e272 c272_16 (rw_if_le (p1 := 27) (p2 := 19) (by decide) rfl ⟨Int.le_trans (by decide) b1128.1, Int.le_trans b1128.2 (by decide)⟩ (fun c1148 => ?_) (fun c1148 => ?_))
    · refine wp_of e272 c272_27 (rw_aload_n (pc' := 28) (v := .ref r0) rfl rfl rfl ?_)
      refine wp_of e272 c272_28 (rw_aload_n (pc' := 29) (v := .ref r0) rfl rfl rfl ?_)
      refine wp_of e272 c272_29 (rw_iload_n (pc' := 30) (z := a1) rfl rfl ?_)
      have k1149 : H1121 r0 3 = H1100 r0 3 := (f1126 r0 3 _ g0 rfl)
      obtain ⟨r1150, q1151, g1152⟩ := (w1125.opt g0 (t' := 54) (n := 33) (j := 3) (p := 0) (q := 0) rfl (by decide) rfl).resolve_left (by omega)
      refine wp_of e272 c272_30 (xc_V (pc' := 33) (r := r0) (as := [vI a1]) (st := [.ref r0]) (lm_9_476) rfl rfl (Nat.le_of_ble_eq_true rfl) w1125 g0 sh_42 (by decide) rfl (by decide) (s_274 w1125 g0 ⟨by omega, by omega⟩ q1151 g1152 (by omega)) (fun R1153 T1154 H1155 p1156 => ?_))
      obtain ⟨e1157, w1159, f1160, z1161, e1158, b1162⟩ := p1156
      subst e1157
      subst e1158
      have f1163 := f1146.tr f1160 rfl
      show wp _ _ 272 33 [(2, vI z1127), (0, .ref r0), (1, vI a1)] [vI z1161, .ref r0] _ H1155 _
      refine wp_of e272 c272_33 (rw_bipush (pc' := 35) (z := 24) rfl (by decide) ?_)
      refine wp_of e272 c272_35 (rw_icmp_ne (p1 := 42) (p2 := 38) (by decide) rfl ⟨b1162.1, b1162.2⟩ ⟨by decide, by decide⟩ (fun c1164 => ?_) (fun c1164 => ?_))
      · refine wp_of e272 c272_42 (rw_iconst (pc' := 43) rfl ?_)
        refine wp_of e272 c272_43 (xc_V (pc' := 46) (r := r0) (as := [vI 1]) (st := []) (lm_9_58) rfl rfl (Nat.le_of_ble_eq_true rfl) w1159 g0 sh_42 (by decide) rfl (by decide) (s_209 w1159 g0 ⟨by decide, by decide⟩) (fun R1165 T1166 H1167 p1168 => ?_))
        obtain ⟨e1169, w1171, f1172, z1173, e1170, b1174⟩ := p1168
        subst e1169
        subst e1170
        have f1175 := f1163.tr f1172 rfl
        show wp _ _ 272 46 [(2, vI z1127), (0, .ref r0), (1, vI a1)] [vI z1173] _ H1167 _
        have k1176 : wKI H1167 r0 = wKI H1121 r0 := ((wKI_fr w1159 g0 f1172 rfl).trans (wKI_fr w1125 g0 f1160 rfl))
        have h1177 : KNN T H1167 r0 e d := (KNN_fr w1159 g0 f1172 rfl (KNN_fr w1125 g0 f1160 rfl a1137))
        exact wp_ireturn e272 c272_46 rfl ⟨rfl, w1171, f1175, z1173, rfl, ⟨b1174.1, b1174.2⟩, ⟨by omega, h1177⟩⟩
      · refine wp_of e272 c272_38 (rw_iconst (pc' := 39) rfl ?_)
        refine wp_of e272 c272_39 (rw_goto (p1 := 43) (by decide) ?_)
        refine wp_of e272 c272_43 (xc_V (pc' := 46) (r := r0) (as := [vI 0]) (st := []) (lm_9_58) rfl rfl (Nat.le_of_ble_eq_true rfl) w1159 g0 sh_42 (by decide) rfl (by decide) (s_209 w1159 g0 ⟨by decide, by decide⟩) (fun R1178 T1179 H1180 p1181 => ?_))
        obtain ⟨e1182, w1184, f1185, z1186, e1183, b1187⟩ := p1181
        subst e1182
        subst e1183
        have f1188 := f1163.tr f1185 rfl
        show wp _ _ 272 46 [(2, vI z1127), (0, .ref r0), (1, vI a1)] [vI z1186] _ H1180 _
        have k1189 : wKI H1180 r0 = wKI H1121 r0 := ((wKI_fr w1159 g0 f1185 rfl).trans (wKI_fr w1125 g0 f1160 rfl))
        have h1190 : KNN T H1180 r0 e d := (KNN_fr w1159 g0 f1185 rfl (KNN_fr w1125 g0 f1160 rfl a1137))
        exact wp_ireturn e272 c272_46 rfl ⟨rfl, w1184, f1188, z1186, rfl, ⟨b1187.1, b1187.2⟩, ⟨by omega, h1190⟩⟩
    · exfalso
      omega
  · have f1191 := f1103.tr f1126 rfl
    show wp _ _ 272 14 [(0, .ref r0), (1, vI a1)] [vI z1127] _ H1121 _
    have k1192 : wLM H1121 r0 = wLM H r0 := ((wLM_fr w1102 g0 f1126 rfl).trans (wLM_fr hW g0 ((wfr.rf (l := [(42, 0)])).put' e1101 g0 rfl) rfl))
    refine wp_of e272 c272_14 (rw_istore_n (pc' := 15) (z := z1127) (L' := [(2, vI z1127), (0, .ref r0), (1, vI a1)]) rfl rfl rfl ?_)
    refine wp_of e272 c272_15 (rw_iload_n (pc' := 16) (z := z1127) rfl rfl ?_)
    refine wp_of e272 c272_16 (rw_if_le (p1 := 27) (p2 := 19) (by decide) rfl ⟨Int.le_trans (by decide) b1128.1, Int.le_trans b1128.2 (by decide)⟩ (fun c1193 => ?_) (fun c1193 => ?_))
    · exfalso
      omega
    · refine wp_of e272 c272_19 (rw_aload_n (pc' := 20) (v := .ref r0) rfl rfl rfl ?_)
      refine wp_of e272 c272_20 (rw_iload_n (pc' := 21) (z := z1127) rfl rfl ?_)
      refine wp_of e272 c272_21 (xc_V (pc' := 24) (r := r0) (as := [vI z1127]) (st := []) (lm_9_54) rfl rfl (Nat.le_of_ble_eq_true rfl) w1125 g0 sh_42 (by decide) rfl (by decide) (s_170 w1125 g0 ⟨Int.le_trans (by decide) b1128.1, Int.le_trans b1128.2 (by decide)⟩) (fun R1194 T1195 H1196 p1197 => ?_))
      obtain ⟨e1198, w1200, f1201, z1202, e1199, b1203⟩ := p1197
      subst e1198
      subst e1199
      have f1204 := f1191.tr f1201 rfl
      show wp _ _ 272 24 [(2, vI z1127), (0, .ref r0), (1, vI a1)] [vI z1202] _ H1196 _
      refine wp_of e272 c272_24 (rw_goto (p1 := 46) (by decide) ?_)
      have k1205 : wKI H1196 r0 = wKI H1121 r0 := (wKI_fr w1125 g0 f1201 rfl)
      have h1206 : KNN T H1196 r0 e d := (KNN_fr w1125 g0 f1201 rfl a1145)
      exact wp_ireturn e272 c272_46 rfl ⟨rfl, w1200, f1204, z1202, rfl, ⟨b1203.1, b1203.2⟩, ⟨by omega, h1206⟩⟩
/-! StrikeAwakeModel.bars(I)I  -/
abbrev uq_275 (r0 : Nat) (a1 : Int) (e : xD) (d : xD) (T : wq_T) (H : wq_H) : Option Value → wq_T → wq_H → Prop := fun r T' H' => T = T' ∧ WT T H' ∧ wfr [(42, 0), (42, 1), (42, 2), (42, 28), (42, 29), (51, 999), (52, 999)] T H H' ∧ ∃ z : Int, some (vI z) = r ∧ ((-2147483648) ≤ z ∧ z ≤ 2147483647) ∧ (((wKI H' r0 = 1) ∧ KNN T H' r0 e d))
set_option maxHeartbeats 4000000 in
theorem u_275 {kt : Nat → Option mc_E} {T : wq_T} {H : wq_H} {r0 : Nat} {a1 : Int} {e : xD} {d : xD} (hW : WT T H) (g0 : T.2.2.2 r0 = some 42) (i1 : (-2147483648) ≤ a1 ∧ a1 ≤ 2147483647) (p0 : wKI H r0 = 1) (p1 : XW d) (p2 : ∀ h : Nat, d 0 0 ≤ (h : Int) → h < 24 → e 13 h = 0) (p3 : XN d) (p4 : ∀ h : Nat, h < 24 → 0 ≤ e 13 h ∧ e 13 h ≤ 100) (hRB_r0 : RB T H r0 e d) (hKNN_r0 : KNN T H r0 e d) : wpc kt 8 275 [.ref r0, vI a1] T H (uq_275 r0 a1 e d T H) := by
  refine wp_enter e275 (Nat.le_of_ble_eq_true rfl) rfl ?_
  have f0 : wfr [(42, 0), (42, 1), (42, 2), (42, 28), (42, 29), (51, 999), (52, 999)] T H H := wfr.rf
  show wp _ _ 275 0 [(0, .ref r0), (1, vI a1)] [] _ H _
  have _b := RB_b hW hRB_r0
  have _nu := RB_n3 hRB_r0
  have _lm := RB_lm hRB_r0
  refine wp_of e275 c275_0 (rw_aload_n (pc' := 1) (v := .ref r0) rfl rfl rfl ?_)
  refine wp_of e275 c275_1 (rw_iconst (pc' := 2) rfl ?_)
  refine wp_of e275 c275_2 (xp_I (pc' := 5) lf_9_48 hW g0 sh_42 (by decide) (by decide) ty_42_0 rfl rfl (by decide) (by decide) ⟨by decide, by decide⟩ rfl (fun H1100 e1101 w1102 => ?_))
  have f1103 := f0.put' e1101 g0 rfl
  have k1104 : H1100 r0 0 = 0 := wq_u_s e1101
  refine wp_of e275 c275_5 (rw_aload_n (pc' := 6) (v := .ref r0) rfl rfl rfl ?_)
  refine wp_of e275 c275_6 (rw_aload_n (pc' := 7) (v := .ref r0) rfl rfl rfl ?_)
  refine wp_of e275 c275_7 (rw_iload_n (pc' := 8) (z := a1) rfl rfl ?_)
  refine wp_of e275 c275_8 (xc_V (pc' := 11) (r := r0) (as := [vI a1]) (st := [.ref r0]) (lm_9_473) rfl rfl (Nat.le_of_ble_eq_true rfl) w1102 g0 sh_42 (by decide) rfl (by decide) (s_273 w1102 g0 ⟨i1.1, i1.2⟩) (fun R1105 T1106 H1107 p1108 => ?_))
  obtain ⟨e1109, e1111, z1113, e1110, b1114, p1112⟩ := p1108
  subst e1109
  subst e1110
  subst e1111
  show wp _ _ 275 11 [(0, .ref r0), (1, vI a1)] [vI z1113, .ref r0] _ H1100 _
  have k1115 : H1100 r0 3 = H r0 3 := (wq_u_j e1101 rfl)
  have k1116 : wKI H1100 r0 = wKI H r0 := (wKI_fr hW g0 ((wfr.rf (l := [(42, 0)])).put' e1101 g0 rfl) rfl)
  have h1117 : RB T H1100 r0 e d := (RB_fr hW g0 ((wfr.rf (l := [(42, 0)])).put' e1101 g0 rfl) rfl hRB_r0)
  have h1118 : KNN T H1100 r0 e d := (KNN_fr hW g0 ((wfr.rf (l := [(42, 0)])).put' e1101 g0 rfl) rfl hKNN_r0)
  refine wp_of e275 c275_11 (xc_V (pc' := 14) (r := r0) (as := [vI z1113]) (st := []) (lm_9_433) rfl rfl (Nat.le_of_ble_eq_true rfl) w1102 g0 sh_42 (by decide) rfl (by decide) (u_241 (e := e) (d := d) w1102 g0 ⟨b1114.1, b1114.2⟩ (by omega) (by omega) (by assumption) (by assumption) (by assumption) (by assumption) h1117 h1118) (fun R1119 T1120 H1121 p1122 => ?_))
  obtain ⟨e1123, w1125, f1126, z1127, e1124, b1128, p1129⟩ := p1122
  subst e1123
  subst e1124
  rcases p1129 with ⟨a1130, a1131, a1132, a1133, a1134, a1135, a1136, a1137, a1138⟩ | ⟨a1139, a1140, a1141, a1142, a1143, a1144, a1145⟩
  · have f1146 := f1103.tr f1126 rfl
    show wp _ _ 275 14 [(0, .ref r0), (1, vI a1)] [vI z1127] _ H1121 _
    have k1147 : wLM H1121 r0 = wLM H r0 := ((wLM_fr w1102 g0 f1126 rfl).trans (wLM_fr hW g0 ((wfr.rf (l := [(42, 0)])).put' e1101 g0 rfl) rfl))
    refine wp_of e275 c275_14 (rw_istore_n (pc' := 15) (z := z1127) (L' := [(2, vI z1127), (0, .ref r0), (1, vI a1)]) rfl rfl rfl ?_)
    refine wp_of e275 c275_15 (rw_iload_n (pc' := 16) (z := z1127) rfl rfl ?_)
    refine wp_of e275 c275_16 (rw_if_le (p1 := 25) (p2 := 19) (by decide) rfl ⟨Int.le_trans (by decide) b1128.1, Int.le_trans b1128.2 (by decide)⟩ (fun c1148 => ?_) (fun c1148 => ?_))
    · refine wp_of e275 c275_25 (rw_aload_n (pc' := 26) (v := .ref r0) rfl rfl rfl ?_)
      refine wp_of e275 c275_26 (rw_iload_n (pc' := 27) (z := a1) rfl rfl ?_)
      have k1149 : H1121 r0 3 = H1100 r0 3 := (f1126 r0 3 _ g0 rfl)
      obtain ⟨r1150, q1151, g1152⟩ := (w1125.opt g0 (t' := 54) (n := 33) (j := 3) (p := 0) (q := 0) rfl (by decide) rfl).resolve_left (by omega)
      refine wp_of e275 c275_27 (xc_V (pc' := 30) (r := r0) (as := [vI a1]) (st := []) (lm_9_476) rfl rfl (Nat.le_of_ble_eq_true rfl) w1125 g0 sh_42 (by decide) rfl (by decide) (s_274 w1125 g0 ⟨by omega, by omega⟩ q1151 g1152 (by omega)) (fun R1153 T1154 H1155 p1156 => ?_))
      obtain ⟨e1157, w1159, f1160, z1161, e1158, b1162⟩ := p1156
      subst e1157
      subst e1158
      have f1163 := f1146.tr f1160 rfl
      show wp _ _ 275 30 [(2, vI z1127), (0, .ref r0), (1, vI a1)] [vI z1161] _ H1155 _
      refine wp_of e275 c275_30 (rw_istore_n (pc' := 31) (z := z1161) (L' := [(3, vI z1161), (2, vI z1127), (0, .ref r0), (1, vI a1)]) rfl rfl rfl ?_)
      refine wp_of e275 c275_31 (rw_aload_n (pc' := 32) (v := .ref r0) rfl rfl rfl ?_)
      refine wp_of e275 c275_32 (rw_iload_n (pc' := 33) (z := z1161) rfl rfl ?_)
      refine wp_of e275 c275_33 (rw_bipush (pc' := 35) (z := 24) rfl (by decide) ?_)
      refine wp_of e275 c275_35 (rw_icmp_ne (p1 := 43) (p2 := 38) (by decide) rfl ⟨b1162.1, b1162.2⟩ ⟨by decide, by decide⟩ (fun c1164 => ?_) (fun c1164 => ?_))
      · refine wp_of e275 c275_43 (rw_iload_n (pc' := 44) (z := z1161) rfl rfl ?_)
        refine wp_of e275 c275_44 (xc_V (pc' := 47) (r := r0) (as := [vI z1161]) (st := []) (lm_9_58) rfl rfl (Nat.le_of_ble_eq_true rfl) w1159 g0 sh_42 (by decide) rfl (by decide) (s_209 w1159 g0 ⟨b1162.1, b1162.2⟩) (fun R1165 T1166 H1167 p1168 => ?_))
        obtain ⟨e1169, w1171, f1172, z1173, e1170, b1174⟩ := p1168
        subst e1169
        subst e1170
        have f1175 := f1163.tr f1172 rfl
        show wp _ _ 275 47 [(3, vI z1161), (2, vI z1127), (0, .ref r0), (1, vI a1)] [vI z1173] _ H1167 _
        have k1176 : wKI H1167 r0 = wKI H1121 r0 := ((wKI_fr w1159 g0 f1172 rfl).trans (wKI_fr w1125 g0 f1160 rfl))
        have h1177 : KNN T H1167 r0 e d := (KNN_fr w1159 g0 f1172 rfl (KNN_fr w1125 g0 f1160 rfl a1137))
        exact wp_ireturn e275 c275_47 rfl ⟨rfl, w1171, f1175, z1173, rfl, ⟨b1174.1, b1174.2⟩, ⟨by omega, h1177⟩⟩
      · refine wp_of e275 c275_38 (rw_bipush (pc' := 40) (z := -2) rfl (by decide) ?_)
        refine wp_of e275 c275_40 (rw_goto (p1 := 44) (by decide) ?_)
        refine wp_of e275 c275_44 (xc_V (pc' := 47) (r := r0) (as := [vI (-2)]) (st := []) (lm_9_58) rfl rfl (Nat.le_of_ble_eq_true rfl) w1159 g0 sh_42 (by decide) rfl (by decide) (s_209 w1159 g0 ⟨by decide, by decide⟩) (fun R1178 T1179 H1180 p1181 => ?_))
        obtain ⟨e1182, w1184, f1185, z1186, e1183, b1187⟩ := p1181
        subst e1182
        subst e1183
        have f1188 := f1163.tr f1185 rfl
        show wp _ _ 275 47 [(3, vI z1161), (2, vI z1127), (0, .ref r0), (1, vI a1)] [vI z1186] _ H1180 _
        have k1189 : wKI H1180 r0 = wKI H1121 r0 := ((wKI_fr w1159 g0 f1185 rfl).trans (wKI_fr w1125 g0 f1160 rfl))
        have h1190 : KNN T H1180 r0 e d := (KNN_fr w1159 g0 f1185 rfl (KNN_fr w1125 g0 f1160 rfl a1137))
        exact wp_ireturn e275 c275_47 rfl ⟨rfl, w1184, f1188, z1186, rfl, ⟨b1187.1, b1187.2⟩, ⟨by omega, h1190⟩⟩
    · exfalso
      omega
  · have f1191 := f1103.tr f1126 rfl
    show wp _ _ 275 14 [(0, .ref r0), (1, vI a1)] [vI z1127] _ H1121 _
    have k1192 : wLM H1121 r0 = wLM H r0 := ((wLM_fr w1102 g0 f1126 rfl).trans (wLM_fr hW g0 ((wfr.rf (l := [(42, 0)])).put' e1101 g0 rfl) rfl))
    refine wp_of e275 c275_14 (rw_istore_n (pc' := 15) (z := z1127) (L' := [(2, vI z1127), (0, .ref r0), (1, vI a1)]) rfl rfl rfl ?_)
    refine wp_of e275 c275_15 (rw_iload_n (pc' := 16) (z := z1127) rfl rfl ?_)
    refine wp_of e275 c275_16 (rw_if_le (p1 := 25) (p2 := 19) (by decide) rfl ⟨Int.le_trans (by decide) b1128.1, Int.le_trans b1128.2 (by decide)⟩ (fun c1193 => ?_) (fun c1193 => ?_))
    · exfalso
      omega
    · refine wp_of e275 c275_19 (rw_aload_n (pc' := 20) (v := .ref r0) rfl rfl rfl ?_)
      refine wp_of e275 c275_20 (rw_iload_n (pc' := 21) (z := z1127) rfl rfl ?_)
      refine wp_of e275 c275_21 (xc_V (pc' := 24) (r := r0) (as := [vI z1127]) (st := []) (lm_9_54) rfl rfl (Nat.le_of_ble_eq_true rfl) w1125 g0 sh_42 (by decide) rfl (by decide) (s_170 w1125 g0 ⟨Int.le_trans (by decide) b1128.1, Int.le_trans b1128.2 (by decide)⟩) (fun R1194 T1195 H1196 p1197 => ?_))
      obtain ⟨e1198, w1200, f1201, z1202, e1199, b1203⟩ := p1197
      subst e1198
      subst e1199
      have f1204 := f1191.tr f1201 rfl
      show wp _ _ 275 24 [(2, vI z1127), (0, .ref r0), (1, vI a1)] [vI z1202] _ H1196 _
      have k1205 : wKI H1196 r0 = wKI H1121 r0 := (wKI_fr w1125 g0 f1201 rfl)
      have h1206 : KNN T H1196 r0 e d := (KNN_fr w1125 g0 f1201 rfl a1145)
      exact wp_ireturn e275 c275_24 rfl ⟨rfl, w1200, f1204, z1202, rfl, ⟨b1203.1, b1203.2⟩, ⟨by omega, h1206⟩⟩
/-! StrikeAwakeModel.proof()I  -/
abbrev uq_276 (r0 : Nat) (e : xD) (d : xD) (T : wq_T) (H : wq_H) : Option Value → wq_T → wq_H → Prop := fun r T' H' => T = T' ∧ WT T H' ∧ wfr [(42, 0), (42, 1), (42, 2), (42, 28), (42, 29), (51, 999), (52, 999)] T H H' ∧ ∃ z : Int, some (vI z) = r ∧ ((-2147483648) ≤ z ∧ z ≤ 2147483647) ∧ (((z = -1) ∧ (wKI H' r0 = 1) ∧ (H r0 3 = -1 ∨ 5000 < xlots d ∨ 0 < xcn (xwf e d) (xlots d).toNat) ∧ KNN T H' r0 e d) ∨ ((-2 ≤ z ∧ z ≤ 16777215) ∧ (wKI H' r0 = 1) ∧ (H r0 3 ≠ -1 ∧ xlots d ≤ 5000 ∧ xcn (xwf e d) (xlots d).toNat ≤ 0) ∧ (XPF (e 13) (XPV e d (xlots d).toNat) z) ∧ KNN T H' r0 e d))
set_option maxHeartbeats 4000000 in
theorem u_276 {kt : Nat → Option mc_E} {T : wq_T} {H : wq_H} {r0 : Nat} {e : xD} {d : xD} (hW : WT T H) (g0 : T.2.2.2 r0 = some 42) (p0 : wKI H r0 = 1) (p1 : XW d) (p2 : ∀ h : Nat, d 0 0 ≤ (h : Int) → h < 24 → e 13 h = 0) (p3 : XN d) (p4 : ∀ h : Nat, h < 24 → 0 ≤ e 13 h ∧ e 13 h ≤ 100) (hRB_r0 : RB T H r0 e d) (hKNN_r0 : KNN T H r0 e d) : wpc kt 8 276 [.ref r0] T H (uq_276 r0 e d T H) := by
  refine wp_enter e276 (Nat.le_of_ble_eq_true rfl) rfl ?_
  have f0 : wfr [(42, 0), (42, 1), (42, 2), (42, 28), (42, 29), (51, 999), (52, 999)] T H H := wfr.rf
  show wp _ _ 276 0 [(0, .ref r0)] [] _ H _
  have _b := RB_b hW hRB_r0
  have _nu := RB_n3 hRB_r0
  have _lm := RB_lm hRB_r0
  have _xw := (by assumption : XW d)
  refine wp_of e276 c276_0 (rw_aload_n (pc' := 1) (v := .ref r0) rfl rfl rfl ?_)
  refine wp_of e276 c276_1 (rw_iconst (pc' := 2) rfl ?_)
  refine wp_of e276 c276_2 (xp_I (pc' := 5) lf_9_48 hW g0 sh_42 (by decide) (by decide) ty_42_0 rfl rfl (by decide) (by decide) ⟨by decide, by decide⟩ rfl (fun H1517 e1518 w1519 => ?_))
  have f1520 := f0.put' e1518 g0 rfl
  have k1521 : H1517 r0 0 = 0 := wq_u_s e1518
  refine wp_of e276 c276_5 (rw_aload_n (pc' := 6) (v := .ref r0) rfl rfl rfl ?_)
  refine wp_of e276 c276_6 (rw_aload_n (pc' := 7) (v := .ref r0) rfl rfl rfl ?_)
  have k1522 : H1517 r0 3 = H r0 3 := (wq_u_j e1518 rfl)
  refine wp_of e276 c276_7 (xg_O (pc' := 10) lf_9_337 w1519 g0 sh_42 (by decide) (by decide) ty_42_3 rfl rfl (fun q1524 => ?_) (fun r1523 q1524 g1525 => ?_))
  · refine wp_of e276 c276_10 (rw_ifnull_n (p1 := 17) (p2 := 13) (by decide) rfl ?_)
    refine wp_of e276 c276_17 (rw_iconst (pc' := 18) rfl ?_)
    have k1526 : wKI H1517 r0 = wKI H r0 := (wKI_fr hW g0 ((wfr.rf (l := [(42, 0)])).put' e1518 g0 rfl) rfl)
    have h1527 : RB T H1517 r0 e d := (RB_fr hW g0 ((wfr.rf (l := [(42, 0)])).put' e1518 g0 rfl) rfl hRB_r0)
    have h1528 : KNN T H1517 r0 e d := (KNN_fr hW g0 ((wfr.rf (l := [(42, 0)])).put' e1518 g0 rfl) rfl hKNN_r0)
    refine wp_of e276 c276_18 (xc_V (pc' := 21) (r := r0) (as := [vI 0]) (st := []) (lm_9_433) rfl rfl (Nat.le_of_ble_eq_true rfl) w1519 g0 sh_42 (by decide) rfl (by decide) (u_241 (e := e) (d := d) w1519 g0 ⟨by decide, by decide⟩ (by omega) (by omega) (by assumption) (by assumption) (by assumption) (by assumption) h1527 h1528) (fun R1529 T1530 H1531 p1532 => ?_))
    obtain ⟨e1533, w1535, f1536, z1537, e1534, b1538, p1539⟩ := p1532
    subst e1533
    subst e1534
    rcases p1539 with ⟨a1540, a1541, a1542, a1543, a1544, a1545, a1546, a1547, a1548⟩ | ⟨a1549, a1550, a1551, a1552, a1553, a1554, a1555⟩
    · exfalso
      omega
    · have f1556 := f1520.tr f1536 rfl
      show wp _ _ 276 21 [(0, .ref r0)] [vI z1537] _ H1531 _
      refine wp_of e276 c276_21 (rw_istore_n (pc' := 22) (z := z1537) (L' := [(1, vI z1537), (0, .ref r0)]) rfl rfl rfl ?_)
      refine wp_of e276 c276_22 (rw_iload_n (pc' := 23) (z := z1537) rfl rfl ?_)
      refine wp_of e276 c276_23 (rw_if_ne (p1 := 39) (p2 := 26) (by decide) rfl ⟨Int.le_trans (by decide) b1538.1, Int.le_trans b1538.2 (by decide)⟩ (fun c1557 => ?_) (fun c1557 => ?_))
      · refine wp_of e276 c276_39 (rw_iload_n (pc' := 40) (z := z1537) rfl rfl ?_)
        refine wp_of e276 c276_40 (rw_if_ne (p1 := 52) (p2 := 43) (by decide) rfl ⟨Int.le_trans (by decide) b1538.1, Int.le_trans b1538.2 (by decide)⟩ (fun c1558 => ?_) (fun c1558 => ?_))
        · refine wp_of e276 c276_52 (rw_iload_n (pc' := 53) (z := z1537) rfl rfl ?_)
          refine wp_of e276 c276_53 (rw_if_le (p1 := 62) (p2 := 56) (by decide) rfl ⟨Int.le_trans (by decide) b1538.1, Int.le_trans b1538.2 (by decide)⟩ (fun c1559 => ?_) (fun c1559 => ?_))
          · exfalso
            omega
          · refine wp_of e276 c276_56 (rw_aload_n (pc' := 57) (v := .ref r0) rfl rfl rfl ?_)
            refine wp_of e276 c276_57 (rw_iload_n (pc' := 58) (z := z1537) rfl rfl ?_)
            refine wp_of e276 c276_58 (xc_V (pc' := 61) (r := r0) (as := [vI z1537]) (st := []) (lm_9_54) rfl rfl (Nat.le_of_ble_eq_true rfl) w1535 g0 sh_42 (by decide) rfl (by decide) (u_170  w1535 g0 ⟨Int.le_trans (by decide) b1538.1, Int.le_trans b1538.2 (by decide)⟩) (fun R1560 T1561 H1562 p1563 => ?_))
            obtain ⟨e1564, w1566, f1567, z1568, e1565, b1569, p1570⟩ := p1563
            subst e1564
            subst e1565
            obtain ⟨a1571, a1572, a1573⟩ := p1570
            have f1574 := f1556.tr f1567 rfl
            show wp _ _ 276 61 [(1, vI z1537), (0, .ref r0)] [vI z1568] _ H1562 _
            have k1575 : wKI H1562 r0 = wKI H1531 r0 := (wKI_fr w1535 g0 f1567 rfl)
            have h1576 : KNN T H1562 r0 e d := (KNN_fr w1535 g0 f1567 rfl a1555)
            exact wp_ireturn e276 c276_61 rfl ⟨rfl, w1566, f1574, z1568, rfl, ⟨b1569.1, b1569.2⟩, (Or.inl ⟨by omega, by omega, by omega, h1576⟩)⟩
        · exfalso
          omega
      · exfalso
        omega
  · refine wp_of e276 c276_10 (rw_ifnull_r (p1 := 17) (p2 := 13) (by decide) rfl ?_)
    refine wp_of e276 c276_13 (rw_iconst (pc' := 14) rfl ?_)
    refine wp_of e276 c276_14 (rw_goto (p1 := 18) (by decide) ?_)
    have k1577 : wKI H1517 r0 = wKI H r0 := (wKI_fr hW g0 ((wfr.rf (l := [(42, 0)])).put' e1518 g0 rfl) rfl)
    have h1578 : RB T H1517 r0 e d := (RB_fr hW g0 ((wfr.rf (l := [(42, 0)])).put' e1518 g0 rfl) rfl hRB_r0)
    have h1579 : KNN T H1517 r0 e d := (KNN_fr hW g0 ((wfr.rf (l := [(42, 0)])).put' e1518 g0 rfl) rfl hKNN_r0)
    refine wp_of e276 c276_18 (xc_V (pc' := 21) (r := r0) (as := [vI 1]) (st := []) (lm_9_433) rfl rfl (Nat.le_of_ble_eq_true rfl) w1519 g0 sh_42 (by decide) rfl (by decide) (u_241 (e := e) (d := d) w1519 g0 ⟨by decide, by decide⟩ (by omega) (by omega) (by assumption) (by assumption) (by assumption) (by assumption) h1578 h1579) (fun R1580 T1581 H1582 p1583 => ?_))
    obtain ⟨e1584, w1586, f1587, z1588, e1585, b1589, p1590⟩ := p1583
    subst e1584
    subst e1585
    rcases p1590 with ⟨a1591, a1592, a1593, a1594, a1595, a1596, a1597, a1598, a1599⟩ | ⟨a1600, a1601, a1602, a1603, a1604, a1605, a1606⟩
    · have f1607 := f1520.tr f1587 rfl
      show wp _ _ 276 21 [(0, .ref r0)] [vI z1588] _ H1582 _
      refine wp_of e276 c276_21 (rw_istore_n (pc' := 22) (z := z1588) (L' := [(1, vI z1588), (0, .ref r0)]) rfl rfl rfl ?_)
      have _kb := (a1599).1
      refine wp_of e276 c276_22 (rw_iload_n (pc' := 23) (z := z1588) rfl rfl ?_)
      refine wp_of e276 c276_23 (rw_if_ne (p1 := 39) (p2 := 26) (by decide) rfl ⟨Int.le_trans (by decide) b1589.1, Int.le_trans b1589.2 (by decide)⟩ (fun c1608 => ?_) (fun c1608 => ?_))
      · exfalso
        omega
      · have k1609 : wLM H1582 r0 = wLM H r0 := ((wLM_fr w1519 g0 f1587 rfl).trans (wLM_fr hW g0 ((wfr.rf (l := [(42, 0)])).put' e1518 g0 rfl) rfl))
        refine wp_of e276 c276_26 (rw_aload_n (pc' := 27) (v := .ref r0) rfl rfl rfl ?_)
        have k1610 : H1582 r0 3 = H1517 r0 3 := (f1587 r0 3 _ g0 rfl)
        have q1611 : H1582 r0 3 = (r1523 : Int) := k1610.trans q1524
        refine wp_of e276 c276_27 (xc_V (pc' := 30) (r := r0) (as := []) (st := []) (lm_9_376) rfl rfl (Nat.le_of_ble_eq_true rfl) w1586 g0 sh_42 (by decide) rfl (by decide) (s_220 w1586 g0 q1611 g1525) (fun R1612 T1613 H1614 p1615 => ?_))
        obtain ⟨e1616, e1618, z1620, e1617, b1621, p1619⟩ := p1615
        subst e1616
        subst e1617
        subst e1618
        show wp _ _ 276 30 [(1, vI z1588), (0, .ref r0)] [vL z1620] _ H1582 _
        refine wp_of e276 c276_30 (rw_ldc2 (pc' := 33) (z := 5000) rfl rfl rfl ?_)
        refine wp_of e276 c276_33 (rw_lcmp (pc' := 34) rfl ⟨Int.le_trans (by decide) b1621.1, Int.le_trans b1621.2 (by decide)⟩ ⟨by decide, by decide⟩ ?_)
        have b1622 := wq_cmp_b z1620 5000
        refine wp_of e276 c276_34 (rw_if_le (p1 := 39) (p2 := 37) (by decide) rfl ⟨by omega, by omega⟩ (fun c1623 => ?_) (fun c1623 => ?_))
        · refine wp_of e276 c276_39 (rw_iload_n (pc' := 40) (z := z1588) rfl rfl ?_)
          refine wp_of e276 c276_40 (rw_if_ne (p1 := 52) (p2 := 43) (by decide) rfl ⟨Int.le_trans (by decide) b1589.1, Int.le_trans b1589.2 (by decide)⟩ (fun c1624 => ?_) (fun c1624 => ?_))
          · exfalso
            omega
          · refine wp_of e276 c276_43 (rw_aload_n (pc' := 44) (v := .ref r0) rfl rfl rfl ?_)
            refine wp_of e276 c276_44 (xg_I (pc' := 47) lf_9_422 w1586 g0 sh_42 (by decide) (by decide) ty_42_29 rfl rfl (fun b1625 b1626 => ?_))
            refine wp_of e276 c276_47 (rw_if_le (p1 := 52) (p2 := 50) (by decide) rfl ⟨Int.le_trans (by decide) b1625, Int.le_trans b1626 (by decide)⟩ (fun c1627 => ?_) (fun c1627 => ?_))
            · refine wp_of e276 c276_52 (rw_iload_n (pc' := 53) (z := z1588) rfl rfl ?_)
              refine wp_of e276 c276_53 (rw_if_le (p1 := 62) (p2 := 56) (by decide) rfl ⟨Int.le_trans (by decide) b1589.1, Int.le_trans b1589.2 (by decide)⟩ (fun c1628 => ?_) (fun c1628 => ?_))
              · have h1629 : RB T H1582 r0 e d := (RB_fr w1519 g0 f1587 rfl h1578)
                have _kbb := a1599
                have _kb := _kbb.1
                have _n3 : H1582 r0 3 ≠ -1 := by omega
                have _rp := RB_at h1629 q1611
                have _k := RP_k _rp
                have _nb := xcn_b (f := xwf e d) (xlots d).toNat
                have h1630 : KL T H1582 r0 (xwf e d) (xlots d).toNat := _kbb.2
                have _ar := RB_ar h1629 (by omega)
                have _pk := _ar.1
                have h1631 : MN20 T H1582 r0 24 (e 13) := _ar.2.2.1
                refine wp_of e276 c276_62 (rw_aload_n (pc' := 63) (v := .ref r0) rfl rfl rfl ?_)
                refine wp_of e276 c276_63 (xc_V (pc' := 66) (r := r0) (as := []) (st := []) (lm_9_357) rfl rfl (Nat.le_of_ble_eq_true rfl) w1586 g0 sh_42 (by decide) rfl (by decide) (u_207 (f := ((e 13))) w1586 g0 h1631) (fun R1632 T1633 H1634 p1635 => ?_))
                obtain ⟨e1636, e1638, z1639, e1637, b1640, p1641⟩ := p1635
                subst e1636
                subst e1637
                subst e1638
                show wp _ _ 276 66 [(1, vI z1588), (0, .ref r0)] [vI z1639] _ H1582 _
                refine wp_of e276 c276_66 (rw_istore_n (pc' := 67) (z := z1639) (L' := [(2, vI z1639), (1, vI z1588), (0, .ref r0)]) rfl rfl rfl ?_)
                refine wp_of e276 c276_67 (rw_iconst (pc' := 68) rfl ?_)
                refine wp_of e276 c276_68 (rw_istore_n (pc' := 69) (z := 0) (L' := [(3, vI 0), (2, vI z1639), (1, vI z1588), (0, .ref r0)]) rfl rfl rfl ?_)
                have lp1733 : ∀ (n1734 : Nat) (v1736 : Int) (H1737 : wq_H), WT T H1737 → wfr [(51, 999)] T H1582 H1737 → (0 ≤ v1736 ∧ v1736 ≤ 4) → (XPM (e 13) (XPV e d (xlots d).toNat) v1736) → (4 - v1736).toNat = n1734 → wp kt 7 276 69 [(3, vI v1736), (2, vI z1639), (0, .ref r0)] [] T H1737 (uq_276 r0 e d T H) := by
                  intro n1734
                  induction n1734 using Nat.strongRecOn with
                  | _ n1734 ih1735 =>
                    intro v1736 H1737 w1738 f1739 b1740 x1742 m1741
                    have f1743 := f1607.tr f1739 rfl
                    refine wp_of e276 c276_69 (rw_iload_n (pc' := 70) (z := v1736) rfl rfl ?_)
                    refine wp_of e276 c276_70 (rw_iconst (pc' := 71) rfl ?_)
                    refine wp_of e276 c276_71 (rw_icmp_ge (p1 := 101) (p2 := 74) (by decide) rfl ⟨Int.le_trans (by decide) b1740.1, Int.le_trans b1740.2 (by decide)⟩ ⟨by decide, by decide⟩ (fun c1744 => ?_) (fun c1744 => ?_))
                    · have _z : XPF (e 13) (XPV e d (xlots d).toNat) (-2) := XPM_e (by assumption : XPM (e 13) (XPV e d (xlots d).toNat) v1736) (by omega)
                      refine wp_of e276 c276_101 (rw_aload_n (pc' := 102) (v := .ref r0) rfl rfl rfl ?_)
                      refine wp_of e276 c276_102 (rw_bipush (pc' := 104) (z := -2) rfl (by decide) ?_)
                      refine wp_of e276 c276_104 (xc_V (pc' := 107) (r := r0) (as := [vI (-2)]) (st := []) (lm_9_58) rfl rfl (Nat.le_of_ble_eq_true rfl) w1738 g0 sh_42 (by decide) rfl (by decide) (u_209  w1738 g0 ⟨by decide, by decide⟩) (fun R1745 T1746 H1747 p1748 => ?_))
                      obtain ⟨e1749, w1751, f1752, z1753, e1750, b1754, p1755⟩ := p1748
                      subst e1749
                      subst e1750
                      obtain ⟨a1756, a1757, a1758⟩ := p1755
                      have f1759 := f1743.tr f1752 rfl
                      show wp _ _ 276 107 [(3, vI v1736), (2, vI z1639), (0, .ref r0)] [vI z1753] _ H1747 _
                      have k1760 : wKI H1747 r0 = wKI H1582 r0 := ((wKI_fr w1738 g0 f1752 rfl).trans (wKI_fr w1586 g0 f1739 rfl))
                      have h1761 : KNN T H1747 r0 e d := (KNN_fr w1738 g0 f1752 rfl (KNN_fr w1586 g0 f1739 rfl a1598))
                      exact wp_ireturn e276 c276_107 rfl ⟨rfl, w1751, f1759, z1753, rfl, ⟨b1754.1, b1754.2⟩, (Or.inr ⟨by omega, by omega, by omega, XPF_z _z (by omega), h1761⟩)⟩
                    · refine wp_of e276 c276_74 (rw_aload_n (pc' := 75) (v := .ref r0) rfl rfl rfl ?_)
                      have k1762 : wLM H1737 r0 = wLM H1582 r0 := (wLM_fr w1586 g0 f1739 rfl)
                      refine wp_of e276 c276_75 (rw_iload_n (pc' := 76) (z := z1639) rfl rfl ?_)
                      refine wp_of e276 c276_76 (rw_iload_n (pc' := 77) (z := v1736) rfl rfl ?_)
                      have k1763 : H1737 r0 3 = H1582 r0 3 := (f1739 r0 3 _ g0 rfl)
                      have q1764 : H1737 r0 3 = (r1523 : Int) := k1763.trans q1611
                      have h1765 : RB T H1737 r0 e d := (RB_fr w1586 g0 f1739 rfl h1629)
                      refine wp_of e276 c276_77 (xc_V (pc' := 80) (r := r0) (as := [vI z1639, vI v1736]) (st := []) (lm_9_481) rfl rfl (Nat.le_of_ble_eq_true rfl) w1738 g0 sh_42 (by decide) rfl (by decide) (u_277 (e := e) (d := d) w1738 g0 ⟨b1640.1, b1640.2⟩ ⟨b1740.1, by omega⟩ q1764 g1525 (by omega) (by assumption) (by assumption) (by assumption) (by assumption) (by omega) h1765) (fun R1766 T1767 H1768 p1769 => ?_))
                      obtain ⟨e1770, w1772, f1773, z1774, e1771, b1775, p1776⟩ := p1769
                      subst e1770
                      subst e1771
                      have f1778 := f1743.tr f1773 rfl
                      have f1779 := f1739.tr f1773 rfl
                      show wp _ _ 276 80 [(3, vI v1736), (2, vI z1639), (0, .ref r0)] [vI z1774] _ H1768 _
                      have _lb := XLP_b (by assumption : XLP (e 13) (XPV e d (xlots d).toNat) v1736 z1774)
                      refine wp_of e276 c276_80 (rw_istore (pc' := 82) (z := z1774) (L' := [(4, vI z1774), (3, vI v1736), (2, vI z1639), (0, .ref r0)]) rfl rfl rfl ?_)
                      refine wp_of e276 c276_82 (rw_iload (pc' := 84) (z := z1774) rfl rfl ?_)
                      refine wp_of e276 c276_84 (rw_iconst (pc' := 85) rfl ?_)
                      refine wp_of e276 c276_85 (rw_icmp_eq (p1 := 95) (p2 := 88) (by decide) rfl ⟨Int.le_trans (by decide) b1775.1, Int.le_trans b1775.2 (by decide)⟩ ⟨by decide, by decide⟩ (fun c1780 => ?_) (fun c1780 => ?_))
                      · have _q : XPM (e 13) (XPV e d (xlots d).toNat) (v1736 + 1) := XPM_n (by assumption : XPM (e 13) (XPV e d (xlots d).toNat) v1736) (by assumption : XLP (e 13) (XPV e d (xlots d).toNat) v1736 z1774) (by omega)
                        refine wp_of e276 c276_95 (rw_iinc (pc' := 98) (z := v1736) (L' := [(3, vI (v1736 + 1)), (4, vI z1774), (2, vI z1639), (0, .ref r0)]) rfl rfl rfl rfl ?_)
                        refine wp_of e276 c276_98 (rw_goto (p1 := 69) (by decide) ?_)
                        exact wp_lc (ks := [3, 4, 2, 0]) (wl_c rfl (wl_c rfl (wl_c rfl wl_n))) rfl (by decide) (ih1735 _ (by omega) (v1736 + 1) H1768 w1772 f1779 ⟨by omega, by omega⟩ (_q) rfl)
                      · have _z : XPF (e 13) (XPV e d (xlots d).toNat) z1774 := XPM_f (by assumption : XPM (e 13) (XPV e d (xlots d).toNat) v1736) (by assumption : XLP (e 13) (XPV e d (xlots d).toNat) v1736 z1774) (by omega)
                        refine wp_of e276 c276_88 (rw_aload_n (pc' := 89) (v := .ref r0) rfl rfl rfl ?_)
                        refine wp_of e276 c276_89 (rw_iload (pc' := 91) (z := z1774) rfl rfl ?_)
                        refine wp_of e276 c276_91 (xc_V (pc' := 94) (r := r0) (as := [vI z1774]) (st := []) (lm_9_58) rfl rfl (Nat.le_of_ble_eq_true rfl) w1772 g0 sh_42 (by decide) rfl (by decide) (u_209  w1772 g0 ⟨Int.le_trans (by decide) b1775.1, Int.le_trans b1775.2 (by decide)⟩) (fun R1781 T1782 H1783 p1784 => ?_))
                        obtain ⟨e1785, w1787, f1788, z1789, e1786, b1790, p1791⟩ := p1784
                        subst e1785
                        subst e1786
                        obtain ⟨a1792, a1793, a1794⟩ := p1791
                        have f1795 := f1778.tr f1788 rfl
                        show wp _ _ 276 94 [(4, vI z1774), (3, vI v1736), (2, vI z1639), (0, .ref r0)] [vI z1789] _ H1783 _
                        have k1796 : wKI H1783 r0 = wKI H1582 r0 := ((wKI_fr w1772 g0 f1788 rfl).trans ((wKI_fr w1738 g0 f1773 rfl).trans (wKI_fr w1586 g0 f1739 rfl)))
                        have h1797 : KNN T H1783 r0 e d := (KNN_fr w1772 g0 f1788 rfl (KNN_fr w1738 g0 f1773 rfl (KNN_fr w1586 g0 f1739 rfl a1598)))
                        exact wp_ireturn e276 c276_94 rfl ⟨rfl, w1787, f1795, z1789, rfl, ⟨b1790.1, b1790.2⟩, (Or.inr ⟨by omega, by omega, by omega, XPF_z _z (by omega), h1797⟩)⟩
                exact wp_lc (ks := [3, 2, 1, 0]) (wl_c rfl (wl_c rfl (wl_c rfl wl_n))) rfl (by decide) (lp1733 _ 0 H1582 w1586 wfr.rf ⟨by decide, by decide⟩ (XPM_0) rfl)
              · exfalso
                omega
            · refine wp_of e276 c276_50 (rw_iconst (pc' := 51) rfl ?_)
              refine wp_of e276 c276_51 (rw_istore_n (pc' := 52) (z := 5) (L' := [(1, vI 5), (0, .ref r0)]) rfl rfl rfl ?_)
              refine wp_of e276 c276_52 (rw_iload_n (pc' := 53) (z := 5) rfl rfl ?_)
              refine wp_of e276 c276_53 (rw_if_le (p1 := 62) (p2 := 56) (by decide) rfl ⟨by decide, by decide⟩ (fun c1798 => ?_) (fun c1798 => ?_))
              · exfalso
                omega
              · refine wp_of e276 c276_56 (rw_aload_n (pc' := 57) (v := .ref r0) rfl rfl rfl ?_)
                refine wp_of e276 c276_57 (rw_iload_n (pc' := 58) (z := 5) rfl rfl ?_)
                refine wp_of e276 c276_58 (xc_V (pc' := 61) (r := r0) (as := [vI 5]) (st := []) (lm_9_54) rfl rfl (Nat.le_of_ble_eq_true rfl) w1586 g0 sh_42 (by decide) rfl (by decide) (u_170  w1586 g0 ⟨by decide, by decide⟩) (fun R1799 T1800 H1801 p1802 => ?_))
                obtain ⟨e1803, w1805, f1806, z1807, e1804, b1808, p1809⟩ := p1802
                subst e1803
                subst e1804
                obtain ⟨a1810, a1811, a1812⟩ := p1809
                have f1813 := f1607.tr f1806 rfl
                show wp _ _ 276 61 [(1, vI 5), (0, .ref r0)] [vI z1807] _ H1801 _
                have k1814 : wKI H1801 r0 = wKI H1582 r0 := (wKI_fr w1586 g0 f1806 rfl)
                have h1815 : KNN T H1801 r0 e d := (KNN_fr w1586 g0 f1806 rfl a1598)
                exact wp_ireturn e276 c276_61 rfl ⟨rfl, w1805, f1813, z1807, rfl, ⟨b1808.1, b1808.2⟩, (Or.inl ⟨by omega, by omega, by omega, h1815⟩)⟩
        · refine wp_of e276 c276_37 (rw_iconst (pc' := 38) rfl ?_)
          refine wp_of e276 c276_38 (rw_istore_n (pc' := 39) (z := 3) (L' := [(1, vI 3), (0, .ref r0)]) rfl rfl rfl ?_)
          refine wp_of e276 c276_39 (rw_iload_n (pc' := 40) (z := 3) rfl rfl ?_)
          refine wp_of e276 c276_40 (rw_if_ne (p1 := 52) (p2 := 43) (by decide) rfl ⟨by decide, by decide⟩ (fun c1816 => ?_) (fun c1816 => ?_))
          · refine wp_of e276 c276_52 (rw_iload_n (pc' := 53) (z := 3) rfl rfl ?_)
            refine wp_of e276 c276_53 (rw_if_le (p1 := 62) (p2 := 56) (by decide) rfl ⟨by decide, by decide⟩ (fun c1817 => ?_) (fun c1817 => ?_))
            · exfalso
              omega
            · refine wp_of e276 c276_56 (rw_aload_n (pc' := 57) (v := .ref r0) rfl rfl rfl ?_)
              refine wp_of e276 c276_57 (rw_iload_n (pc' := 58) (z := 3) rfl rfl ?_)
              refine wp_of e276 c276_58 (xc_V (pc' := 61) (r := r0) (as := [vI 3]) (st := []) (lm_9_54) rfl rfl (Nat.le_of_ble_eq_true rfl) w1586 g0 sh_42 (by decide) rfl (by decide) (u_170  w1586 g0 ⟨by decide, by decide⟩) (fun R1818 T1819 H1820 p1821 => ?_))
              obtain ⟨e1822, w1824, f1825, z1826, e1823, b1827, p1828⟩ := p1821
              subst e1822
              subst e1823
              obtain ⟨a1829, a1830, a1831⟩ := p1828
              have f1832 := f1607.tr f1825 rfl
              show wp _ _ 276 61 [(1, vI 3), (0, .ref r0)] [vI z1826] _ H1820 _
              have k1833 : wKI H1820 r0 = wKI H1582 r0 := (wKI_fr w1586 g0 f1825 rfl)
              have h1834 : KNN T H1820 r0 e d := (KNN_fr w1586 g0 f1825 rfl a1598)
              exact wp_ireturn e276 c276_61 rfl ⟨rfl, w1824, f1832, z1826, rfl, ⟨b1827.1, b1827.2⟩, (Or.inl ⟨by omega, by omega, by omega, h1834⟩)⟩
          · exfalso
            omega
    · have f1835 := f1520.tr f1587 rfl
      show wp _ _ 276 21 [(0, .ref r0)] [vI z1588] _ H1582 _
      refine wp_of e276 c276_21 (rw_istore_n (pc' := 22) (z := z1588) (L' := [(1, vI z1588), (0, .ref r0)]) rfl rfl rfl ?_)
      refine wp_of e276 c276_22 (rw_iload_n (pc' := 23) (z := z1588) rfl rfl ?_)
      refine wp_of e276 c276_23 (rw_if_ne (p1 := 39) (p2 := 26) (by decide) rfl ⟨Int.le_trans (by decide) b1589.1, Int.le_trans b1589.2 (by decide)⟩ (fun c1836 => ?_) (fun c1836 => ?_))
      · refine wp_of e276 c276_39 (rw_iload_n (pc' := 40) (z := z1588) rfl rfl ?_)
        refine wp_of e276 c276_40 (rw_if_ne (p1 := 52) (p2 := 43) (by decide) rfl ⟨Int.le_trans (by decide) b1589.1, Int.le_trans b1589.2 (by decide)⟩ (fun c1837 => ?_) (fun c1837 => ?_))
        · refine wp_of e276 c276_52 (rw_iload_n (pc' := 53) (z := z1588) rfl rfl ?_)
          refine wp_of e276 c276_53 (rw_if_le (p1 := 62) (p2 := 56) (by decide) rfl ⟨Int.le_trans (by decide) b1589.1, Int.le_trans b1589.2 (by decide)⟩ (fun c1838 => ?_) (fun c1838 => ?_))
          · exfalso
            omega
          · refine wp_of e276 c276_56 (rw_aload_n (pc' := 57) (v := .ref r0) rfl rfl rfl ?_)
            refine wp_of e276 c276_57 (rw_iload_n (pc' := 58) (z := z1588) rfl rfl ?_)
            refine wp_of e276 c276_58 (xc_V (pc' := 61) (r := r0) (as := [vI z1588]) (st := []) (lm_9_54) rfl rfl (Nat.le_of_ble_eq_true rfl) w1586 g0 sh_42 (by decide) rfl (by decide) (u_170  w1586 g0 ⟨Int.le_trans (by decide) b1589.1, Int.le_trans b1589.2 (by decide)⟩) (fun R1839 T1840 H1841 p1842 => ?_))
            obtain ⟨e1843, w1845, f1846, z1847, e1844, b1848, p1849⟩ := p1842
            subst e1843
            subst e1844
            obtain ⟨a1850, a1851, a1852⟩ := p1849
            have f1853 := f1835.tr f1846 rfl
            show wp _ _ 276 61 [(1, vI z1588), (0, .ref r0)] [vI z1847] _ H1841 _
            have k1854 : wKI H1841 r0 = wKI H1582 r0 := (wKI_fr w1586 g0 f1846 rfl)
            have h1855 : KNN T H1841 r0 e d := (KNN_fr w1586 g0 f1846 rfl a1606)
            exact wp_ireturn e276 c276_61 rfl ⟨rfl, w1845, f1853, z1847, rfl, ⟨b1848.1, b1848.2⟩, (Or.inl ⟨by omega, by omega, by omega, h1855⟩)⟩
        · exfalso
          omega
      · exfalso
        omega
/-! StrikeAwakeModel.part(IZ)I  -/
abbrev uq_279 (r0 : Nat) (a1 : Int) (a2 : Int) (e : xD) (d : xD) (T : wq_T) (H : wq_H) : Option Value → wq_T → wq_H → Prop := fun r T' H' => T = T' ∧ WT T H' ∧ wfr [(42, 0), (42, 1), (42, 2), (42, 28), (42, 29), (51, 999), (52, 999)] T H H' ∧ ∃ z : Int, some (vI z) = r ∧ ((-2147483648) ≤ z ∧ z ≤ 2147483647) ∧ (((wKI H' r0 = 1) ∧ KNN T H' r0 e d))
set_option maxHeartbeats 4000000 in
theorem u_279 {kt : Nat → Option mc_E} {T : wq_T} {H : wq_H} {r0 : Nat} {a1 : Int} {a2 : Int} {e : xD} {d : xD} (hW : WT T H) (g0 : T.2.2.2 r0 = some 42) (i1 : (-2147483648) ≤ a1 ∧ a1 ≤ 2147483647) (i2 : 0 ≤ a2 ∧ a2 ≤ 1) (p0 : wKI H r0 = 1) (p1 : XW d) (p2 : ∀ h : Nat, d 0 0 ≤ (h : Int) → h < 24 → e 13 h = 0) (p3 : XN d) (p4 : ∀ h : Nat, h < 24 → 0 ≤ e 13 h ∧ e 13 h ≤ 100) (hRB_r0 : RB T H r0 e d) (hKNN_r0 : KNN T H r0 e d) : wpc kt 9 279 [.ref r0, vI a1, vI a2] T H (uq_279 r0 a1 a2 e d T H) := by
  refine wp_enter e279 (Nat.le_of_ble_eq_true rfl) rfl ?_
  have f0 : wfr [(42, 0), (42, 1), (42, 2), (42, 28), (42, 29), (51, 999), (52, 999)] T H H := wfr.rf
  show wp _ _ 279 0 [(0, .ref r0), (1, vI a1), (2, vI a2)] [] _ H _
  have _b := RB_b hW hRB_r0
  have _nu := RB_n3 hRB_r0
  have _lm := RB_lm hRB_r0
  refine wp_of e279 c279_0 (rw_aload_n (pc' := 1) (v := .ref r0) rfl rfl rfl ?_)
  refine wp_of e279 c279_1 (rw_iconst (pc' := 2) rfl ?_)
  refine wp_of e279 c279_2 (xp_I (pc' := 5) lf_9_48 hW g0 sh_42 (by decide) (by decide) ty_42_0 rfl rfl (by decide) (by decide) ⟨by decide, by decide⟩ rfl (fun H1522 e1523 w1524 => ?_))
  have f1525 := f0.put' e1523 g0 rfl
  have k1526 : H1522 r0 0 = 0 := wq_u_s e1523
  refine wp_of e279 c279_5 (rw_aload_n (pc' := 6) (v := .ref r0) rfl rfl rfl ?_)
  refine wp_of e279 c279_6 (rw_aload_n (pc' := 7) (v := .ref r0) rfl rfl rfl ?_)
  refine wp_of e279 c279_7 (rw_iload_n (pc' := 8) (z := a1) rfl rfl ?_)
  refine wp_of e279 c279_8 (xc_V (pc' := 11) (r := r0) (as := [vI a1]) (st := [.ref r0]) (lm_9_487) rfl rfl (Nat.le_of_ble_eq_true rfl) w1524 g0 sh_42 (by decide) rfl (by decide) (s_280 w1524 g0 ⟨i1.1, i1.2⟩) (fun R1527 T1528 H1529 p1530 => ?_))
  obtain ⟨e1531, e1533, z1535, e1532, b1536, p1534⟩ := p1530
  subst e1531
  subst e1532
  subst e1533
  show wp _ _ 279 11 [(0, .ref r0), (1, vI a1), (2, vI a2)] [vI z1535, .ref r0] _ H1522 _
  have k1537 : H1522 r0 3 = H r0 3 := (wq_u_j e1523 rfl)
  have k1538 : wKI H1522 r0 = wKI H r0 := (wKI_fr hW g0 ((wfr.rf (l := [(42, 0)])).put' e1523 g0 rfl) rfl)
  have h1539 : RB T H1522 r0 e d := (RB_fr hW g0 ((wfr.rf (l := [(42, 0)])).put' e1523 g0 rfl) rfl hRB_r0)
  have h1540 : KNN T H1522 r0 e d := (KNN_fr hW g0 ((wfr.rf (l := [(42, 0)])).put' e1523 g0 rfl) rfl hKNN_r0)
  refine wp_of e279 c279_11 (xc_V (pc' := 14) (r := r0) (as := [vI z1535]) (st := []) (lm_9_447) rfl rfl (Nat.le_of_ble_eq_true rfl) w1524 g0 sh_42 (by decide) rfl (by decide) (u_253 (e := e) (d := d) w1524 g0 ⟨b1536.1, b1536.2⟩ (by omega) (by omega) (by assumption) (by assumption) (by assumption) (by assumption) h1539 h1540) (fun R1541 T1542 H1543 p1544 => ?_))
  obtain ⟨e1545, w1547, f1548, z1549, e1546, b1550, p1551⟩ := p1544
  subst e1545
  subst e1546
  rcases p1551 with ⟨a1552, a1553, a1554, a1555, a1556, a1557, a1558, a1559, a1560, a1561⟩ | ⟨a1562, a1563, a1564, a1565, a1566, a1567, a1568⟩
  · have f1569 := f1525.tr f1548 rfl
    show wp _ _ 279 14 [(0, .ref r0), (1, vI a1), (2, vI a2)] [vI z1549] _ H1543 _
    have k1570 : wLM H1543 r0 = wLM H r0 := ((wLM_fr w1524 g0 f1548 rfl).trans (wLM_fr hW g0 ((wfr.rf (l := [(42, 0)])).put' e1523 g0 rfl) rfl))
    refine wp_of e279 c279_14 (rw_istore_n (pc' := 15) (z := z1549) (L' := [(3, vI z1549), (0, .ref r0), (1, vI a1), (2, vI a2)]) rfl rfl rfl ?_)
    refine wp_of e279 c279_15 (rw_iload_n (pc' := 16) (z := z1549) rfl rfl ?_)
    refine wp_of e279 c279_16 (rw_if_le (p1 := 25) (p2 := 19) (by decide) rfl ⟨Int.le_trans (by decide) b1550.1, Int.le_trans b1550.2 (by decide)⟩ (fun c1571 => ?_) (fun c1571 => ?_))
    · refine wp_of e279 c279_25 (rw_iconst (pc' := 26) rfl ?_)
      refine wp_of e279 c279_26 (rw_istore (pc' := 28) (z := 0) (L' := [(4, vI 0), (3, vI z1549), (0, .ref r0), (1, vI a1), (2, vI a2)]) rfl rfl rfl ?_)
      refine wp_of e279 c279_28 (rw_iconst (pc' := 29) rfl ?_)
      refine wp_of e279 c279_29 (rw_istore (pc' := 31) (z := 0) (L' := [(5, vI 0), (4, vI 0), (3, vI z1549), (0, .ref r0), (1, vI a1), (2, vI a2)]) rfl rfl rfl ?_)
      have lp1969 : ∀ (n1970 : Nat) (v1972 : Int) (v1973 : Int) (H1974 : wq_H), WT T H1974 → wfr [(51, 999)] T H1543 H1974 → (0 ≤ v1972 ∧ v1972 ≤ 20000) → ((-2147483648) ≤ v1973 ∧ v1973 ≤ 2147483647) → (20000 - v1972).toNat = n1970 → wp kt 8 279 31 [(5, vI v1972), (4, vI v1973), (0, .ref r0), (1, vI a1), (2, vI a2)] [] T H1974 (uq_279 r0 a1 a2 e d T H) := by
        intro n1970
        induction n1970 using Nat.strongRecOn with
        | _ n1970 ih1971 =>
          intro v1972 v1973 H1974 w1975 f1976 b1977 b1978 m1979
          have f1980 := f1569.tr f1976 rfl
          refine wp_of e279 c279_31 (rw_iload (pc' := 33) (z := v1972) rfl rfl ?_)
          refine wp_of e279 c279_33 (rw_aload_n (pc' := 34) (v := .ref r0) rfl rfl rfl ?_)
          have k1981 : H1974 r0 29 = H1543 r0 29 := (f1976 r0 29 _ g0 rfl)
          refine wp_of e279 c279_34 (xg_I (pc' := 37) lf_9_422 w1975 g0 sh_42 (by decide) (by decide) ty_42_29 rfl rfl (fun b1982 b1983 => ?_))
          refine wp_of e279 c279_37 (rw_icmp_ge (p1 := 112) (p2 := 40) (by decide) rfl ⟨Int.le_trans (by decide) b1977.1, Int.le_trans b1977.2 (by decide)⟩ ⟨Int.le_trans (by decide) b1982, Int.le_trans b1983 (by decide)⟩ (fun c1984 => ?_) (fun c1984 => ?_))
          · refine wp_of e279 c279_112 (rw_aload_n (pc' := 113) (v := .ref r0) rfl rfl rfl ?_)
            refine wp_of e279 c279_113 (rw_iload (pc' := 115) (z := v1973) rfl rfl ?_)
            refine wp_of e279 c279_115 (xc_V (pc' := 118) (r := r0) (as := [vI v1973]) (st := []) (lm_9_58) rfl rfl (Nat.le_of_ble_eq_true rfl) w1975 g0 sh_42 (by decide) rfl (by decide) (s_209 w1975 g0 ⟨b1978.1, b1978.2⟩) (fun R1985 T1986 H1987 p1988 => ?_))
            obtain ⟨e1989, w1991, f1992, z1993, e1990, b1994⟩ := p1988
            subst e1989
            subst e1990
            have f1995 := f1980.tr f1992 rfl
            show wp _ _ 279 118 [(5, vI v1972), (4, vI v1973), (0, .ref r0), (1, vI a1), (2, vI a2)] [vI z1993] _ H1987 _
            have k1996 : wKI H1987 r0 = wKI H1543 r0 := ((wKI_fr w1975 g0 f1992 rfl).trans (wKI_fr w1547 g0 f1976 rfl))
            have h1997 : KNN T H1987 r0 e d := (KNN_fr w1975 g0 f1992 rfl (KNN_fr w1547 g0 f1976 rfl a1560))
            exact wp_ireturn e279 c279_118 rfl ⟨rfl, w1991, f1995, z1993, rfl, ⟨b1994.1, b1994.2⟩, ⟨by omega, h1997⟩⟩
          · refine wp_of e279 c279_40 (rw_aload_n (pc' := 41) (v := .ref r0) rfl rfl rfl ?_)
            refine wp_of e279 c279_41 (rw_aload_n (pc' := 42) (v := .ref r0) rfl rfl rfl ?_)
            refine wp_of e279 c279_42 (xg_R (pc' := 45) lf_9_42 w1975 g0 sh_42 (by decide) (by decide) ty_42_30 rfl rfl (fun r1998 q1999 g2000 => ?_))
            refine wp_of e279 c279_45 (rw_iload (pc' := 47) (z := v1972) rfl rfl ?_)
            refine wp_of e279 c279_47 (xa_I (so := 0) (pc' := 48) w1975 g2000 sh_52 (by decide) (ty_52 _) (b1977.1) (by omega) rfl (fun b2001 b2002 => ?_))
            have k2003 : wLM H1974 r0 = wLM H1543 r0 := (wLM_fr w1547 g0 f1976 rfl)
            have k2004 : H1974 r0 3 = H1522 r0 3 := ((f1976 r0 3 _ g0 rfl).trans (f1548 r0 3 _ g0 rfl))
            obtain ⟨r2005, q2006, g2007⟩ := (w1975.opt g0 (t' := 54) (n := 33) (j := 3) (p := 0) (q := 0) rfl (by decide) rfl).resolve_left (by omega)
            refine wp_of e279 c279_48 (xc_V (pc' := 51) (r := r0) (as := [vI (H1974 r1998 (v1972.toNat))]) (st := []) (lm_9_425) rfl rfl (Nat.le_of_ble_eq_true rfl) w1975 g0 sh_42 (by decide) rfl (by decide) (s_243 w1975 g0 ⟨b2001, Int.le_trans b2002 (by decide)⟩ q2006 g2007 (by omega)) (fun R2008 T2009 H2010 p2011 => ?_))
            obtain ⟨e2012, w2014, f2015, e2013⟩ := p2011
            subst e2012
            subst e2013
            have f2016 := f1980.tr f2015 rfl
            have f2017 := f1976.tr f2015 rfl
            show wp _ _ 279 51 [(5, vI v1972), (4, vI v1973), (0, .ref r0), (1, vI a1), (2, vI a2)] [] _ H2010 _
            refine wp_of e279 c279_51 (rw_aload_n (pc' := 52) (v := .ref r0) rfl rfl rfl ?_)
            refine wp_of e279 c279_52 (xg_R (pc' := 55) lf_9_17 w2014 g0 sh_42 (by decide) (by decide) ty_42_20 rfl rfl (fun r2018 q2019 g2020 => ?_))
            refine wp_of e279 c279_55 (rw_iload_n (pc' := 56) (z := a1) rfl rfl ?_)
            refine wp_of e279 c279_56 (xa_I (so := 0) (pc' := 57) w2014 g2020 sh_44 (by decide) (ty_44 _) (by omega) (by omega) rfl (fun b2021 b2022 => ?_))
            refine wp_of e279 c279_57 (rw_iconst (pc' := 58) rfl ?_)
            refine wp_of e279 c279_58 (rw_isubw (pc' := 59) rfl ?_)
            obtain ⟨v2023, e2024⟩ : ∃ x : Int, x = wq_w ((H2010 r2018 (a1.toNat)) - 1) := ⟨_, rfl⟩
            rw [← e2024]
            have b2025 : -2147483648 ≤ v2023 ∧ v2023 ≤ 2147483647 := by
              rw [e2024]
              exact wI_w _
            have b2026 : (-2147483648 ≤ (H2010 r2018 (a1.toNat)) - 1 ∧ (H2010 r2018 (a1.toNat)) - 1 ≤ 2147483647) → v2023 = (H2010 r2018 (a1.toNat)) - 1 := fun h => by rw [e2024]; exact wq_w_id h
            refine wp_of e279 c279_59 (rw_aload_n (pc' := 60) (v := .ref r0) rfl rfl rfl ?_)
            refine wp_of e279 c279_60 (rw_aload_n (pc' := 61) (v := .ref r0) rfl rfl rfl ?_)
            refine wp_of e279 c279_61 (xg_R (pc' := 64) lf_9_39 w2014 g0 sh_42 (by decide) (by decide) ty_42_27 rfl rfl (fun r2027 q2028 g2029 => ?_))
            refine wp_of e279 c279_64 (rw_iload_n (pc' := 65) (z := a1) rfl rfl ?_)
            have k2030 : H2010 r0 3 = H1974 r0 3 := (f2015 r0 3 _ g0 rfl)
            have q2031 : H2010 r0 3 = (r2005 : Int) := k2030.trans q2006
            refine wp_of e279 c279_65 (xc_V (pc' := 68) (r := r0) (as := [.ref r2027, vI a1]) (st := [vI v2023]) (lm_9_386) rfl rfl (Nat.le_of_ble_eq_true rfl) w2014 g0 sh_42 (by decide) rfl (by decide) (s_228_m_lot w2014 g0 g2029 ⟨i1.1, i1.2⟩ q2031 g2007) (fun R2032 T2033 H2034 p2035 => ?_))
            obtain ⟨e2036, e2038, z2039, e2037, b2040⟩ := p2035
            subst e2036
            subst e2037
            subst e2038
            show wp _ _ 279 68 [(5, vI v1972), (4, vI v1973), (0, .ref r0), (1, vI a1), (2, vI a2)] [vI z2039, vI v2023] _ H2010 _
            refine wp_of e279 c279_68 (rw_isubw (pc' := 69) rfl ?_)
            obtain ⟨v2041, e2042⟩ : ∃ x : Int, x = wq_w (v2023 - z2039) := ⟨_, rfl⟩
            rw [← e2042]
            have b2043 : -2147483648 ≤ v2041 ∧ v2041 ≤ 2147483647 := by
              rw [e2042]
              exact wI_w _
            have b2044 : (-2147483648 ≤ v2023 - z2039 ∧ v2023 - z2039 ≤ 2147483647) → v2041 = v2023 - z2039 := fun h => by rw [e2042]; exact wq_w_id h
            refine wp_of e279 c279_69 (rw_istore (pc' := 71) (z := v2041) (L' := [(6, vI v2041), (5, vI v1972), (4, vI v1973), (0, .ref r0), (1, vI a1), (2, vI a2)]) rfl rfl rfl ?_)
            refine wp_of e279 c279_71 (rw_iload (pc' := 73) (z := v1972) rfl rfl ?_)
            refine wp_of e279 c279_73 (rw_if_eq (p1 := 97) (p2 := 76) (by decide) rfl ⟨Int.le_trans (by decide) b1977.1, Int.le_trans b1977.2 (by decide)⟩ (fun c2045 => ?_) (fun c2045 => ?_))
            · refine wp_of e279 c279_97 (rw_iload (pc' := 99) (z := v2041) rfl rfl ?_)
              refine wp_of e279 c279_99 (rw_goto (p1 := 104) (by decide) ?_)
              refine wp_of e279 c279_104 (rw_istore (pc' := 106) (z := v2041) (L' := [(4, vI v2041), (6, vI v2041), (5, vI v1972), (0, .ref r0), (1, vI a1), (2, vI a2)]) rfl rfl rfl ?_)
              refine wp_of e279 c279_106 (rw_iinc (pc' := 109) (z := v1972) (L' := [(5, vI (v1972 + 1)), (4, vI v2041), (6, vI v2041), (0, .ref r0), (1, vI a1), (2, vI a2)]) rfl rfl rfl rfl ?_)
              refine wp_of e279 c279_109 (rw_goto (p1 := 31) (by decide) ?_)
              exact wp_lc (ks := [5, 4, 6, 0, 1, 2]) (wl_c rfl (wl_c rfl (wl_c rfl (wl_c rfl (wl_c rfl wl_n))))) rfl (by decide) (ih1971 _ (by omega) (v1972 + 1) v2041 H2010 w2014 f2017 ⟨by omega, by omega⟩ ⟨b2043.1, b2043.2⟩ rfl)
            · refine wp_of e279 c279_76 (rw_iload_n (pc' := 77) (z := a2) rfl rfl ?_)
              refine wp_of e279 c279_77 (rw_if_eq (p1 := 90) (p2 := 80) (by decide) rfl ⟨Int.le_trans (by decide) i2.1, Int.le_trans i2.2 (by decide)⟩ (fun c2046 => ?_) (fun c2046 => ?_))
              · refine wp_of e279 c279_90 (rw_iload (pc' := 92) (z := v2041) rfl rfl ?_)
                refine wp_of e279 c279_92 (rw_iload (pc' := 94) (z := v1973) rfl rfl ?_)
                refine wp_of e279 c279_94 (rw_icmp_ge (p1 := 102) (p2 := 97) (by decide) rfl ⟨b2043.1, b2043.2⟩ ⟨b1978.1, b1978.2⟩ (fun c2047 => ?_) (fun c2047 => ?_))
                · refine wp_of e279 c279_102 (rw_iload (pc' := 104) (z := v1973) rfl rfl ?_)
                  refine wp_of e279 c279_104 (rw_istore (pc' := 106) (z := v1973) (L' := [(4, vI v1973), (6, vI v2041), (5, vI v1972), (0, .ref r0), (1, vI a1), (2, vI a2)]) rfl rfl rfl ?_)
                  refine wp_of e279 c279_106 (rw_iinc (pc' := 109) (z := v1972) (L' := [(5, vI (v1972 + 1)), (4, vI v1973), (6, vI v2041), (0, .ref r0), (1, vI a1), (2, vI a2)]) rfl rfl rfl rfl ?_)
                  refine wp_of e279 c279_109 (rw_goto (p1 := 31) (by decide) ?_)
                  exact wp_lc (ks := [5, 4, 6, 0, 1, 2]) (wl_c rfl (wl_c rfl (wl_c rfl (wl_c rfl (wl_c rfl wl_n))))) rfl (by decide) (ih1971 _ (by omega) (v1972 + 1) v1973 H2010 w2014 f2017 ⟨by omega, by omega⟩ ⟨b1978.1, b1978.2⟩ rfl)
                · refine wp_of e279 c279_97 (rw_iload (pc' := 99) (z := v2041) rfl rfl ?_)
                  refine wp_of e279 c279_99 (rw_goto (p1 := 104) (by decide) ?_)
                  refine wp_of e279 c279_104 (rw_istore (pc' := 106) (z := v2041) (L' := [(4, vI v2041), (6, vI v2041), (5, vI v1972), (0, .ref r0), (1, vI a1), (2, vI a2)]) rfl rfl rfl ?_)
                  refine wp_of e279 c279_106 (rw_iinc (pc' := 109) (z := v1972) (L' := [(5, vI (v1972 + 1)), (4, vI v2041), (6, vI v2041), (0, .ref r0), (1, vI a1), (2, vI a2)]) rfl rfl rfl rfl ?_)
                  refine wp_of e279 c279_109 (rw_goto (p1 := 31) (by decide) ?_)
                  exact wp_lc (ks := [5, 4, 6, 0, 1, 2]) (wl_c rfl (wl_c rfl (wl_c rfl (wl_c rfl (wl_c rfl wl_n))))) rfl (by decide) (ih1971 _ (by omega) (v1972 + 1) v2041 H2010 w2014 f2017 ⟨by omega, by omega⟩ ⟨b2043.1, b2043.2⟩ rfl)
              · refine wp_of e279 c279_80 (rw_iload (pc' := 82) (z := v2041) rfl rfl ?_)
                refine wp_of e279 c279_82 (rw_iload (pc' := 84) (z := v1973) rfl rfl ?_)
                refine wp_of e279 c279_84 (rw_icmp_le (p1 := 102) (p2 := 87) (by decide) rfl ⟨b2043.1, b2043.2⟩ ⟨b1978.1, b1978.2⟩ (fun c2048 => ?_) (fun c2048 => ?_))
                · refine wp_of e279 c279_102 (rw_iload (pc' := 104) (z := v1973) rfl rfl ?_)
                  refine wp_of e279 c279_104 (rw_istore (pc' := 106) (z := v1973) (L' := [(4, vI v1973), (6, vI v2041), (5, vI v1972), (0, .ref r0), (1, vI a1), (2, vI a2)]) rfl rfl rfl ?_)
                  refine wp_of e279 c279_106 (rw_iinc (pc' := 109) (z := v1972) (L' := [(5, vI (v1972 + 1)), (4, vI v1973), (6, vI v2041), (0, .ref r0), (1, vI a1), (2, vI a2)]) rfl rfl rfl rfl ?_)
                  refine wp_of e279 c279_109 (rw_goto (p1 := 31) (by decide) ?_)
                  exact wp_lc (ks := [5, 4, 6, 0, 1, 2]) (wl_c rfl (wl_c rfl (wl_c rfl (wl_c rfl (wl_c rfl wl_n))))) rfl (by decide) (ih1971 _ (by omega) (v1972 + 1) v1973 H2010 w2014 f2017 ⟨by omega, by omega⟩ ⟨b1978.1, b1978.2⟩ rfl)
                · refine wp_of e279 c279_87 (rw_goto (p1 := 97) (by decide) ?_)
                  refine wp_of e279 c279_97 (rw_iload (pc' := 99) (z := v2041) rfl rfl ?_)
                  refine wp_of e279 c279_99 (rw_goto (p1 := 104) (by decide) ?_)
                  refine wp_of e279 c279_104 (rw_istore (pc' := 106) (z := v2041) (L' := [(4, vI v2041), (6, vI v2041), (5, vI v1972), (0, .ref r0), (1, vI a1), (2, vI a2)]) rfl rfl rfl ?_)
                  refine wp_of e279 c279_106 (rw_iinc (pc' := 109) (z := v1972) (L' := [(5, vI (v1972 + 1)), (4, vI v2041), (6, vI v2041), (0, .ref r0), (1, vI a1), (2, vI a2)]) rfl rfl rfl rfl ?_)
                  refine wp_of e279 c279_109 (rw_goto (p1 := 31) (by decide) ?_)
                  exact wp_lc (ks := [5, 4, 6, 0, 1, 2]) (wl_c rfl (wl_c rfl (wl_c rfl (wl_c rfl (wl_c rfl wl_n))))) rfl (by decide) (ih1971 _ (by omega) (v1972 + 1) v2041 H2010 w2014 f2017 ⟨by omega, by omega⟩ ⟨b2043.1, b2043.2⟩ rfl)
      exact wp_lc (ks := [5, 4, 3, 0, 1, 2]) (wl_c rfl (wl_c rfl (wl_c rfl (wl_c rfl (wl_c rfl wl_n))))) rfl (by decide) (lp1969 _ 0 0 H1543 w1547 wfr.rf ⟨by decide, by decide⟩ ⟨by decide, by decide⟩ rfl)
    · exfalso
      omega
  · have f2049 := f1525.tr f1548 rfl
    show wp _ _ 279 14 [(0, .ref r0), (1, vI a1), (2, vI a2)] [vI z1549] _ H1543 _
    have k2050 : wLM H1543 r0 = wLM H r0 := ((wLM_fr w1524 g0 f1548 rfl).trans (wLM_fr hW g0 ((wfr.rf (l := [(42, 0)])).put' e1523 g0 rfl) rfl))
    refine wp_of e279 c279_14 (rw_istore_n (pc' := 15) (z := z1549) (L' := [(3, vI z1549), (0, .ref r0), (1, vI a1), (2, vI a2)]) rfl rfl rfl ?_)
    refine wp_of e279 c279_15 (rw_iload_n (pc' := 16) (z := z1549) rfl rfl ?_)
    refine wp_of e279 c279_16 (rw_if_le (p1 := 25) (p2 := 19) (by decide) rfl ⟨Int.le_trans (by decide) b1550.1, Int.le_trans b1550.2 (by decide)⟩ (fun c2051 => ?_) (fun c2051 => ?_))
    · exfalso
      omega
    · refine wp_of e279 c279_19 (rw_aload_n (pc' := 20) (v := .ref r0) rfl rfl rfl ?_)
      refine wp_of e279 c279_20 (rw_iload_n (pc' := 21) (z := z1549) rfl rfl ?_)
      refine wp_of e279 c279_21 (xc_V (pc' := 24) (r := r0) (as := [vI z1549]) (st := []) (lm_9_490) rfl rfl (Nat.le_of_ble_eq_true rfl) w1547 g0 sh_42 (by decide) rfl (by decide) (s_281 w1547 g0 ⟨Int.le_trans (by decide) b1550.1, Int.le_trans b1550.2 (by decide)⟩) (fun R2052 T2053 H2054 p2055 => ?_))
      obtain ⟨e2056, w2058, f2059, z2060, e2057, b2061⟩ := p2055
      subst e2056
      subst e2057
      have f2062 := f2049.tr f2059 rfl
      show wp _ _ 279 24 [(3, vI z1549), (0, .ref r0), (1, vI a1), (2, vI a2)] [vI z2060] _ H2054 _
      have k2063 : wKI H2054 r0 = wKI H1543 r0 := (wKI_fr w1547 g0 f2059 rfl)
      have h2064 : KNN T H2054 r0 e d := (KNN_fr w1547 g0 f2059 rfl a1568)
      exact wp_ireturn e279 c279_24 rfl ⟨rfl, w2058, f2062, z2060, rfl, ⟨b2061.1, b2061.2⟩, ⟨by omega, h2064⟩⟩
/-! StrikeAwakeModel.nothing()I  -/
abbrev uq_282 (r0 : Nat) (e : xD) (d : xD) (T : wq_T) (H : wq_H) : Option Value → wq_T → wq_H → Prop := fun r T' H' => T = T' ∧ WT T H' ∧ wfr [(42, 0), (42, 1), (42, 2), (42, 28), (42, 29), (51, 999), (52, 999)] T H H' ∧ ∃ z : Int, some (vI z) = r ∧ ((-2147483648) ≤ z ∧ z ≤ 2147483647) ∧ (((wKI H' r0 = 1) ∧ KNN T H' r0 e d))
set_option maxHeartbeats 4000000 in
theorem u_282 {kt : Nat → Option mc_E} {T : wq_T} {H : wq_H} {r0 : Nat} {e : xD} {d : xD} (hW : WT T H) (g0 : T.2.2.2 r0 = some 42) (p0 : wKI H r0 = 1) (p1 : XW d) (p2 : ∀ h : Nat, d 0 0 ≤ (h : Int) → h < 24 → e 13 h = 0) (p3 : XN d) (p4 : ∀ h : Nat, h < 24 → 0 ≤ e 13 h ∧ e 13 h ≤ 100) (hRB_r0 : RB T H r0 e d) (hKNN_r0 : KNN T H r0 e d) : wpc kt 8 282 [.ref r0] T H (uq_282 r0 e d T H) := by
  refine wp_enter e282 (Nat.le_of_ble_eq_true rfl) rfl ?_
  have f0 : wfr [(42, 0), (42, 1), (42, 2), (42, 28), (42, 29), (51, 999), (52, 999)] T H H := wfr.rf
  show wp _ _ 282 0 [(0, .ref r0)] [] _ H _
  have _b := RB_b hW hRB_r0
  have _nu := RB_n3 hRB_r0
  have _lm := RB_lm hRB_r0
  refine wp_of e282 c282_0 (rw_aload_n (pc' := 1) (v := .ref r0) rfl rfl rfl ?_)
  refine wp_of e282 c282_1 (rw_iconst (pc' := 2) rfl ?_)
  refine wp_of e282 c282_2 (xp_I (pc' := 5) lf_9_48 hW g0 sh_42 (by decide) (by decide) ty_42_0 rfl rfl (by decide) (by decide) ⟨by decide, by decide⟩ rfl (fun H5525 e5526 w5527 => ?_))
  have f5528 := f0.put' e5526 g0 rfl
  have k5529 : H5525 r0 0 = 0 := wq_u_s e5526
  refine wp_of e282 c282_5 (rw_aload_n (pc' := 6) (v := .ref r0) rfl rfl rfl ?_)
  refine wp_of e282 c282_6 (rw_aload_n (pc' := 7) (v := .ref r0) rfl rfl rfl ?_)
  have k5530 : H5525 r0 3 = H r0 3 := (wq_u_j e5526 rfl)
  refine wp_of e282 c282_7 (xg_O (pc' := 10) lf_9_337 w5527 g0 sh_42 (by decide) (by decide) ty_42_3 rfl rfl (fun q5532 => ?_) (fun r5531 q5532 g5533 => ?_))
  · refine wp_of e282 c282_10 (rw_ifnull_n (p1 := 17) (p2 := 13) (by decide) rfl ?_)
    refine wp_of e282 c282_17 (rw_iconst (pc' := 18) rfl ?_)
    have k5534 : wKI H5525 r0 = wKI H r0 := (wKI_fr hW g0 ((wfr.rf (l := [(42, 0)])).put' e5526 g0 rfl) rfl)
    have h5535 : RB T H5525 r0 e d := (RB_fr hW g0 ((wfr.rf (l := [(42, 0)])).put' e5526 g0 rfl) rfl hRB_r0)
    have h5536 : KNN T H5525 r0 e d := (KNN_fr hW g0 ((wfr.rf (l := [(42, 0)])).put' e5526 g0 rfl) rfl hKNN_r0)
    refine wp_of e282 c282_18 (xc_V (pc' := 21) (r := r0) (as := [vI 0]) (st := []) (lm_9_433) rfl rfl (Nat.le_of_ble_eq_true rfl) w5527 g0 sh_42 (by decide) rfl (by decide) (u_241 (e := e) (d := d) w5527 g0 ⟨by decide, by decide⟩ (by omega) (by omega) (by assumption) (by assumption) (by assumption) (by assumption) h5535 h5536) (fun R5537 T5538 H5539 p5540 => ?_))
    obtain ⟨e5541, w5543, f5544, z5545, e5542, b5546, p5547⟩ := p5540
    subst e5541
    subst e5542
    rcases p5547 with ⟨a5548, a5549, a5550, a5551, a5552, a5553, a5554, a5555, a5556⟩ | ⟨a5557, a5558, a5559, a5560, a5561, a5562, a5563⟩
    · exfalso
      omega
    · have f5564 := f5528.tr f5544 rfl
      show wp _ _ 282 21 [(0, .ref r0)] [vI z5545] _ H5539 _
      have k5565 : wLM H5539 r0 = wLM H r0 := ((wLM_fr w5527 g0 f5544 rfl).trans (wLM_fr hW g0 ((wfr.rf (l := [(42, 0)])).put' e5526 g0 rfl) rfl))
      refine wp_of e282 c282_21 (rw_istore_n (pc' := 22) (z := z5545) (L' := [(1, vI z5545), (0, .ref r0)]) rfl rfl rfl ?_)
      refine wp_of e282 c282_22 (rw_iload_n (pc' := 23) (z := z5545) rfl rfl ?_)
      refine wp_of e282 c282_23 (rw_if_le (p1 := 32) (p2 := 26) (by decide) rfl ⟨Int.le_trans (by decide) b5546.1, Int.le_trans b5546.2 (by decide)⟩ (fun c5566 => ?_) (fun c5566 => ?_))
      · exfalso
        omega
      · refine wp_of e282 c282_26 (rw_aload_n (pc' := 27) (v := .ref r0) rfl rfl rfl ?_)
        refine wp_of e282 c282_27 (rw_iload_n (pc' := 28) (z := z5545) rfl rfl ?_)
        refine wp_of e282 c282_28 (xc_V (pc' := 31) (r := r0) (as := [vI z5545]) (st := []) (lm_9_54) rfl rfl (Nat.le_of_ble_eq_true rfl) w5543 g0 sh_42 (by decide) rfl (by decide) (s_170 w5543 g0 ⟨Int.le_trans (by decide) b5546.1, Int.le_trans b5546.2 (by decide)⟩) (fun R5567 T5568 H5569 p5570 => ?_))
        obtain ⟨e5571, w5573, f5574, z5575, e5572, b5576⟩ := p5570
        subst e5571
        subst e5572
        have f5577 := f5564.tr f5574 rfl
        show wp _ _ 282 31 [(1, vI z5545), (0, .ref r0)] [vI z5575] _ H5569 _
        have k5578 : wKI H5569 r0 = wKI H5539 r0 := (wKI_fr w5543 g0 f5574 rfl)
        have h5579 : KNN T H5569 r0 e d := (KNN_fr w5543 g0 f5574 rfl a5563)
        exact wp_ireturn e282 c282_31 rfl ⟨rfl, w5573, f5577, z5575, rfl, ⟨b5576.1, b5576.2⟩, ⟨by omega, h5579⟩⟩
  · refine wp_of e282 c282_10 (rw_ifnull_r (p1 := 17) (p2 := 13) (by decide) rfl ?_)
    refine wp_of e282 c282_13 (rw_iconst (pc' := 14) rfl ?_)
    refine wp_of e282 c282_14 (rw_goto (p1 := 18) (by decide) ?_)
    have k5580 : wKI H5525 r0 = wKI H r0 := (wKI_fr hW g0 ((wfr.rf (l := [(42, 0)])).put' e5526 g0 rfl) rfl)
    have h5581 : RB T H5525 r0 e d := (RB_fr hW g0 ((wfr.rf (l := [(42, 0)])).put' e5526 g0 rfl) rfl hRB_r0)
    have h5582 : KNN T H5525 r0 e d := (KNN_fr hW g0 ((wfr.rf (l := [(42, 0)])).put' e5526 g0 rfl) rfl hKNN_r0)
    refine wp_of e282 c282_18 (xc_V (pc' := 21) (r := r0) (as := [vI 1]) (st := []) (lm_9_433) rfl rfl (Nat.le_of_ble_eq_true rfl) w5527 g0 sh_42 (by decide) rfl (by decide) (u_241 (e := e) (d := d) w5527 g0 ⟨by decide, by decide⟩ (by omega) (by omega) (by assumption) (by assumption) (by assumption) (by assumption) h5581 h5582) (fun R5583 T5584 H5585 p5586 => ?_))
    obtain ⟨e5587, w5589, f5590, z5591, e5588, b5592, p5593⟩ := p5586
    subst e5587
    subst e5588
    rcases p5593 with ⟨a5594, a5595, a5596, a5597, a5598, a5599, a5600, a5601, a5602⟩ | ⟨a5603, a5604, a5605, a5606, a5607, a5608, a5609⟩
    · have f5610 := f5528.tr f5590 rfl
      show wp _ _ 282 21 [(0, .ref r0)] [vI z5591] _ H5585 _
      have k5611 : wLM H5585 r0 = wLM H r0 := ((wLM_fr w5527 g0 f5590 rfl).trans (wLM_fr hW g0 ((wfr.rf (l := [(42, 0)])).put' e5526 g0 rfl) rfl))
      refine wp_of e282 c282_21 (rw_istore_n (pc' := 22) (z := z5591) (L' := [(1, vI z5591), (0, .ref r0)]) rfl rfl rfl ?_)
      refine wp_of e282 c282_22 (rw_iload_n (pc' := 23) (z := z5591) rfl rfl ?_)
      refine wp_of e282 c282_23 (rw_if_le (p1 := 32) (p2 := 26) (by decide) rfl ⟨Int.le_trans (by decide) b5592.1, Int.le_trans b5592.2 (by decide)⟩ (fun c5612 => ?_) (fun c5612 => ?_))
      · refine wp_of e282 c282_32 (rw_iconst (pc' := 33) rfl ?_)
        refine wp_of e282 c282_33 (rw_istore_n (pc' := 34) (z := 0) (L' := [(2, vI 0), (1, vI z5591), (0, .ref r0)]) rfl rfl rfl ?_)
        refine wp_of e282 c282_34 (rw_iconst (pc' := 35) rfl ?_)
        refine wp_of e282 c282_35 (rw_istore_n (pc' := 36) (z := 0) (L' := [(3, vI 0), (2, vI 0), (1, vI z5591), (0, .ref r0)]) rfl rfl rfl ?_)
        have lp7557 : ∀ (n7558 : Nat) (v7560 : Int) (v7561 : Int) (H7562 : wq_H), WT T H7562 → wfr [(51, 999)] T H5585 H7562 → (0 ≤ v7560 ∧ v7560 ≤ 20000) → (0 ≤ v7561 ∧ v7561 ≤ 16777215) → (20000 - v7560).toNat = n7558 → wp kt 7 282 36 [(3, vI v7560), (2, vI v7561), (0, .ref r0)] [] T H7562 (uq_282 r0 e d T H) := by
          intro n7558
          induction n7558 using Nat.strongRecOn with
          | _ n7558 ih7559 =>
            intro v7560 v7561 H7562 w7563 f7564 b7565 b7566 m7567
            have f7568 := f5610.tr f7564 rfl
            refine wp_of e282 c282_36 (rw_iload_n (pc' := 37) (z := v7560) rfl rfl ?_)
            refine wp_of e282 c282_37 (rw_i2l (pc' := 38) rfl ⟨Int.le_trans (by decide) b7565.1, Int.le_trans b7565.2 (by decide)⟩ ?_)
            have k7569 : wLM H7562 r0 = wLM H5585 r0 := (wLM_fr w5589 g0 f7564 rfl)
            refine wp_of e282 c282_38 (rw_aload_n (pc' := 39) (v := .ref r0) rfl rfl rfl ?_)
            have k7570 : H7562 r0 3 = H5525 r0 3 := ((f7564 r0 3 _ g0 rfl).trans (f5590 r0 3 _ g0 rfl))
            have q7571 : H7562 r0 3 = (r5531 : Int) := k7570.trans q5532
            refine wp_of e282 c282_39 (xc_V (pc' := 42) (r := r0) (as := []) (st := [vL v7560]) (lm_9_376) rfl rfl (Nat.le_of_ble_eq_true rfl) w7563 g0 sh_42 (by decide) rfl (by decide) (s_220 w7563 g0 q7571 g5533) (fun R7572 T7573 H7574 p7575 => ?_))
            obtain ⟨e7576, e7578, z7580, e7577, b7581, p7579⟩ := p7575
            subst e7576
            subst e7577
            subst e7578
            show wp _ _ 282 42 [(3, vI v7560), (2, vI v7561), (0, .ref r0)] [vL z7580, vL v7560] _ H7562 _
            refine wp_of e282 c282_42 (rw_lcmp (pc' := 43) rfl ⟨Int.le_trans (by decide) b7565.1, Int.le_trans b7565.2 (by decide)⟩ ⟨Int.le_trans (by decide) b7581.1, Int.le_trans b7581.2 (by decide)⟩ ?_)
            have b7582 := wq_cmp_b v7560 z7580
            refine wp_of e282 c282_43 (rw_if_ge (p1 := 116) (p2 := 46) (by decide) rfl ⟨by omega, by omega⟩ (fun c7583 => ?_) (fun c7583 => ?_))
            · refine wp_of e282 c282_116 (rw_aload_n (pc' := 117) (v := .ref r0) rfl rfl rfl ?_)
              refine wp_of e282 c282_117 (rw_iload_n (pc' := 118) (z := v7561) rfl rfl ?_)
              refine wp_of e282 c282_118 (xc_V (pc' := 121) (r := r0) (as := [vI v7561]) (st := []) (lm_9_58) rfl rfl (Nat.le_of_ble_eq_true rfl) w7563 g0 sh_42 (by decide) rfl (by decide) (s_209 w7563 g0 ⟨Int.le_trans (by decide) b7566.1, Int.le_trans b7566.2 (by decide)⟩) (fun R7584 T7585 H7586 p7587 => ?_))
              obtain ⟨e7588, w7590, f7591, z7592, e7589, b7593⟩ := p7587
              subst e7588
              subst e7589
              have f7594 := f7568.tr f7591 rfl
              show wp _ _ 282 121 [(3, vI v7560), (2, vI v7561), (0, .ref r0)] [vI z7592] _ H7586 _
              have k7595 : wKI H7586 r0 = wKI H5585 r0 := ((wKI_fr w7563 g0 f7591 rfl).trans (wKI_fr w5589 g0 f7564 rfl))
              have h7596 : KNN T H7586 r0 e d := (KNN_fr w7563 g0 f7591 rfl (KNN_fr w5589 g0 f7564 rfl a5601))
              exact wp_ireturn e282 c282_121 rfl ⟨rfl, w7590, f7594, z7592, rfl, ⟨b7593.1, b7593.2⟩, ⟨by omega, h7596⟩⟩
            · refine wp_of e282 c282_46 (rw_aload_n (pc' := 47) (v := .ref r0) rfl rfl rfl ?_)
              refine wp_of e282 c282_47 (rw_iload_n (pc' := 48) (z := v7560) rfl rfl ?_)
              refine wp_of e282 c282_48 (xc_V (pc' := 51) (r := r0) (as := [vI v7560]) (st := []) (lm_9_425) rfl rfl (Nat.le_of_ble_eq_true rfl) w7563 g0 sh_42 (by decide) rfl (by decide) (s_243 w7563 g0 ⟨b7565.1, Int.le_trans b7565.2 (by decide)⟩ q7571 g5533 (by omega)) (fun R7597 T7598 H7599 p7600 => ?_))
              obtain ⟨e7601, w7603, f7604, e7602⟩ := p7600
              subst e7601
              subst e7602
              have f7605 := f7568.tr f7604 rfl
              have f7606 := f7564.tr f7604 rfl
              show wp _ _ 282 51 [(3, vI v7560), (2, vI v7561), (0, .ref r0)] [] _ H7599 _
              refine wp_of e282 c282_51 (rw_aload_n (pc' := 52) (v := .ref r0) rfl rfl rfl ?_)
              refine wp_of e282 c282_52 (rw_aload_n (pc' := 53) (v := .ref r0) rfl rfl rfl ?_)
              refine wp_of e282 c282_53 (xg_R (pc' := 56) lf_9_39 w7603 g0 sh_42 (by decide) (by decide) ty_42_27 rfl rfl (fun r7607 q7608 g7609 => ?_))
              have k7610 : H7599 r0 3 = H7562 r0 3 := (f7604 r0 3 _ g0 rfl)
              have q7611 : H7599 r0 3 = (r5531 : Int) := k7610.trans q7571
              refine wp_of e282 c282_56 (xc_V (pc' := 59) (r := r0) (as := [.ref r7607]) (st := []) (lm_9_393) rfl rfl (Nat.le_of_ble_eq_true rfl) w7603 g0 sh_42 (by decide) rfl (by decide) (s_235_m_lot w7603 g0 g7609 q7611 g5533) (fun R7612 T7613 H7614 p7615 => ?_))
              obtain ⟨e7616, e7618, z7619, e7617, b7620⟩ := p7615
              subst e7616
              subst e7617
              subst e7618
              show wp _ _ 282 59 [(3, vI v7560), (2, vI v7561), (0, .ref r0)] [vI z7619] _ H7599 _
              refine wp_of e282 c282_59 (rw_if_eq (p1 := 65) (p2 := 62) (by decide) rfl ⟨b7620.1, b7620.2⟩ (fun c7621 => ?_) (fun c7621 => ?_))
              · refine wp_of e282 c282_65 (rw_iconst (pc' := 66) rfl ?_)
                refine wp_of e282 c282_66 (rw_istore (pc' := 68) (z := 0) (L' := [(4, vI 0), (3, vI v7560), (2, vI v7561), (0, .ref r0)]) rfl rfl rfl ?_)
                have lp7806 : ∀ (n7807 : Nat) (v7809 : Int) (v7810 : Int), (0 ≤ v7809 ∧ v7809 ≤ 24) → (0 ≤ v7810 ∧ v7810 ≤ 16777215) → (24 - v7809).toNat = n7807 → wp kt 7 282 68 [(4, vI v7809), (2, vI v7810), (3, vI v7560), (0, .ref r0)] [] T H7599 (uq_282 r0 e d T H) := by
                  intro n7807
                  induction n7807 using Nat.strongRecOn with
                  | _ n7807 ih7808 =>
                    intro v7809 v7810 b7813 b7814 m7815
                    refine wp_of e282 c282_68 (rw_iload (pc' := 70) (z := v7809) rfl rfl ?_)
                    refine wp_of e282 c282_70 (rw_aload_n (pc' := 71) (v := .ref r0) rfl rfl rfl ?_)
                    refine wp_of e282 c282_71 (xg_K (pc' := 74) lf_9_337 w7603 g0 sh_42 (by decide) (by decide) rfl q7611 rfl ?_)
                    refine wp_of e282 c282_74 (xg_I (pc' := 77) lf_9_185 w7603 g5533 sh_54 (by decide) (by decide) ty_54_0 rfl rfl (fun b7816 b7817 => ?_))
                    refine wp_of e282 c282_77 (rw_icmp_ge (p1 := 110) (p2 := 80) (by decide) rfl ⟨Int.le_trans (by decide) b7813.1, Int.le_trans b7813.2 (by decide)⟩ ⟨Int.le_trans (by decide) b7816, Int.le_trans b7817 (by decide)⟩ (fun c7818 => ?_) (fun c7818 => ?_))
                    · refine wp_of e282 c282_110 (rw_iinc (pc' := 113) (z := v7560) (L' := [(3, vI (v7560 + 1)), (4, vI v7809), (2, vI v7810), (0, .ref r0)]) rfl rfl rfl rfl ?_)
                      refine wp_of e282 c282_113 (rw_goto (p1 := 36) (by decide) ?_)
                      exact wp_lc (ks := [3, 4, 2, 0]) (wl_c rfl (wl_c rfl (wl_c rfl wl_n))) rfl (by decide) (ih7559 _ (by omega) (v7560 + 1) v7810 H7599 w7603 f7606 ⟨by omega, by omega⟩ ⟨b7814.1, b7814.2⟩ rfl)
                    · refine wp_of e282 c282_80 (rw_iload_n (pc' := 81) (z := v7810) rfl rfl ?_)
                      refine wp_of e282 c282_81 (rw_aload_n (pc' := 82) (v := .ref r0) rfl rfl rfl ?_)
                      refine wp_of e282 c282_82 (rw_aload_n (pc' := 83) (v := .ref r0) rfl rfl rfl ?_)
                      refine wp_of e282 c282_83 (xg_K (pc' := 86) lf_9_39 w7603 g0 sh_42 (by decide) (by decide) rfl q7608 rfl ?_)
                      refine wp_of e282 c282_86 (rw_iload (pc' := 88) (z := v7809) rfl rfl ?_)
                      refine wp_of e282 c282_88 (xc_V (pc' := 91) (r := r0) (as := [.ref r7607, vI v7809]) (st := [vI v7810]) (lm_9_386) rfl rfl (Nat.le_of_ble_eq_true rfl) w7603 g0 sh_42 (by decide) rfl (by decide) (s_228_m_lot w7603 g0 g7609 ⟨Int.le_trans (by decide) b7813.1, Int.le_trans b7813.2 (by decide)⟩ q7611 g5533) (fun R7819 T7820 H7821 p7822 => ?_))
                      obtain ⟨e7823, e7825, z7826, e7824, b7827⟩ := p7822
                      subst e7823
                      subst e7824
                      subst e7825
                      show wp _ _ 282 91 [(4, vI v7809), (2, vI v7810), (3, vI v7560), (0, .ref r0)] [vI z7826, vI v7810] _ H7599 _
                      refine wp_of e282 c282_91 (rw_if_ne (p1 := 101) (p2 := 94) (by decide) rfl ⟨b7827.1, b7827.2⟩ (fun c7828 => ?_) (fun c7828 => ?_))
                      · refine wp_of e282 c282_101 (rw_iconst (pc' := 102) rfl ?_)
                        refine wp_of e282 c282_102 (rw_ior (pc' := 103) rfl ?_)
                        obtain ⟨v7829, e7830⟩ : ∃ x : Int, x = wq_or v7810 0 := ⟨_, rfl⟩
                        rw [← e7830]
                        have b7831 : 0 ≤ v7829 ∧ v7829 ≤ 16777215 := by
                          rw [e7830]
                          exact wq_or_24 ⟨by omega, by omega⟩ ⟨by omega, by omega⟩
                        refine wp_of e282 c282_103 (rw_istore_n (pc' := 104) (z := v7829) (L' := [(2, vI v7829), (4, vI v7809), (3, vI v7560), (0, .ref r0)]) rfl rfl rfl ?_)
                        refine wp_of e282 c282_104 (rw_iinc (pc' := 107) (z := v7809) (L' := [(4, vI (v7809 + 1)), (2, vI v7829), (3, vI v7560), (0, .ref r0)]) rfl rfl rfl rfl ?_)
                        refine wp_of e282 c282_107 (rw_goto (p1 := 68) (by decide) ?_)
                        exact wp_lc (ks := [4, 2, 3, 0]) (wl_c rfl (wl_c rfl (wl_c rfl (wl_c rfl wl_n)))) rfl (by decide) (ih7808 _ (by omega) (v7809 + 1) v7829 ⟨by omega, by omega⟩ ⟨b7831.1, b7831.2⟩ rfl)
                      · refine wp_of e282 c282_94 (rw_iconst (pc' := 95) rfl ?_)
                        refine wp_of e282 c282_95 (rw_iload (pc' := 97) (z := v7809) rfl rfl ?_)
                        refine wp_of e282 c282_97 (rw_ishl (pc' := 98) rfl ?_)
                        obtain ⟨v7832, e7833⟩ : ∃ x : Int, x = wq_shl 1 v7809 := ⟨_, rfl⟩
                        rw [← e7833]
                        have b7834 : 1 ≤ v7832 ∧ v7832 ≤ 8388608 := by
                          rw [e7833]
                          exact wq_shl1_24 ⟨by omega, by omega⟩
                        refine wp_of e282 c282_98 (rw_goto (p1 := 102) (by decide) ?_)
                        refine wp_of e282 c282_102 (rw_ior (pc' := 103) rfl ?_)
                        obtain ⟨v7835, e7836⟩ : ∃ x : Int, x = wq_or v7810 v7832 := ⟨_, rfl⟩
                        rw [← e7836]
                        have b7837 : 0 ≤ v7835 ∧ v7835 ≤ 16777215 := by
                          rw [e7836]
                          exact wq_or_24 ⟨by omega, by omega⟩ ⟨by omega, by omega⟩
                        refine wp_of e282 c282_103 (rw_istore_n (pc' := 104) (z := v7835) (L' := [(2, vI v7835), (4, vI v7809), (3, vI v7560), (0, .ref r0)]) rfl rfl rfl ?_)
                        refine wp_of e282 c282_104 (rw_iinc (pc' := 107) (z := v7809) (L' := [(4, vI (v7809 + 1)), (2, vI v7835), (3, vI v7560), (0, .ref r0)]) rfl rfl rfl rfl ?_)
                        refine wp_of e282 c282_107 (rw_goto (p1 := 68) (by decide) ?_)
                        exact wp_lc (ks := [4, 2, 3, 0]) (wl_c rfl (wl_c rfl (wl_c rfl (wl_c rfl wl_n)))) rfl (by decide) (ih7808 _ (by omega) (v7809 + 1) v7835 ⟨by omega, by omega⟩ ⟨b7837.1, b7837.2⟩ rfl)
                exact wp_lc (ks := [4, 3, 2, 0]) (wl_c rfl (wl_c rfl (wl_c rfl (wl_c rfl wl_n)))) rfl (by decide) (lp7806 _ 0 v7561 ⟨by decide, by decide⟩ ⟨b7566.1, b7566.2⟩ rfl)
              · refine wp_of e282 c282_62 (rw_goto (p1 := 110) (by decide) ?_)
                refine wp_of e282 c282_110 (rw_iinc (pc' := 113) (z := v7560) (L' := [(3, vI (v7560 + 1)), (2, vI v7561), (0, .ref r0)]) rfl rfl rfl rfl ?_)
                refine wp_of e282 c282_113 (rw_goto (p1 := 36) (by decide) ?_)
                exact wp_lc (ks := [3, 2, 0]) (wl_c rfl (wl_c rfl (wl_c rfl wl_n))) rfl (by decide) (ih7559 _ (by omega) (v7560 + 1) v7561 H7599 w7603 f7606 ⟨by omega, by omega⟩ ⟨b7566.1, b7566.2⟩ rfl)
        exact wp_lc (ks := [3, 2, 1, 0]) (wl_c rfl (wl_c rfl (wl_c rfl wl_n))) rfl (by decide) (lp7557 _ 0 0 H5585 w5589 wfr.rf ⟨by decide, by decide⟩ ⟨by decide, by decide⟩ rfl)
      · exfalso
        omega
    · have f7838 := f5528.tr f5590 rfl
      show wp _ _ 282 21 [(0, .ref r0)] [vI z5591] _ H5585 _
      have k7839 : wLM H5585 r0 = wLM H r0 := ((wLM_fr w5527 g0 f5590 rfl).trans (wLM_fr hW g0 ((wfr.rf (l := [(42, 0)])).put' e5526 g0 rfl) rfl))
      refine wp_of e282 c282_21 (rw_istore_n (pc' := 22) (z := z5591) (L' := [(1, vI z5591), (0, .ref r0)]) rfl rfl rfl ?_)
      refine wp_of e282 c282_22 (rw_iload_n (pc' := 23) (z := z5591) rfl rfl ?_)
      refine wp_of e282 c282_23 (rw_if_le (p1 := 32) (p2 := 26) (by decide) rfl ⟨Int.le_trans (by decide) b5592.1, Int.le_trans b5592.2 (by decide)⟩ (fun c7840 => ?_) (fun c7840 => ?_))
      · exfalso
        omega
      · refine wp_of e282 c282_26 (rw_aload_n (pc' := 27) (v := .ref r0) rfl rfl rfl ?_)
        refine wp_of e282 c282_27 (rw_iload_n (pc' := 28) (z := z5591) rfl rfl ?_)
        refine wp_of e282 c282_28 (xc_V (pc' := 31) (r := r0) (as := [vI z5591]) (st := []) (lm_9_54) rfl rfl (Nat.le_of_ble_eq_true rfl) w5589 g0 sh_42 (by decide) rfl (by decide) (s_170 w5589 g0 ⟨Int.le_trans (by decide) b5592.1, Int.le_trans b5592.2 (by decide)⟩) (fun R7841 T7842 H7843 p7844 => ?_))
        obtain ⟨e7845, w7847, f7848, z7849, e7846, b7850⟩ := p7844
        subst e7845
        subst e7846
        have f7851 := f7838.tr f7848 rfl
        show wp _ _ 282 31 [(1, vI z5591), (0, .ref r0)] [vI z7849] _ H7843 _
        have k7852 : wKI H7843 r0 = wKI H5585 r0 := (wKI_fr w5589 g0 f7848 rfl)
        have h7853 : KNN T H7843 r0 e d := (KNN_fr w5589 g0 f7848 rfl a5609)
        exact wp_ireturn e282 c282_31 rfl ⟨rfl, w7847, f7851, z7849, rfl, ⟨b7850.1, b7850.2⟩, ⟨by omega, h7853⟩⟩
/-! StrikeAwakeModel.seek()I  -/
abbrev uq_288 (r0 : Nat) (e : xD) (d : xD) (T : wq_T) (H : wq_H) : Option Value → wq_T → wq_H → Prop := fun r T' H' => T = T' ∧ WT T H' ∧ wfr [(42, 0), (42, 1), (42, 2), (42, 28), (42, 29), (42, 32), (51, 999), (52, 999)] T H H' ∧ ∃ z : Int, some (vI z) = r ∧ ((-2147483648) ≤ z ∧ z ≤ 2147483647) ∧ (((wKI H' r0 = 1) ∧ KNN T H' r0 e d))
set_option maxHeartbeats 4000000 in
theorem u_288 {kt : Nat → Option mc_E} {T : wq_T} {H : wq_H} {r0 : Nat} {e : xD} {d : xD} (hW : WT T H) (g0 : T.2.2.2 r0 = some 42) (p0 : wKI H r0 = 1) (p1 : XW d) (p2 : ∀ h : Nat, d 0 0 ≤ (h : Int) → h < 24 → e 13 h = 0) (p3 : XN d) (p4 : ∀ h : Nat, h < 24 → 0 ≤ e 13 h ∧ e 13 h ≤ 100) (hRB_r0 : RB T H r0 e d) (hKNN_r0 : KNN T H r0 e d) : wpc kt 8 288 [.ref r0] T H (uq_288 r0 e d T H) := by
  refine wp_enter e288 (Nat.le_of_ble_eq_true rfl) rfl ?_
  have f0 : wfr [(42, 0), (42, 1), (42, 2), (42, 28), (42, 29), (42, 32), (51, 999), (52, 999)] T H H := wfr.rf
  show wp _ _ 288 0 [(0, .ref r0)] [] _ H _
  have _b := RB_b hW hRB_r0
  have _nu := RB_n3 hRB_r0
  have _lm := RB_lm hRB_r0
  refine wp_of e288 c288_0 (rw_aload_n (pc' := 1) (v := .ref r0) rfl rfl rfl ?_)
  refine wp_of e288 c288_1 (rw_iconst (pc' := 2) rfl ?_)
  refine wp_of e288 c288_2 (xp_I (pc' := 5) lf_9_48 hW g0 sh_42 (by decide) (by decide) ty_42_0 rfl rfl (by decide) (by decide) ⟨by decide, by decide⟩ rfl (fun H1384 e1385 w1386 => ?_))
  have f1387 := f0.put' e1385 g0 rfl
  have k1388 : H1384 r0 0 = 0 := wq_u_s e1385
  refine wp_of e288 c288_5 (rw_aload_n (pc' := 6) (v := .ref r0) rfl rfl rfl ?_)
  refine wp_of e288 c288_6 (rw_aload_n (pc' := 7) (v := .ref r0) rfl rfl rfl ?_)
  have k1389 : H1384 r0 3 = H r0 3 := (wq_u_j e1385 rfl)
  refine wp_of e288 c288_7 (xg_O (pc' := 10) lf_9_337 w1386 g0 sh_42 (by decide) (by decide) ty_42_3 rfl rfl (fun q1391 => ?_) (fun r1390 q1391 g1392 => ?_))
  · refine wp_of e288 c288_10 (rw_ifnull_n (p1 := 17) (p2 := 13) (by decide) rfl ?_)
    refine wp_of e288 c288_17 (rw_iconst (pc' := 18) rfl ?_)
    have k1393 : wKI H1384 r0 = wKI H r0 := (wKI_fr hW g0 ((wfr.rf (l := [(42, 0)])).put' e1385 g0 rfl) rfl)
    have h1394 : RB T H1384 r0 e d := (RB_fr hW g0 ((wfr.rf (l := [(42, 0)])).put' e1385 g0 rfl) rfl hRB_r0)
    have h1395 : KNN T H1384 r0 e d := (KNN_fr hW g0 ((wfr.rf (l := [(42, 0)])).put' e1385 g0 rfl) rfl hKNN_r0)
    refine wp_of e288 c288_18 (xc_V (pc' := 21) (r := r0) (as := [vI 0]) (st := []) (lm_9_433) rfl rfl (Nat.le_of_ble_eq_true rfl) w1386 g0 sh_42 (by decide) rfl (by decide) (u_241 (e := e) (d := d) w1386 g0 ⟨by decide, by decide⟩ (by omega) (by omega) (by assumption) (by assumption) (by assumption) (by assumption) h1394 h1395) (fun R1396 T1397 H1398 p1399 => ?_))
    obtain ⟨e1400, w1402, f1403, z1404, e1401, b1405, p1406⟩ := p1399
    subst e1400
    subst e1401
    rcases p1406 with ⟨a1407, a1408, a1409, a1410, a1411, a1412, a1413, a1414, a1415⟩ | ⟨a1416, a1417, a1418, a1419, a1420, a1421, a1422⟩
    · exfalso
      omega
    · have f1423 := f1387.tr f1403 rfl
      show wp _ _ 288 21 [(0, .ref r0)] [vI z1404] _ H1398 _
      have k1424 : wLM H1398 r0 = wLM H r0 := ((wLM_fr w1386 g0 f1403 rfl).trans (wLM_fr hW g0 ((wfr.rf (l := [(42, 0)])).put' e1385 g0 rfl) rfl))
      refine wp_of e288 c288_21 (rw_istore_n (pc' := 22) (z := z1404) (L' := [(1, vI z1404), (0, .ref r0)]) rfl rfl rfl ?_)
      refine wp_of e288 c288_22 (rw_iload_n (pc' := 23) (z := z1404) rfl rfl ?_)
      refine wp_of e288 c288_23 (rw_if_le (p1 := 32) (p2 := 26) (by decide) rfl ⟨Int.le_trans (by decide) b1405.1, Int.le_trans b1405.2 (by decide)⟩ (fun c1425 => ?_) (fun c1425 => ?_))
      · exfalso
        omega
      · refine wp_of e288 c288_26 (rw_aload_n (pc' := 27) (v := .ref r0) rfl rfl rfl ?_)
        refine wp_of e288 c288_27 (rw_iload_n (pc' := 28) (z := z1404) rfl rfl ?_)
        refine wp_of e288 c288_28 (xc_V (pc' := 31) (r := r0) (as := [vI z1404]) (st := []) (lm_9_54) rfl rfl (Nat.le_of_ble_eq_true rfl) w1402 g0 sh_42 (by decide) rfl (by decide) (s_170 w1402 g0 ⟨Int.le_trans (by decide) b1405.1, Int.le_trans b1405.2 (by decide)⟩) (fun R1426 T1427 H1428 p1429 => ?_))
        obtain ⟨e1430, w1432, f1433, z1434, e1431, b1435⟩ := p1429
        subst e1430
        subst e1431
        have f1436 := f1423.tr f1433 rfl
        show wp _ _ 288 31 [(1, vI z1404), (0, .ref r0)] [vI z1434] _ H1428 _
        have k1437 : wKI H1428 r0 = wKI H1398 r0 := (wKI_fr w1402 g0 f1433 rfl)
        have h1438 : KNN T H1428 r0 e d := (KNN_fr w1402 g0 f1433 rfl a1422)
        exact wp_ireturn e288 c288_31 rfl ⟨rfl, w1432, f1436, z1434, rfl, ⟨b1435.1, b1435.2⟩, ⟨by omega, h1438⟩⟩
  · refine wp_of e288 c288_10 (rw_ifnull_r (p1 := 17) (p2 := 13) (by decide) rfl ?_)
    refine wp_of e288 c288_13 (rw_iconst (pc' := 14) rfl ?_)
    refine wp_of e288 c288_14 (rw_goto (p1 := 18) (by decide) ?_)
    have k1439 : wKI H1384 r0 = wKI H r0 := (wKI_fr hW g0 ((wfr.rf (l := [(42, 0)])).put' e1385 g0 rfl) rfl)
    have h1440 : RB T H1384 r0 e d := (RB_fr hW g0 ((wfr.rf (l := [(42, 0)])).put' e1385 g0 rfl) rfl hRB_r0)
    have h1441 : KNN T H1384 r0 e d := (KNN_fr hW g0 ((wfr.rf (l := [(42, 0)])).put' e1385 g0 rfl) rfl hKNN_r0)
    refine wp_of e288 c288_18 (xc_V (pc' := 21) (r := r0) (as := [vI 1]) (st := []) (lm_9_433) rfl rfl (Nat.le_of_ble_eq_true rfl) w1386 g0 sh_42 (by decide) rfl (by decide) (u_241 (e := e) (d := d) w1386 g0 ⟨by decide, by decide⟩ (by omega) (by omega) (by assumption) (by assumption) (by assumption) (by assumption) h1440 h1441) (fun R1442 T1443 H1444 p1445 => ?_))
    obtain ⟨e1446, w1448, f1449, z1450, e1447, b1451, p1452⟩ := p1445
    subst e1446
    subst e1447
    rcases p1452 with ⟨a1453, a1454, a1455, a1456, a1457, a1458, a1459, a1460, a1461⟩ | ⟨a1462, a1463, a1464, a1465, a1466, a1467, a1468⟩
    · have f1469 := f1387.tr f1449 rfl
      show wp _ _ 288 21 [(0, .ref r0)] [vI z1450] _ H1444 _
      have k1470 : wLM H1444 r0 = wLM H r0 := ((wLM_fr w1386 g0 f1449 rfl).trans (wLM_fr hW g0 ((wfr.rf (l := [(42, 0)])).put' e1385 g0 rfl) rfl))
      refine wp_of e288 c288_21 (rw_istore_n (pc' := 22) (z := z1450) (L' := [(1, vI z1450), (0, .ref r0)]) rfl rfl rfl ?_)
      refine wp_of e288 c288_22 (rw_iload_n (pc' := 23) (z := z1450) rfl rfl ?_)
      refine wp_of e288 c288_23 (rw_if_le (p1 := 32) (p2 := 26) (by decide) rfl ⟨Int.le_trans (by decide) b1451.1, Int.le_trans b1451.2 (by decide)⟩ (fun c1471 => ?_) (fun c1471 => ?_))
      · refine wp_of e288 c288_32 (rw_iconst (pc' := 33) rfl ?_)
        refine wp_of e288 c288_33 (rw_istore_n (pc' := 34) (z := 0) (L' := [(2, vI 0), (1, vI z1450), (0, .ref r0)]) rfl rfl rfl ?_)
        have lp1568 : ∀ (n1569 : Nat) (v1571 : Int), (0 ≤ v1571 ∧ v1571 ≤ 20000) → (20000 - v1571).toNat = n1569 → wp kt 7 288 34 [(2, vI v1571), (0, .ref r0)] [] T H1444 (uq_288 r0 e d T H) := by
          intro n1569
          induction n1569 using Nat.strongRecOn with
          | _ n1569 ih1570 =>
            intro v1571 b1574 m1575
            refine wp_of e288 c288_34 (rw_iload_n (pc' := 35) (z := v1571) rfl rfl ?_)
            refine wp_of e288 c288_35 (rw_aload_n (pc' := 36) (v := .ref r0) rfl rfl rfl ?_)
            refine wp_of e288 c288_36 (xg_I (pc' := 39) lf_9_422 w1448 g0 sh_42 (by decide) (by decide) ty_42_29 rfl rfl (fun b1576 b1577 => ?_))
            refine wp_of e288 c288_39 (rw_icmp_ge (p1 := 87) (p2 := 42) (by decide) rfl ⟨Int.le_trans (by decide) b1574.1, Int.le_trans b1574.2 (by decide)⟩ ⟨Int.le_trans (by decide) b1576, Int.le_trans b1577 (by decide)⟩ (fun c1578 => ?_) (fun c1578 => ?_))
            · refine wp_of e288 c288_87 (rw_aload_n (pc' := 88) (v := .ref r0) rfl rfl rfl ?_)
              refine wp_of e288 c288_88 (rw_bipush (pc' := 90) (z := 6) rfl (by decide) ?_)
              refine wp_of e288 c288_90 (xc_V (pc' := 93) (r := r0) (as := [vI 6]) (st := []) (lm_9_54) rfl rfl (Nat.le_of_ble_eq_true rfl) w1448 g0 sh_42 (by decide) rfl (by decide) (s_170 w1448 g0 ⟨by decide, by decide⟩) (fun R1579 T1580 H1581 p1582 => ?_))
              obtain ⟨e1583, w1585, f1586, z1587, e1584, b1588⟩ := p1582
              subst e1583
              subst e1584
              have f1589 := f1469.tr f1586 rfl
              show wp _ _ 288 93 [(2, vI v1571), (0, .ref r0)] [vI z1587] _ H1581 _
              have k1590 : wKI H1581 r0 = wKI H1444 r0 := (wKI_fr w1448 g0 f1586 rfl)
              have h1591 : KNN T H1581 r0 e d := (KNN_fr w1448 g0 f1586 rfl a1460)
              exact wp_ireturn e288 c288_93 rfl ⟨rfl, w1585, f1589, z1587, rfl, ⟨b1588.1, b1588.2⟩, ⟨by omega, h1591⟩⟩
            · refine wp_of e288 c288_42 (rw_aload_n (pc' := 43) (v := .ref r0) rfl rfl rfl ?_)
              refine wp_of e288 c288_43 (xg_R (pc' := 46) lf_9_42 w1448 g0 sh_42 (by decide) (by decide) ty_42_30 rfl rfl (fun r1592 q1593 g1594 => ?_))
              refine wp_of e288 c288_46 (rw_iload_n (pc' := 47) (z := v1571) rfl rfl ?_)
              refine wp_of e288 c288_47 (xa_I (so := 0) (pc' := 48) w1448 g1594 sh_52 (by decide) (ty_52 _) (b1574.1) (by omega) rfl (fun b1595 b1596 => ?_))
              refine wp_of e288 c288_48 (rw_aload_n (pc' := 49) (v := .ref r0) rfl rfl rfl ?_)
              refine wp_of e288 c288_49 (xg_I (pc' := 52) lf_9_340 w1448 g0 sh_42 (by decide) (by decide) ty_42_32 rfl rfl (fun b1597 b1598 => ?_))
              refine wp_of e288 c288_52 (rw_icmp_ge (p1 := 58) (p2 := 55) (by decide) rfl ⟨Int.le_trans (by decide) b1595, Int.le_trans b1596 (by decide)⟩ ⟨Int.le_trans (by decide) b1597, b1598⟩ (fun c1599 => ?_) (fun c1599 => ?_))
              · refine wp_of e288 c288_58 (rw_aload_n (pc' := 59) (v := .ref r0) rfl rfl rfl ?_)
                refine wp_of e288 c288_59 (rw_aload_n (pc' := 60) (v := .ref r0) rfl rfl rfl ?_)
                refine wp_of e288 c288_60 (xg_K (pc' := 63) lf_9_42 w1448 g0 sh_42 (by decide) (by decide) rfl q1593 rfl ?_)
                refine wp_of e288 c288_63 (rw_iload_n (pc' := 64) (z := v1571) rfl rfl ?_)
                refine wp_of e288 c288_64 (xa_I (so := 0) (pc' := 65) w1448 g1594 sh_52 (by decide) (ty_52 _) (b1574.1) (by omega) rfl (fun b1600 b1601 => ?_))
                refine wp_of e288 c288_65 (rw_iconst (pc' := 66) rfl ?_)
                refine wp_of e288 c288_66 (rw_iadd (pc' := 67) rfl ?_)
                refine wp_of e288 c288_67 (xp_I (pc' := 70) lf_9_340 w1448 g0 sh_42 (by decide) (by decide) ty_42_32 rfl rfl (by omega) (by omega) ⟨by omega, by omega⟩ rfl (fun H1602 e1603 w1604 => ?_))
                have f1605 := f1469.put' e1603 g0 rfl
                have k1606 : H1602 r0 32 = (H1444 r1592 (v1571.toNat)) + 1 := wq_u_s e1603
                refine wp_of e288 c288_70 (rw_aload_n (pc' := 71) (v := .ref r0) rfl rfl rfl ?_)
                refine wp_of e288 c288_71 (rw_aload_n (pc' := 72) (v := .ref r0) rfl rfl rfl ?_)
                have k1607 : H1602 r0 30 = H1444 r0 30 := (wq_u_j e1603 rfl)
                have q1608 : H1602 r0 30 = (r1592 : Int) := k1607.trans q1593
                refine wp_of e288 c288_72 (xg_K (pc' := 75) lf_9_42 w1604 g0 sh_42 (by decide) (by decide) rfl q1608 rfl ?_)
                refine wp_of e288 c288_75 (rw_iload_n (pc' := 76) (z := v1571) rfl rfl ?_)
                have k1609 : H1602 r1592 (v1571.toNat) = H1444 r1592 (v1571.toNat) := (wq_u_t e1603 g0 g1594 rfl (v1571.toNat))
                refine wp_of e288 c288_76 (xa_I (so := 0) (pc' := 77) w1604 g1594 sh_52 (by decide) (ty_52 _) (b1574.1) (by omega) rfl (fun b1610 b1611 => ?_))
                refine wp_of e288 c288_77 (xc_V (pc' := 80) (r := r0) (as := [vI (H1602 r1592 (v1571.toNat))]) (st := []) (lm_9_58) rfl rfl (Nat.le_of_ble_eq_true rfl) w1604 g0 sh_42 (by decide) rfl (by decide) (s_209 w1604 g0 ⟨Int.le_trans (by decide) b1610, Int.le_trans b1611 (by decide)⟩) (fun R1612 T1613 H1614 p1615 => ?_))
                obtain ⟨e1616, w1618, f1619, z1620, e1617, b1621⟩ := p1615
                subst e1616
                subst e1617
                have f1622 := f1605.tr f1619 rfl
                show wp _ _ 288 80 [(2, vI v1571), (0, .ref r0)] [vI z1620] _ H1614 _
                have k1623 : wKI H1614 r0 = wKI H1444 r0 := ((wKI_fr w1604 g0 f1619 rfl).trans (wKI_fr w1448 g0 ((wfr.rf (l := [(42, 32)])).put' e1603 g0 rfl) rfl))
                have h1624 : KNN T H1614 r0 e d := (KNN_fr w1604 g0 f1619 rfl (KNN_fr w1448 g0 ((wfr.rf (l := [(42, 32)])).put' e1603 g0 rfl) rfl a1460))
                exact wp_ireturn e288 c288_80 rfl ⟨rfl, w1618, f1622, z1620, rfl, ⟨b1621.1, b1621.2⟩, ⟨by omega, h1624⟩⟩
              · refine wp_of e288 c288_55 (rw_goto (p1 := 81) (by decide) ?_)
                refine wp_of e288 c288_81 (rw_iinc (pc' := 84) (z := v1571) (L' := [(2, vI (v1571 + 1)), (0, .ref r0)]) rfl rfl rfl rfl ?_)
                refine wp_of e288 c288_84 (rw_goto (p1 := 34) (by decide) ?_)
                exact wp_lc (ks := [2, 0]) (wl_c rfl (wl_c rfl wl_n)) rfl (by decide) (ih1570 _ (by omega) (v1571 + 1) ⟨by omega, by omega⟩ rfl)
        exact wp_lc (ks := [2, 1, 0]) (wl_c rfl (wl_c rfl wl_n)) rfl (by decide) (lp1568 _ 0 ⟨by decide, by decide⟩ rfl)
      · exfalso
        omega
    · have f1625 := f1387.tr f1449 rfl
      show wp _ _ 288 21 [(0, .ref r0)] [vI z1450] _ H1444 _
      have k1626 : wLM H1444 r0 = wLM H r0 := ((wLM_fr w1386 g0 f1449 rfl).trans (wLM_fr hW g0 ((wfr.rf (l := [(42, 0)])).put' e1385 g0 rfl) rfl))
      refine wp_of e288 c288_21 (rw_istore_n (pc' := 22) (z := z1450) (L' := [(1, vI z1450), (0, .ref r0)]) rfl rfl rfl ?_)
      refine wp_of e288 c288_22 (rw_iload_n (pc' := 23) (z := z1450) rfl rfl ?_)
      refine wp_of e288 c288_23 (rw_if_le (p1 := 32) (p2 := 26) (by decide) rfl ⟨Int.le_trans (by decide) b1451.1, Int.le_trans b1451.2 (by decide)⟩ (fun c1627 => ?_) (fun c1627 => ?_))
      · exfalso
        omega
      · refine wp_of e288 c288_26 (rw_aload_n (pc' := 27) (v := .ref r0) rfl rfl rfl ?_)
        refine wp_of e288 c288_27 (rw_iload_n (pc' := 28) (z := z1450) rfl rfl ?_)
        refine wp_of e288 c288_28 (xc_V (pc' := 31) (r := r0) (as := [vI z1450]) (st := []) (lm_9_54) rfl rfl (Nat.le_of_ble_eq_true rfl) w1448 g0 sh_42 (by decide) rfl (by decide) (s_170 w1448 g0 ⟨Int.le_trans (by decide) b1451.1, Int.le_trans b1451.2 (by decide)⟩) (fun R1628 T1629 H1630 p1631 => ?_))
        obtain ⟨e1632, w1634, f1635, z1636, e1633, b1637⟩ := p1631
        subst e1632
        subst e1633
        have f1638 := f1625.tr f1635 rfl
        show wp _ _ 288 31 [(1, vI z1450), (0, .ref r0)] [vI z1636] _ H1630 _
        have k1639 : wKI H1630 r0 = wKI H1444 r0 := (wKI_fr w1448 g0 f1635 rfl)
        have h1640 : KNN T H1630 r0 e d := (KNN_fr w1448 g0 f1635 rfl a1468)
        exact wp_ireturn e288 c288_31 rfl ⟨rfl, w1634, f1638, z1636, rfl, ⟨b1637.1, b1637.2⟩, ⟨by omega, h1640⟩⟩
end
section
/-! WHAT THE TWO OBJECTS HAVE IN COMMON between calls (own work): THE TAPE; two PARISHES of the class apart from each other; what is told, what is struck now, SPANS -/
def XI0 (T : wq_T) (H : wq_H) (x m : Nat) : Prop := ∃ (B : Nat → Int) (tc tm cu dr : Nat), H x 0 = (tc : Int) ∧ T.2.2.2 tc = some 2 ∧ TP T H tc B ∧ H m 5 = (tm : Int) ∧ T.2.2.2 tm = some 43 ∧ TM T H tm B ∧ H x 6 = (cu : Int) ∧ T.2.2.2 cu = some 27 ∧ H x 7 = (dr : Int) ∧ T.2.2.2 dr = some 27 ∧ DD T H cu ∧ DD T H dr ∧ T.2.2.2 m = some 42
def XI (T : wq_T) (H : wq_H) (x m : Nat) : Prop := ∃ (B : Nat → Int) (tc tm cu dr : Nat) (C : Nat → Bool) (e d : xD) (n : Int) (g : Nat → Int) (ce : Nat), H x 0 = (tc : Int) ∧ T.2.2.2 tc = some 2 ∧ TP T H tc B ∧ H m 5 = (tm : Int) ∧ T.2.2.2 tm = some 43 ∧ TM T H tm B ∧ H x 6 = (cu : Int) ∧ T.2.2.2 cu = some 27 ∧ H x 7 = (dr : Int) ∧ T.2.2.2 dr = some 27 ∧ DD T H cu ∧ DD T H dr ∧ DE T H cu ∧ DE T H dr ∧ SP T H x C ∧ C cu = true ∧ C dr = false ∧ CU T H cu e d n ∧ RB T H m e d ∧ CG T H cu (d 0 3) g ∧ MN26 T H m (d 0 3) g ∧ (∀ i, i ≠ 13 → e i = d i) ∧ (∀ h : Nat, d 0 0 ≤ (h : Int) → h < 24 → e 13 h = 0) ∧ (H x 8 = 0 ∨ n = xlots d) ∧ XA d ∧ (H x 8 = 0 ∨ (1 ≤ d 0 0 ∧ 1 ≤ d 0 3)) ∧ SG d g ∧ H x 3 = (ce : Int) ∧ T.2.2.2 ce = some 12 ∧ CEN T H ce e d ∧ HDR T H ce ∧ KNN T H m e d ∧ T.2.2.2 m = some 42
def XIx (l : List (Nat × Nat)) : Bool := wno l 1 (fun j => decide (j = 0 ∨ j = 3 ∨ j = 6 ∨ j = 7 ∨ j = 8)) && TPx l && wno l 42 (fun j => decide (j = 5)) && TMx l && DDx l && DEx l && SPx l && CUx l && RBx l && CGx l && DAw 42 26 50 l && CENx l && HDRx l && KNNx l
theorem XI_fr {T : wq_T} {H H' : wq_H} {l : List (Nat × Nat)} {x m : Nat} (hW : WT T H) (g : T.2.2.2 x = some 1) (f : wfr l T H H') (y : XIx l = true) (h : XI T H x m) : XI T H' x m := by
  unfold XIx at y
  simp only [Bool.and_eq_true] at y
  obtain ⟨⟨⟨⟨⟨⟨⟨⟨⟨⟨⟨⟨⟨y1, y2⟩, y3⟩, y4⟩, y5⟩, y6⟩, y7⟩, y8⟩, y9⟩, y10⟩, y11⟩, y12⟩, y12b⟩, y13⟩ := y
  obtain ⟨B, tc, tm, cu, dr, C, e, d, n, g', ce, h1, h2, h3, h4, h5, h6, h7, h8, h9, h10, h11, h12, h13, h14, h15, h16, h17, h18, h19, hcg, hmn, h20, h20z, h21, ha, hv, hs, hc1, hc2, hc3, hch, hc4, h22⟩ := h
  have e8 : H' x 8 = H x 8 := wno_f f g y1 rfl
  exact ⟨B, tc, tm, cu, dr, C, e, d, n, g', ce, (wno_f f g y1 rfl).trans h1, h2, TP_fr hW h2 f y2 h3, (wno_f f h22 y3 rfl).trans h4, h5, TM_fr hW h5 f y4 h6, (wno_f f g y1 rfl).trans h7, h8, (wno_f f g y1 rfl).trans h9, h10, DD_fr hW h8 f y5 h11, DD_fr hW h10 f y5 h12, DE_fr hW h8 f y6 h13, DE_fr hW h10 f y6 h14, SP_fr hW g f y7 h15, h16, h17, CU_fr hW h8 f y8 h18, RB_fr hW h22 f y9 h19, CG_fr hW h8 f y10 hcg, MN26_fr hW h22 f y11 hmn, h20, h20z, by rw [e8]; exact h21, ha, by rw [e8]; exact hv, hs, (wno_f f g y1 rfl).trans hc1, hc2, CEN_fr hW hc2 f y12 hc3, HDR_fr hW hc2 f y12b hch, KNN_fr hW h22 f y13 hc4, h22⟩
theorem DD_mono {T T' : wq_T} {H : wq_H} {r : Nat} (m : ∀ a t, T.2.2.2 a = some t → T'.2.2.2 a = some t) (h : DD T H r) : DD T' H r := by
  obtain ⟨pa, h1, h2, h3⟩ := h
  exact ⟨pa, h1, m _ _ h2, h3⟩
end
