/-! what methods do (own work, written by wip/gen3/sx3.py) -/
/-! StrikeAwake$Person.addSpan(IIII)V  -/
abbrev uq_48 (r0 : Nat) (a1 : Int) (a2 : Int) (a3 : Int) (a4 : Int) (d : xD) (k : Nat) (P : List (Int × Int)) (y1 : Int) (y2 : Int) (T : wq_T) (H : wq_H) : Option Value → wq_T → wq_H → Prop := fun r T' H' => T = T' ∧ WT T H' ∧ wfr [(35, 15), (38, 999), (39, 999), (36, 999), (40, 999), (41, 999), (37, 999)] T H H' ∧ none = r ∧ ((PS T H' r0 d k (P ++ [(y1, y2)])))
set_option maxHeartbeats 4000000 in
theorem u_48 {kt : Nat → Option mc_E} {T : wq_T} {H : wq_H} {r0 : Nat} {a1 : Int} {a2 : Int} {a3 : Int} {a4 : Int} {d : xD} {k : Nat} {P : List (Int × Int)} {y1 : Int} {y2 : Int} (hW : WT T H) (g0 : T.2.2.2 r0 = some 35) (i1 : (-1) ≤ a1 ∧ a1 ≤ 24) (i2 : (-1) ≤ a2 ∧ a2 ≤ 24) (i3 : (-2147483648) ≤ a3 ∧ a3 ≤ 2147483647) (i4 : (-2147483648) ≤ a4 ∧ a4 ≤ 2147483647) (p0 : a1 = y1) (p1 : a2 = y2) (p2 : (P.length : Int) ≤ 39) (p3 : a3 = xas d k (y1, y2)) (p4 : a4 = xwk d k (y1, y2)) (hPS_r0 : PS T H r0 d k P) : wpc kt 2 48 [.ref r0, vI a1, vI a2, vI a3, vI a4] T H (uq_48 r0 a1 a2 a3 a4 d k P y1 y2 T H) := by
  refine wp_enter e48 (Nat.le_of_ble_eq_true rfl) rfl ?_
  have f0 : wfr [(35, 15), (38, 999), (39, 999), (36, 999), (40, 999), (41, 999), (37, 999)] T H H := wfr.rf
  show wp _ _ 48 0 [(0, .ref r0), (1, vI a1), (2, vI a2), (3, vI a3), (4, vI a4)] [] _ H _
  have h1101 : PA0 T H r0 (P.length : Int) (xr1 P) := hPS_r0.2.1
  have h1102 : PA1 T H r0 (P.length : Int) (xr2 P) := hPS_r0.2.2.1
  have h1103 : PA2 T H r0 (P.length : Int) (xr3 d k P) := hPS_r0.2.2.2.1
  have h1104 : PA3 T H r0 (P.length : Int) (xr4 d k P) := hPS_r0.2.2.2.2.1
  have h1105 : PA4 T H r0 (P.length : Int) (xr5 d k P) := hPS_r0.2.2.2.2.2.1
  have h1106 : PA5 T H r0 (P.length : Int) (xr6 d k P) := hPS_r0.2.2.2.2.2.2
  have _n := hPS_r0.1
  have _g := @getD_ap P (y1, y2)
  refine wp_of e48 c48_0 (rw_aload_n (pc' := 1) (v := .ref r0) rfl rfl rfl ?_)
  refine wp_of e48 c48_1 (xg_I (pc' := 4) lf_8_49 hW g0 sh_35 (by decide) (by decide) ty_35_15 rfl rfl (fun b1107 b1108 => ?_))
  refine wp_of e48 c48_4 (rw_bipush (pc' := 6) (z := 40) rfl (by decide) ?_)
  refine wp_of e48 c48_6 (rw_icmp_lt (p1 := 10) (p2 := 9) (by decide) rfl ⟨by omega, by omega⟩ ⟨by omega, by omega⟩ (fun c1109 => ?_) (fun c1109 => ?_))
  · refine wp_of e48 c48_10 (rw_aload_n (pc' := 11) (v := .ref r0) rfl rfl rfl ?_)
    refine wp_of e48 c48_11 (xg_R (pc' := 14) lf_8_9 hW g0 sh_35 (by decide) (by decide) ty_35_0 rfl rfl (fun r1110 q1111 g1112 => ?_))
    refine wp_of e48 c48_14 (rw_aload_n (pc' := 15) (v := .ref r0) rfl rfl rfl ?_)
    refine wp_of e48 c48_15 (xg_I (pc' := 18) lf_8_49 hW g0 sh_35 (by decide) (by decide) ty_35_15 rfl rfl (fun b1113 b1114 => ?_))
    refine wp_of e48 c48_18 (rw_iload_n (pc' := 19) (z := a1) rfl rfl ?_)
    refine wp_of e48 c48_19 (xs_I (pc' := 20) hW g1112 (by decide) sh_36 (by decide) (ty_36 _) (by omega) (by omega) ⟨by omega, by omega⟩ (by omega) (by omega) rfl (fun H1115 e1116 w1117 => ?_))
    have f1118 := f0.put' e1116 g1112 rfl
    have h1119 : PA0 T H1115 r0 ((P.length : Int) + 1) (xr1 (P ++ [(y1, y2)])) := DAo_put h1101 q1111 g0 g1112 (by decide) e1116 (k := ((H r0 15).toNat)) (by omega) rfl (by
      rw [show ((H r0 15).toNat) = P.length by omega]
      show ((P ++ [(y1, y2)]).getD P.length (0, 0)).1 = _
      rw [_g.1]
      omega) (fun j hj => by
      show ((P ++ [(y1, y2)]).getD j (0, 0)).1 = (P.getD j (0, 0)).1
      rw [_g.2 j (by omega)])
    refine wp_of e48 c48_20 (rw_aload_n (pc' := 21) (v := .ref r0) rfl rfl rfl ?_)
    refine wp_of e48 c48_21 (xg_R (pc' := 24) lf_8_15 w1117 g0 sh_35 (by decide) (by decide) ty_35_1 rfl rfl (fun r1120 q1121 g1122 => ?_))
    refine wp_of e48 c48_24 (rw_aload_n (pc' := 25) (v := .ref r0) rfl rfl rfl ?_)
    have k1123 : H1115 r0 15 = H r0 15 := (wq_u_t e1116 g1112 g0 rfl 15)
    refine wp_of e48 c48_25 (xg_I (pc' := 28) lf_8_49 w1117 g0 sh_35 (by decide) (by decide) ty_35_15 rfl rfl (fun b1124 b1125 => ?_))
    refine wp_of e48 c48_28 (rw_iload_n (pc' := 29) (z := a2) rfl rfl ?_)
    have h1126 : PA1 T H1115 r0 (P.length : Int) (xr2 P) := (PA1_fr hW g0 ((wfr.rf (l := [(36, 999)])).put' e1116 g1112 rfl) rfl h1102)
    refine wp_of e48 c48_29 (xs_I (pc' := 30) w1117 g1122 (by decide) sh_37 (by decide) (ty_37 _) (by omega) (by omega) ⟨by omega, by omega⟩ (by omega) (by omega) rfl (fun H1127 e1128 w1129 => ?_))
    have f1130 := f1118.put' e1128 g1122 rfl
    have h1131 : PA1 T H1127 r0 ((P.length : Int) + 1) (xr2 (P ++ [(y1, y2)])) := DAo_put h1126 q1121 g0 g1122 (by decide) e1128 (k := ((H1115 r0 15).toNat)) (by omega) rfl (by
      rw [show ((H1115 r0 15).toNat) = P.length by omega]
      show ((P ++ [(y1, y2)]).getD P.length (0, 0)).2 = _
      rw [_g.1]
      omega) (fun j hj => by
      show ((P ++ [(y1, y2)]).getD j (0, 0)).2 = (P.getD j (0, 0)).2
      rw [_g.2 j (by omega)])
    refine wp_of e48 c48_30 (rw_aload_n (pc' := 31) (v := .ref r0) rfl rfl rfl ?_)
    refine wp_of e48 c48_31 (xg_R (pc' := 34) lf_8_18 w1129 g0 sh_35 (by decide) (by decide) ty_35_2 rfl rfl (fun r1132 q1133 g1134 => ?_))
    refine wp_of e48 c48_34 (rw_aload_n (pc' := 35) (v := .ref r0) rfl rfl rfl ?_)
    have k1135 : H1127 r0 15 = H1115 r0 15 := (wq_u_t e1128 g1122 g0 rfl 15)
    refine wp_of e48 c48_35 (xg_I (pc' := 38) lf_8_49 w1129 g0 sh_35 (by decide) (by decide) ty_35_15 rfl rfl (fun b1136 b1137 => ?_))
    refine wp_of e48 c48_38 (rw_iload_n (pc' := 39) (z := a3) rfl rfl ?_)
    have h1138 : PA2 T H1127 r0 (P.length : Int) (xr3 d k P) := (PA2_fr w1117 g0 ((wfr.rf (l := [(37, 999)])).put' e1128 g1122 rfl) rfl (PA2_fr hW g0 ((wfr.rf (l := [(36, 999)])).put' e1116 g1112 rfl) rfl h1103))
    refine wp_of e48 c48_39 (xs_I (pc' := 40) w1129 g1134 (by decide) sh_38 (by decide) (ty_38 _) (by omega) (by omega) ⟨by omega, by omega⟩ (by omega) (by omega) rfl (fun H1139 e1140 w1141 => ?_))
    have f1142 := f1130.put' e1140 g1134 rfl
    have h1143 : PA2 T H1139 r0 ((P.length : Int) + 1) (xr3 d k (P ++ [(y1, y2)])) := DAo_put h1138 q1133 g0 g1134 (by decide) e1140 (k := ((H1127 r0 15).toNat)) (by omega) rfl (by
      rw [show ((H1127 r0 15).toNat) = P.length by omega]
      show xas d k ((P ++ [(y1, y2)]).getD P.length (0, 0)) = _
      rw [_g.1]
      omega) (fun j hj => by
      show xas d k ((P ++ [(y1, y2)]).getD j (0, 0)) = xas d k (P.getD j (0, 0))
      rw [_g.2 j (by omega)])
    refine wp_of e48 c48_40 (rw_aload_n (pc' := 41) (v := .ref r0) rfl rfl rfl ?_)
    refine wp_of e48 c48_41 (xg_R (pc' := 44) lf_8_21 w1141 g0 sh_35 (by decide) (by decide) ty_35_3 rfl rfl (fun r1144 q1145 g1146 => ?_))
    refine wp_of e48 c48_44 (rw_aload_n (pc' := 45) (v := .ref r0) rfl rfl rfl ?_)
    have k1147 : H1139 r0 15 = H1127 r0 15 := (wq_u_t e1140 g1134 g0 rfl 15)
    refine wp_of e48 c48_45 (xg_I (pc' := 48) lf_8_49 w1141 g0 sh_35 (by decide) (by decide) ty_35_15 rfl rfl (fun b1148 b1149 => ?_))
    refine wp_of e48 c48_48 (rw_iload (pc' := 50) (z := a4) rfl rfl ?_)
    have h1150 : PA3 T H1139 r0 (P.length : Int) (xr4 d k P) := (PA3_fr w1129 g0 ((wfr.rf (l := [(38, 999)])).put' e1140 g1134 rfl) rfl (PA3_fr w1117 g0 ((wfr.rf (l := [(37, 999)])).put' e1128 g1122 rfl) rfl (PA3_fr hW g0 ((wfr.rf (l := [(36, 999)])).put' e1116 g1112 rfl) rfl h1104)))
    refine wp_of e48 c48_50 (xs_I (pc' := 51) w1141 g1146 (by decide) sh_39 (by decide) (ty_39 _) (by omega) (by omega) ⟨by omega, by omega⟩ (by omega) (by omega) rfl (fun H1151 e1152 w1153 => ?_))
    have f1154 := f1142.put' e1152 g1146 rfl
    have h1155 : PA3 T H1151 r0 ((P.length : Int) + 1) (xr4 d k (P ++ [(y1, y2)])) := DAo_put h1150 q1145 g0 g1146 (by decide) e1152 (k := ((H1139 r0 15).toNat)) (by omega) rfl (by
      rw [show ((H1139 r0 15).toNat) = P.length by omega]
      show xwk d k ((P ++ [(y1, y2)]).getD P.length (0, 0)) = _
      rw [_g.1]
      omega) (fun j hj => by
      show xwk d k ((P ++ [(y1, y2)]).getD j (0, 0)) = xwk d k (P.getD j (0, 0))
      rw [_g.2 j (by omega)])
    refine wp_of e48 c48_51 (rw_aload_n (pc' := 52) (v := .ref r0) rfl rfl rfl ?_)
    refine wp_of e48 c48_52 (xg_R (pc' := 55) lf_8_24 w1153 g0 sh_35 (by decide) (by decide) ty_35_4 rfl rfl (fun r1156 q1157 g1158 => ?_))
    refine wp_of e48 c48_55 (rw_aload_n (pc' := 56) (v := .ref r0) rfl rfl rfl ?_)
    have k1159 : H1151 r0 15 = H1139 r0 15 := (wq_u_t e1152 g1146 g0 rfl 15)
    refine wp_of e48 c48_56 (xg_I (pc' := 59) lf_8_49 w1153 g0 sh_35 (by decide) (by decide) ty_35_15 rfl rfl (fun b1160 b1161 => ?_))
    refine wp_of e48 c48_59 (rw_iload (pc' := 61) (z := a4) rfl rfl ?_)
    refine wp_of e48 c48_61 (xc_S (pc' := 64) (as := [vI a4]) (st := [vI (H1151 r0 15), .ref r1156]) (lm_8_78) rfl rfl (Nat.le_of_ble_eq_true rfl) rfl (by decide) (u_49  w1153 ⟨by omega, by omega⟩) (fun R1162 T1163 H1164 p1165 => ?_))
    obtain ⟨e1166, e1168, z1169, e1167, b1170, p1171⟩ := p1165
    subst e1166
    subst e1167
    subst e1168
    show wp _ _ 48 64 [(0, .ref r0), (1, vI a1), (2, vI a2), (3, vI a3), (4, vI a4)] [vL z1169, vI (H1151 r0 15), .ref r1156] _ H1151 _
    have h1173 : PA4 T H1151 r0 (P.length : Int) (xr5 d k P) := (PA4_fr w1141 g0 ((wfr.rf (l := [(39, 999)])).put' e1152 g1146 rfl) rfl (PA4_fr w1129 g0 ((wfr.rf (l := [(38, 999)])).put' e1140 g1134 rfl) rfl (PA4_fr w1117 g0 ((wfr.rf (l := [(37, 999)])).put' e1128 g1122 rfl) rfl (PA4_fr hW g0 ((wfr.rf (l := [(36, 999)])).put' e1116 g1112 rfl) rfl h1105))))
    refine wp_of e48 c48_64 (xs_L (pc' := 65) w1153 g1158 (by decide) sh_40 (by decide) (ty_40 _) (by omega) (by omega) ⟨by omega, by omega⟩ (by omega) (by omega) rfl (fun H1174 e1175 w1176 => ?_))
    have f1177 := f1154.put' e1175 g1158 rfl
    have h1178 : PA4 T H1174 r0 ((P.length : Int) + 1) (xr5 d k (P ++ [(y1, y2)])) := DAo_put h1173 q1157 g0 g1158 (by decide) e1175 (k := ((H1151 r0 15).toNat)) (by omega) rfl (by
      rw [show ((H1151 r0 15).toNat) = P.length by omega]
      show xtal (xwk d k ((P ++ [(y1, y2)]).getD P.length (0, 0))) 12 = _
      rw [_g.1, ← p4]
      omega) (fun j hj => by
      show xtal (xwk d k ((P ++ [(y1, y2)]).getD j (0, 0))) 12 = xtal (xwk d k (P.getD j (0, 0))) 12
      rw [_g.2 j (by omega)])
    refine wp_of e48 c48_65 (rw_aload_n (pc' := 66) (v := .ref r0) rfl rfl rfl ?_)
    refine wp_of e48 c48_66 (xg_R (pc' := 69) lf_8_28 w1176 g0 sh_35 (by decide) (by decide) ty_35_5 rfl rfl (fun r1179 q1180 g1181 => ?_))
    refine wp_of e48 c48_69 (rw_aload_n (pc' := 70) (v := .ref r0) rfl rfl rfl ?_)
    have k1182 : H1174 r0 15 = H1151 r0 15 := (wq_u_t e1175 g1158 g0 rfl 15)
    refine wp_of e48 c48_70 (xg_I (pc' := 73) lf_8_49 w1176 g0 sh_35 (by decide) (by decide) ty_35_15 rfl rfl (fun b1183 b1184 => ?_))
    refine wp_of e48 c48_73 (rw_iload (pc' := 75) (z := a4) rfl rfl ?_)
    refine wp_of e48 c48_75 (rw_bipush (pc' := 77) (z := 12) rfl (by decide) ?_)
    refine wp_of e48 c48_77 (rw_ishr (pc' := 78) rfl ?_)
    obtain ⟨v1185, e1186⟩ : ∃ x : Int, x = wq_shr a4 12 := ⟨_, rfl⟩
    rw [← e1186]
    have b1187 : -2147483648 ≤ v1185 ∧ v1185 ≤ 2147483647 := by
      rw [e1186]
      exact wI_shr _ _
    refine wp_of e48 c48_78 (xc_S (pc' := 81) (as := [vI v1185]) (st := [vI (H1174 r0 15), .ref r1179]) (lm_8_78) rfl rfl (Nat.le_of_ble_eq_true rfl) rfl (by decide) (u_49  w1176 ⟨by omega, by omega⟩) (fun R1188 T1189 H1190 p1191 => ?_))
    obtain ⟨e1192, e1194, z1195, e1193, b1196, p1197⟩ := p1191
    subst e1192
    subst e1193
    subst e1194
    show wp _ _ 48 81 [(0, .ref r0), (1, vI a1), (2, vI a2), (3, vI a3), (4, vI a4)] [vL z1195, vI (H1174 r0 15), .ref r1179] _ H1174 _
    have _l : z1195 = xtal (wq_shr a4 12) 12 := by
      rw [← e1186]
      omega
    have h1199 : PA5 T H1174 r0 (P.length : Int) (xr6 d k P) := (PA5_fr w1153 g0 ((wfr.rf (l := [(40, 999)])).put' e1175 g1158 rfl) rfl (PA5_fr w1141 g0 ((wfr.rf (l := [(39, 999)])).put' e1152 g1146 rfl) rfl (PA5_fr w1129 g0 ((wfr.rf (l := [(38, 999)])).put' e1140 g1134 rfl) rfl (PA5_fr w1117 g0 ((wfr.rf (l := [(37, 999)])).put' e1128 g1122 rfl) rfl (PA5_fr hW g0 ((wfr.rf (l := [(36, 999)])).put' e1116 g1112 rfl) rfl h1106)))))
    refine wp_of e48 c48_81 (xs_L (pc' := 82) w1176 g1181 (by decide) sh_41 (by decide) (ty_41 _) (by omega) (by omega) ⟨by omega, by omega⟩ (by omega) (by omega) rfl (fun H1200 e1201 w1202 => ?_))
    have f1203 := f1177.put' e1201 g1181 rfl
    have h1204 : PA5 T H1200 r0 ((P.length : Int) + 1) (xr6 d k (P ++ [(y1, y2)])) := DAo_put h1199 q1180 g0 g1181 (by decide) e1201 (k := ((H1174 r0 15).toNat)) (by omega) rfl (by
      rw [show ((H1174 r0 15).toNat) = P.length by omega]
      show xtal (wq_shr (xwk d k ((P ++ [(y1, y2)]).getD P.length (0, 0))) 12) 12 = _
      rw [_g.1, ← p4]
      omega) (fun j hj => by
      show xtal (wq_shr (xwk d k ((P ++ [(y1, y2)]).getD j (0, 0))) 12) 12 = xtal (wq_shr (xwk d k (P.getD j (0, 0))) 12) 12
      rw [_g.2 j (by omega)])
    refine wp_of e48 c48_82 (rw_aload_n (pc' := 83) (v := .ref r0) rfl rfl rfl ?_)
    refine wp_of e48 c48_83 (rw_dup (pc' := 84) rfl rfl ?_)
    have k1205 : H1200 r0 15 = H1174 r0 15 := (wq_u_t e1201 g1181 g0 rfl 15)
    refine wp_of e48 c48_84 (xg_I (pc' := 87) lf_8_49 w1202 g0 sh_35 (by decide) (by decide) ty_35_15 rfl rfl (fun b1206 b1207 => ?_))
    refine wp_of e48 c48_87 (rw_iconst (pc' := 88) rfl ?_)
    refine wp_of e48 c48_88 (rw_iadd (pc' := 89) rfl ?_)
    refine wp_of e48 c48_89 (xp_I (pc' := 92) lf_8_49 w1202 g0 sh_35 (by decide) (by decide) ty_35_15 rfl rfl (by omega) (by omega) ⟨by omega, by omega⟩ rfl (fun H1208 e1209 w1210 => ?_))
    have f1211 := f1203.put' e1209 g0 rfl
    have k1212 : H1208 r0 15 = (H1200 r0 15) + 1 := wq_u_s e1209
    have h1213 : PA0 T H1208 r0 ((P.length : Int) + 1) (xr1 (P ++ [(y1, y2)])) := (PA0_fr w1202 g0 ((wfr.rf (l := [(35, 15)])).put' e1209 g0 rfl) rfl (PA0_fr w1176 g0 ((wfr.rf (l := [(41, 999)])).put' e1201 g1181 rfl) rfl (PA0_fr w1153 g0 ((wfr.rf (l := [(40, 999)])).put' e1175 g1158 rfl) rfl (PA0_fr w1141 g0 ((wfr.rf (l := [(39, 999)])).put' e1152 g1146 rfl) rfl (PA0_fr w1129 g0 ((wfr.rf (l := [(38, 999)])).put' e1140 g1134 rfl) rfl (PA0_fr w1117 g0 ((wfr.rf (l := [(37, 999)])).put' e1128 g1122 rfl) rfl h1119))))))
    have h1214 : PA1 T H1208 r0 ((P.length : Int) + 1) (xr2 (P ++ [(y1, y2)])) := (PA1_fr w1202 g0 ((wfr.rf (l := [(35, 15)])).put' e1209 g0 rfl) rfl (PA1_fr w1176 g0 ((wfr.rf (l := [(41, 999)])).put' e1201 g1181 rfl) rfl (PA1_fr w1153 g0 ((wfr.rf (l := [(40, 999)])).put' e1175 g1158 rfl) rfl (PA1_fr w1141 g0 ((wfr.rf (l := [(39, 999)])).put' e1152 g1146 rfl) rfl (PA1_fr w1129 g0 ((wfr.rf (l := [(38, 999)])).put' e1140 g1134 rfl) rfl h1131)))))
    have h1215 : PA2 T H1208 r0 ((P.length : Int) + 1) (xr3 d k (P ++ [(y1, y2)])) := (PA2_fr w1202 g0 ((wfr.rf (l := [(35, 15)])).put' e1209 g0 rfl) rfl (PA2_fr w1176 g0 ((wfr.rf (l := [(41, 999)])).put' e1201 g1181 rfl) rfl (PA2_fr w1153 g0 ((wfr.rf (l := [(40, 999)])).put' e1175 g1158 rfl) rfl (PA2_fr w1141 g0 ((wfr.rf (l := [(39, 999)])).put' e1152 g1146 rfl) rfl h1143))))
    have h1216 : PA3 T H1208 r0 ((P.length : Int) + 1) (xr4 d k (P ++ [(y1, y2)])) := (PA3_fr w1202 g0 ((wfr.rf (l := [(35, 15)])).put' e1209 g0 rfl) rfl (PA3_fr w1176 g0 ((wfr.rf (l := [(41, 999)])).put' e1201 g1181 rfl) rfl (PA3_fr w1153 g0 ((wfr.rf (l := [(40, 999)])).put' e1175 g1158 rfl) rfl h1155)))
    have h1217 : PA4 T H1208 r0 ((P.length : Int) + 1) (xr5 d k (P ++ [(y1, y2)])) := (PA4_fr w1202 g0 ((wfr.rf (l := [(35, 15)])).put' e1209 g0 rfl) rfl (PA4_fr w1176 g0 ((wfr.rf (l := [(41, 999)])).put' e1201 g1181 rfl) rfl h1178))
    have h1218 : PA5 T H1208 r0 ((P.length : Int) + 1) (xr6 d k (P ++ [(y1, y2)])) := (PA5_fr w1202 g0 ((wfr.rf (l := [(35, 15)])).put' e1209 g0 rfl) rfl h1204)
    exact wp_return e48 c48_92 rfl ⟨rfl, w1210, f1211, rfl, (PS_mk (by omega) h1213 h1214 h1215 h1216 h1217 h1218)⟩
  · exact wp_return e48 c48_9 rfl ⟨rfl, hW, f0, rfl, (PS_mk (by omega) h1101 h1102 h1103 h1104 h1105 h1106)⟩
/-! StrikeAwake$Person.makeSpans(II)V  -/
abbrev uq_47 (r0 : Nat) (a1 : Int) (a2 : Int) (d : xD) (k : Nat) (T : wq_T) (H : wq_H) : Option Value → wq_T → wq_H → Prop := fun r T' H' => T = T' ∧ WT T H' ∧ wfr [(35, 15), (38, 999), (39, 999), (36, 999), (40, 999), (41, 999), (37, 999)] T H H' ∧ none = r ∧ ((PS T H' r0 d k (xsp d k)))
set_option maxHeartbeats 4000000 in
theorem u_47 {kt : Nat → Option mc_E} {T : wq_T} {H : wq_H} {r0 : Nat} {a1 : Int} {a2 : Int} {d : xD} {k : Nat} (hW : WT T H) (g0 : T.2.2.2 r0 = some 35) (i1 : 0 ≤ a1 ∧ a1 ≤ 16777215) (i2 : 0 ≤ a2 ∧ a2 ≤ 16777215) (p0 : a1 = xal d) (p1 : a2 = xmu d k) (p2 : H r0 15 = 0) (hPX_r0 : PX T H r0 d k) : wpc kt 3 47 [.ref r0, vI a1, vI a2] T H (uq_47 r0 a1 a2 d k T H) := by
  refine wp_enter e47 (Nat.le_of_ble_eq_true rfl) rfl ?_
  have f0 : wfr [(35, 15), (38, 999), (39, 999), (36, 999), (40, 999), (41, 999), (37, 999)] T H H := wfr.rf
  show wp _ _ 47 0 [(0, .ref r0), (1, vI a1), (2, vI a2)] [] _ H _
  have u1403 := PX_k hPX_r0
  have h1404 : PS T H r0 d k [] := PS_0 hW g0 p2
  have _p := hPX_r0
  have _k := PX_k hPX_r0
  refine wp_of e47 c47_0 (rw_aload_n (pc' := 1) (v := .ref r0) rfl rfl rfl ?_)
  refine wp_of e47 c47_1 (xg_I (pc' := 4) lf_8_42 hW g0 sh_35 (by decide) (by decide) ty_35_13 rfl rfl (fun b1405 b1406 => ?_))
  refine wp_of e47 c47_4 (rw_if_eq (p1 := 16) (p2 := 7) (by decide) rfl ⟨by omega, by omega⟩ (fun c1407 => ?_) (fun c1407 => ?_))
  · have _b := fun x => @xas_not d k (by omega) x
    refine wp_of e47 c47_16 (rw_aload_n (pc' := 17) (v := .ref r0) rfl rfl rfl ?_)
    refine wp_of e47 c47_17 (xg_I (pc' := 20) lf_8_62 hW g0 sh_35 (by decide) (by decide) ty_35_7 rfl rfl (fun b1408 b1409 => ?_))
    refine wp_of e47 c47_20 (rw_istore_n (pc' := 21) (z := H r0 7) (L' := [(3, vI (H r0 7)), (0, .ref r0), (1, vI a1), (2, vI a2)]) rfl rfl rfl ?_)
    have lp1666 : ∀ (n1667 : Nat) (v1669 : Int) (H1670 : wq_H) (P1671 : List (Int × Int)), WT T H1670 → wfr [(35, 15), (38, 999), (39, 999), (36, 999), (40, 999), (41, 999), (37, 999)] T H H1670 → (0 ≤ v1669 ∧ v1669 ≤ 24) → PS T H1670 r0 d k P1671 → (xfo d k P1671 v1669) → (d 2 k ≤ v1669) → (24 - v1669).toNat = n1667 → wp kt 2 47 21 [(3, vI v1669), (0, .ref r0), (1, vI a1), (2, vI a2)] [] T H1670 (uq_47 r0 a1 a2 d k T H) := by
      intro n1667
      induction n1667 using Nat.strongRecOn with
      | _ n1667 ih1668 =>
        intro v1669 H1670 P1671 w1672 f1673 b1674 h1676 x1677 x1678 m1675
        have f1679 := f0.tr f1673 rfl
        refine wp_of e47 c47_21 (rw_iload_n (pc' := 22) (z := v1669) rfl rfl ?_)
        refine wp_of e47 c47_22 (rw_aload_n (pc' := 23) (v := .ref r0) rfl rfl rfl ?_)
        have k1680 : H1670 r0 8 = H r0 8 := (f1673 r0 8 _ g0 rfl)
        refine wp_of e47 c47_23 (xg_I (pc' := 26) lf_8_65 w1672 g0 sh_35 (by decide) (by decide) ty_35_8 rfl rfl (fun b1681 b1682 => ?_))
        refine wp_of e47 c47_26 (rw_icmp_gt (p1 := 95) (p2 := 29) (by decide) rfl ⟨by omega, by omega⟩ ⟨by omega, by omega⟩ (fun c1683 => ?_) (fun c1683 => ?_))
        · exact wp_return e47 c47_95 rfl ⟨rfl, w1672, f1679, rfl, (PS_eq h1676 (by first | exact xsp_away (by omega) | exact xfo_e ‹_› (by omega)))⟩
        · refine wp_of e47 c47_29 (rw_aload_n (pc' := 30) (v := .ref r0) rfl rfl rfl ?_)
          have k1684 : H1670 r0 9 = H r0 9 := (f1673 r0 9 _ g0 rfl)
          refine wp_of e47 c47_30 (xg_I (pc' := 33) lf_8_68 w1672 g0 sh_35 (by decide) (by decide) ty_35_9 rfl rfl (fun b1685 b1686 => ?_))
          refine wp_of e47 c47_33 (rw_istore (pc' := 35) (z := H1670 r0 9) (L' := [(4, vI (H1670 r0 9)), (3, vI v1669), (0, .ref r0), (1, vI a1), (2, vI a2)]) rfl rfl rfl ?_)
          have lp1769 : ∀ (n1770 : Nat) (v1772 : Int) (H1773 : wq_H) (P1774 : List (Int × Int)), WT T H1773 → wfr [(35, 15), (38, 999), (39, 999), (36, 999), (40, 999), (41, 999), (37, 999)] T H1670 H1773 → (0 ≤ v1772 ∧ v1772 ≤ 17) → PS T H1773 r0 d k P1774 → (xfn d k P1774 v1669 v1772) → (17 - v1772).toNat = n1770 → wp kt 2 47 35 [(4, vI v1772), (3, vI v1669), (0, .ref r0), (1, vI a1), (2, vI a2)] [] T H1773 (uq_47 r0 a1 a2 d k T H) := by
            intro n1770
            induction n1770 using Nat.strongRecOn with
            | _ n1770 ih1771 =>
              intro v1772 H1773 P1774 w1775 f1776 b1777 h1779 x1780 m1778
              have f1781 := f1679.tr f1776 rfl
              have f1782 := f1673.tr f1776 rfl
              refine wp_of e47 c47_35 (rw_iload (pc' := 37) (z := v1772) rfl rfl ?_)
              refine wp_of e47 c47_37 (rw_aload_n (pc' := 38) (v := .ref r0) rfl rfl rfl ?_)
              have k1783 : H1773 r0 10 = H r0 10 := ((f1776 r0 10 _ g0 rfl).trans (f1673 r0 10 _ g0 rfl))
              refine wp_of e47 c47_38 (xg_I (pc' := 41) lf_8_71 w1775 g0 sh_35 (by decide) (by decide) ty_35_10 rfl rfl (fun b1784 b1785 => ?_))
              refine wp_of e47 c47_41 (rw_icmp_gt (p1 := 89) (p2 := 44) (by decide) rfl ⟨by omega, by omega⟩ ⟨by omega, by omega⟩ (fun c1786 => ?_) (fun c1786 => ?_))
              · refine wp_of e47 c47_89 (rw_iinc (pc' := 92) (z := v1669) (L' := [(3, vI (v1669 + 1)), (4, vI v1772), (0, .ref r0), (1, vI a1), (2, vI a2)]) rfl rfl rfl rfl ?_)
                refine wp_of e47 c47_92 (rw_goto (p1 := 21) (by decide) ?_)
                exact wp_lc (ks := [3, 4, 0, 1, 2]) (wl_c rfl (wl_c rfl (wl_c rfl (wl_c rfl wl_n)))) rfl (by decide) (ih1668 _ (by omega) (v1669 + 1) H1773 P1774 w1775 f1782 ⟨by omega, by omega⟩ h1779 (xfn_o ‹_› (by omega)) (by omega) rfl)
              · refine wp_of e47 c47_44 (rw_iload_n (pc' := 45) (z := v1669) rfl rfl ?_)
                refine wp_of e47 c47_45 (rw_iload_n (pc' := 46) (z := v1669) rfl rfl ?_)
                refine wp_of e47 c47_46 (rw_iload (pc' := 48) (z := v1772) rfl rfl ?_)
                refine wp_of e47 c47_48 (rw_iadd (pc' := 49) rfl ?_)
                refine wp_of e47 c47_49 (xc_S (pc' := 52) (as := [vI v1669, vI (v1669 + v1772)]) (st := []) (lm_8_74) rfl rfl (Nat.le_of_ble_eq_true rfl) rfl (by decide) (u_31 (lo := v1669) (hi := ((v1669 + v1772))) w1775 ⟨by omega, by omega⟩ ⟨by omega, by omega⟩ (by omega) (by omega) (by omega)) (fun R1787 T1788 H1789 p1790 => ?_))
                obtain ⟨e1791, e1793, z1794, e1792, b1795, p1796⟩ := p1790
                subst e1791
                subst e1792
                subst e1793
                show wp _ _ 47 52 [(4, vI v1772), (3, vI v1669), (0, .ref r0), (1, vI a1), (2, vI a2)] [vI z1794] _ H1773 _
                refine wp_of e47 c47_52 (rw_aload_n (pc' := 53) (v := .ref r0) rfl rfl rfl ?_)
                have k1798 : H1773 r0 12 = H r0 12 := ((f1776 r0 12 _ g0 rfl).trans (f1673 r0 12 _ g0 rfl))
                refine wp_of e47 c47_53 (xg_I (pc' := 56) lf_8_39 w1775 g0 sh_35 (by decide) (by decide) ty_35_12 rfl rfl (fun b1799 b1800 => ?_))
                refine wp_of e47 c47_56 (rw_ior (pc' := 57) rfl ?_)
                obtain ⟨v1801, e1802⟩ : ∃ x : Int, x = wq_or z1794 (H1773 r0 12) := ⟨_, rfl⟩
                rw [← e1802]
                have b1803 : -2147483648 ≤ v1801 ∧ v1801 ≤ 2147483647 := by
                  rw [e1802]
                  exact wI_or _ _
                refine wp_of e47 c47_57 (rw_iload_n (pc' := 58) (z := a1) rfl rfl ?_)
                refine wp_of e47 c47_58 (rw_iand (pc' := 59) rfl ?_)
                obtain ⟨v1804, e1805⟩ : ∃ x : Int, x = wq_and v1801 a1 := ⟨_, rfl⟩
                rw [← e1805]
                have b1806 : 0 ≤ v1804 ∧ v1804 ≤ a1 := by
                  rw [e1805]
                  exact wq_and_b _ (by omega) (by omega)
                refine wp_of e47 c47_59 (rw_istore (pc' := 61) (z := v1804) (L' := [(5, vI v1804), (4, vI v1772), (3, vI v1669), (0, .ref r0), (1, vI a1), (2, vI a2)]) rfl rfl rfl ?_)
                have _s : v1804 = xsl d k v1669 v1772 := xsl_e e1802 e1805 (by omega) (by omega) (by omega)
                refine wp_of e47 c47_61 (rw_iload (pc' := 63) (z := v1804) rfl rfl ?_)
                refine wp_of e47 c47_63 (rw_iload_n (pc' := 64) (z := a2) rfl rfl ?_)
                refine wp_of e47 c47_64 (rw_iand (pc' := 65) rfl ?_)
                obtain ⟨v1807, e1808⟩ : ∃ x : Int, x = wq_and v1804 a2 := ⟨_, rfl⟩
                rw [← e1808]
                have b1809 : 0 ≤ v1807 ∧ v1807 ≤ a2 := by
                  rw [e1808]
                  exact wq_and_b _ (by omega) (by omega)
                refine wp_of e47 c47_65 (rw_if_ne (p1 := 83) (p2 := 68) (by decide) rfl ⟨by omega, by omega⟩ (fun c1810 => ?_) (fun c1810 => ?_))
                · refine wp_of e47 c47_83 (rw_iinc (pc' := 86) (z := v1772) (L' := [(4, vI (v1772 + 1)), (5, vI v1804), (3, vI v1669), (0, .ref r0), (1, vI a1), (2, vI a2)]) rfl rfl rfl rfl ?_)
                  refine wp_of e47 c47_86 (rw_goto (p1 := 35) (by decide) ?_)
                  exact wp_lc (ks := [4, 5, 3, 0, 1, 2]) (wl_c rfl (wl_c rfl (wl_c rfl (wl_c rfl (wl_c rfl wl_n))))) rfl (by decide) (ih1771 _ (by omega) (v1772 + 1) H1773 P1774 w1775 f1776 ⟨by omega, by omega⟩ h1779 (by first | assumption | exact xfn_n ‹_› (by omega) (by rw [← _s, ← p1]; omega)) rfl)
                · have _o : wq_and (xsl d k v1669 v1772) (xmu d k) = 0 := by
                    rw [← _s, ← p1]
                    omega
                  have _r := xfn_room _p.2 ‹xfn d k P1774 v1669 v1772› (by omega) _o
                  have _y := xfn_y ‹xfn d k P1774 v1669 v1772› (by omega) _o
                  have _c : xas d k (v1669, v1772) = xsl d k v1669 v1772 ∧ xwk d k (v1669, v1772) = wq_and (xal d) (wq_xor (xsl d k v1669 v1772) (-1)) := _b (v1669, v1772)
                  refine wp_of e47 c47_68 (rw_aload_n (pc' := 69) (v := .ref r0) rfl rfl rfl ?_)
                  refine wp_of e47 c47_69 (rw_iload_n (pc' := 70) (z := v1669) rfl rfl ?_)
                  refine wp_of e47 c47_70 (rw_iload (pc' := 72) (z := v1772) rfl rfl ?_)
                  refine wp_of e47 c47_72 (rw_iload (pc' := 74) (z := v1804) rfl rfl ?_)
                  refine wp_of e47 c47_74 (rw_iload_n (pc' := 75) (z := a1) rfl rfl ?_)
                  refine wp_of e47 c47_75 (rw_iload (pc' := 77) (z := v1804) rfl rfl ?_)
                  refine wp_of e47 c47_77 (rw_iconst (pc' := 78) rfl ?_)
                  refine wp_of e47 c47_78 (rw_ixor (pc' := 79) rfl ?_)
                  obtain ⟨v1811, e1812⟩ : ∃ x : Int, x = wq_xor v1804 (-1) := ⟨_, rfl⟩
                  rw [← e1812]
                  have b1813 : -2147483648 ≤ v1811 ∧ v1811 ≤ 2147483647 := by
                    rw [e1812]
                    exact wI_xor _ _
                  refine wp_of e47 c47_79 (rw_iand (pc' := 80) rfl ?_)
                  obtain ⟨v1814, e1815⟩ : ∃ x : Int, x = wq_and a1 v1811 := ⟨_, rfl⟩
                  rw [← e1815]
                  have b1816 : 0 ≤ v1814 ∧ v1814 ≤ a1 := by
                    rw [e1815]
                    rw [wq_and_c]; exact wq_and_b _ (by omega) (by omega)
                  have _w : v1814 = xwk d k (v1669, v1772) := by
                    rw [_c.2, ← _s, ← p0, e1815, e1812]
                  refine wp_of e47 c47_80 (xc_V (pc' := 83) (r := r0) (as := [vI v1669, vI v1772, vI v1804, vI v1814]) (st := []) (lm_8_58) rfl rfl (Nat.le_of_ble_eq_true rfl) w1775 g0 sh_35 (by decide) rfl (by decide) (u_48 (d := d) (k := k) (P := P1774) (y1 := v1669) (y2 := v1772) w1775 g0 ⟨by omega, by omega⟩ ⟨by omega, by omega⟩ ⟨by omega, by omega⟩ ⟨by omega, by omega⟩ (by omega) (by omega) (by omega) (by omega) (by omega) h1779) (fun R1817 T1818 H1819 p1820 => ?_))
                  obtain ⟨e1821, w1823, f1824, e1822, p1825⟩ := p1820
                  subst e1821
                  subst e1822
                  have f1827 := f1781.tr f1824 rfl
                  have f1828 := f1782.tr f1824 rfl
                  have f1829 := f1776.tr f1824 rfl
                  show wp _ _ 47 83 [(5, vI v1804), (4, vI v1772), (3, vI v1669), (0, .ref r0), (1, vI a1), (2, vI a2)] [] _ H1819 _
                  refine wp_of e47 c47_83 (rw_iinc (pc' := 86) (z := v1772) (L' := [(4, vI (v1772 + 1)), (5, vI v1804), (3, vI v1669), (0, .ref r0), (1, vI a1), (2, vI a2)]) rfl rfl rfl rfl ?_)
                  refine wp_of e47 c47_86 (rw_goto (p1 := 35) (by decide) ?_)
                  exact wp_lc (ks := [4, 5, 3, 0, 1, 2]) (wl_c rfl (wl_c rfl (wl_c rfl (wl_c rfl (wl_c rfl wl_n))))) rfl (by decide) (ih1771 _ (by omega) (v1772 + 1) H1819 ((P1774 ++ [(v1669, v1772)])) w1823 f1829 ⟨by omega, by omega⟩ p1825 (by first | assumption | exact xfn_n ‹_› (by omega) (by rw [← _s, ← p1]; omega)) rfl)
          exact wp_lc (ks := [4, 3, 0, 1, 2]) (wl_c rfl (wl_c rfl (wl_c rfl (wl_c rfl (wl_c rfl wl_n))))) rfl (by decide) (lp1769 _ (H1670 r0 9) H1670 P1671 w1672 wfr.rf ⟨by omega, by omega⟩ h1676 (xfo_i ‹_› (by omega) (by omega)) rfl)
    exact wp_lc (ks := [3, 0, 1, 2]) (wl_c rfl (wl_c rfl (wl_c rfl (wl_c rfl wl_n)))) rfl (by decide) (lp1666 _ (H r0 7) H ([]) hW wfr.rf ⟨by omega, by omega⟩ h1404 (xfo_0 (by omega) (by omega)) (by omega) rfl)
  · have _a := xas_away (d := d) (k := k) (by omega)
    refine wp_of e47 c47_7 (rw_aload_n (pc' := 8) (v := .ref r0) rfl rfl rfl ?_)
    refine wp_of e47 c47_8 (rw_iconst (pc' := 9) rfl ?_)
    refine wp_of e47 c47_9 (rw_iconst (pc' := 10) rfl ?_)
    refine wp_of e47 c47_10 (rw_iconst (pc' := 11) rfl ?_)
    refine wp_of e47 c47_11 (rw_iconst (pc' := 12) rfl ?_)
    refine wp_of e47 c47_12 (xc_V (pc' := 15) (r := r0) (as := [vI 0, vI 0, vI 0, vI 0]) (st := []) (lm_8_58) rfl rfl (Nat.le_of_ble_eq_true rfl) hW g0 sh_35 (by decide) rfl (by decide) (u_48 (d := d) (k := k) (P := ([])) (y1 := 0) (y2 := 0) hW g0 ⟨by omega, by omega⟩ ⟨by omega, by omega⟩ ⟨by omega, by omega⟩ ⟨by omega, by omega⟩ (by omega) (by omega) (by omega) (by omega) (by omega) h1404) (fun R1830 T1831 H1832 p1833 => ?_))
    obtain ⟨e1834, w1836, f1837, e1835, p1838⟩ := p1833
    subst e1834
    subst e1835
    have f1840 := f0.tr f1837 rfl
    show wp _ _ 47 15 [(0, .ref r0), (1, vI a1), (2, vI a2)] [] _ H1832 _
    exact wp_return e47 c47_15 rfl ⟨rfl, w1836, f1840, rfl, (PS_eq p1838 (by first | exact xsp_away (by omega) | exact xfo_e ‹_› (by omega)))⟩
/-! StrikeAwake$Parish.allHours()I  -/
abbrev uq_45 (r0 : Nat) (T : wq_T) (H : wq_H) : Option Value → wq_T → wq_H → Prop := fun r T' H' => T = T' ∧ H = H' ∧ ∃ z : Int, some (vI z) = r ∧ (0 ≤ z ∧ z ≤ 16777215) ∧ (((z = xhs 0 (H r0 7))))
set_option maxHeartbeats 4000000 in
theorem u_45 {kt : Nat → Option mc_E} {T : wq_T} {H : wq_H} {r0 : Nat} (hW : WT T H) (g0 : T.2.2.2 r0 = some 27) : wpc kt 2 45 [.ref r0] T H (uq_45 r0 T H) := by
  refine wp_enter e45 (Nat.le_of_ble_eq_true rfl) rfl ?_
  show wp _ _ 45 0 [(0, .ref r0)] [] _ H _
  refine wp_of e45 c45_0 (rw_iconst (pc' := 1) rfl ?_)
  refine wp_of e45 c45_1 (rw_aload_n (pc' := 2) (v := .ref r0) rfl rfl rfl ?_)
  refine wp_of e45 c45_2 (xg_I (pc' := 5) lf_7_41 hW g0 sh_27 (by decide) (by decide) ty_27_7 rfl rfl (fun b1014 b1015 => ?_))
  refine wp_of e45 c45_5 (xc_S (pc' := 8) (as := [vI 0, vI (H r0 7)]) (st := []) (lm_7_92) rfl rfl (Nat.le_of_ble_eq_true rfl) rfl (by decide) (u_31 (lo := 0) (hi := ((H r0 7))) hW ⟨by omega, by omega⟩ ⟨by omega, by omega⟩ (by omega) (by omega) (by omega)) (fun R1016 T1017 H1018 p1019 => ?_))
  obtain ⟨e1020, e1022, z1023, e1021, b1024, p1025⟩ := p1019
  subst e1020
  subst e1021
  subst e1022
  show wp _ _ 45 8 [(0, .ref r0)] [vI z1023] _ H _
  exact wp_ireturn e45 c45_8 rfl ⟨rfl, rfl, z1023, rfl, ⟨by omega, by omega⟩, (by omega)⟩
/-! StrikeAwake$Parish.hoursStruckUpTo(I)I  -/
abbrev uq_46 (r0 : Nat) (a1 : Int) (f : Nat → Int) (y : Int) (T : wq_T) (H : wq_H) : Option Value → wq_T → wq_H → Prop := fun r T' H' => T = T' ∧ H = H' ∧ ∃ z : Int, some (vI z) = r ∧ (0 ≤ z ∧ z ≤ 16777215) ∧ (((z = xob (fun h => decide (f h > 0 ∧ f h ≤ y + 1)) 24)))
set_option maxHeartbeats 4000000 in
theorem u_46 {kt : Nat → Option mc_E} {T : wq_T} {H : wq_H} {r0 : Nat} {a1 : Int} {f : Nat → Int} {y : Int} (hW : WT T H) (g0 : T.2.2.2 r0 = some 27) (i1 : (-2147483648) ≤ a1 ∧ a1 ≤ 2147483647) (p0 : a1 = y) (p1 : H r0 16 = xcn f 24) (hST_r0 : ST T H r0 f) (hSV_r0 : SV T H r0 f 24) : wpc kt 1 46 [.ref r0, vI a1] T H (uq_46 r0 a1 f y T H) := by
  refine wp_enter e46 (Nat.le_of_ble_eq_true rfl) rfl ?_
  show wp _ _ 46 0 [(0, .ref r0), (1, vI a1)] [] _ H _
  refine wp_of e46 c46_0 (rw_iconst (pc' := 1) rfl ?_)
  refine wp_of e46 c46_1 (rw_istore_n (pc' := 2) (z := 0) (L' := [(2, vI 0), (0, .ref r0), (1, vI a1)]) rfl rfl rfl ?_)
  refine wp_of e46 c46_2 (rw_iconst (pc' := 3) rfl ?_)
  refine wp_of e46 c46_3 (rw_istore_n (pc' := 4) (z := 0) (L' := [(3, vI 0), (2, vI 0), (0, .ref r0), (1, vI a1)]) rfl rfl rfl ?_)
  have lp1358 : ∀ (n1359 : Nat) (v1361 : Int) (v1362 : Int) (u1363 : Nat), (0 ≤ v1361 ∧ v1361 ≤ 24) → (0 ≤ v1362 ∧ v1362 ≤ 16777215) → (u1363 ≤ 24) → (xcn f u1363 = v1361) → (v1362 = xob (fun h => decide (f h > 0 ∧ f h ≤ y + 1)) u1363) → (24 - v1361).toNat = n1359 → wp kt 0 46 4 [(3, vI v1361), (2, vI v1362), (0, .ref r0), (1, vI a1)] [] T H (uq_46 r0 a1 f y T H) := by
    intro n1359
    induction n1359 using Nat.strongRecOn with
    | _ n1359 ih1360 =>
      intro v1361 v1362 u1363 b1366 b1367 x1369 x1370 x1371 m1368
      refine wp_of e46 c46_4 (rw_iload_n (pc' := 5) (z := v1361) rfl rfl ?_)
      refine wp_of e46 c46_5 (rw_aload_n (pc' := 6) (v := .ref r0) rfl rfl rfl ?_)
      refine wp_of e46 c46_6 (xg_I (pc' := 9) lf_7_65 hW g0 sh_27 (by decide) (by decide) ty_27_16 rfl rfl (fun b1372 b1373 => ?_))
      refine wp_of e46 c46_9 (rw_icmp_ge (p1 := 44) (p2 := 12) (by decide) rfl ⟨by omega, by omega⟩ ⟨by omega, by omega⟩ (fun c1374 => ?_) (fun c1374 => ?_))
      · have _z : v1362 = xob (fun h => decide (f h > 0 ∧ f h ≤ y + 1)) 24 := by
          rw [‹v1362 = xob (fun h => decide (f h > 0 ∧ f h ≤ y + 1)) u1363›]
          exact (xob_gap (by omega) (fun j p q => decide_eq_false (by have := xcn_mono (f := f) (m := u1363) j p; have := xcn_lt (f := f) (m := j) (n := 24) q; omega))).symm
        refine wp_of e46 c46_44 (rw_iload_n (pc' := 45) (z := v1362) rfl rfl ?_)
        exact wp_ireturn e46 c46_45 rfl ⟨rfl, rfl, v1362, rfl, ⟨by omega, by omega⟩, (_z)⟩
      · obtain ⟨h9, _a, _b, _c, _e, _f⟩ := xcn_nx (f := f) (u := u1363) 24 (by omega) (by omega)
        have _g : xob (fun h => decide (f h > 0 ∧ f h ≤ y + 1)) h9 = xob (fun h => decide (f h > 0 ∧ f h ≤ y + 1)) u1363 := xob_gap _a (fun j p q => decide_eq_false (by have := _f j p q; omega))
        have _n : xcn f (h9 + 1) = xcn f h9 + 1 := by
          show xcn f h9 + (if f h9 > 0 then 1 else 0) = _
          rw [if_pos _c]
        refine wp_of e46 c46_12 (rw_aload_n (pc' := 13) (v := .ref r0) rfl rfl rfl ?_)
        refine wp_of e46 c46_13 (xg_R (pc' := 16) lf_7_17 hW g0 sh_27 (by decide) (by decide) ty_27_1 rfl rfl (fun r1375 q1376 g1377 => ?_))
        refine wp_of e46 c46_16 (rw_aload_n (pc' := 17) (v := .ref r0) rfl rfl rfl ?_)
        refine wp_of e46 c46_17 (xg_R (pc' := 20) lf_7_21 hW g0 sh_27 (by decide) (by decide) ty_27_2 rfl rfl (fun r1378 q1379 g1380 => ?_))
        have _v := SV_at hSV_r0 q1379 (h := h9) (by omega) _c
        rw [show xcn f h9 = v1361 by omega] at _v
        refine wp_of e46 c46_20 (rw_iload_n (pc' := 21) (z := v1361) rfl rfl ?_)
        refine wp_of e46 c46_21 (xa_I (so := 0) (pc' := 22) hW g1380 sh_30 (by decide) (ty_30 _) (by omega) (by omega) rfl (fun b1381 b1382 => ?_))
        refine wp_of e46 c46_22 (xa_I (so := 0) (pc' := 23) hW g1377 sh_29 (by decide) (ty_29 _) (by omega) (by omega) rfl (fun b1383 b1384 => ?_))
        have := ST_at2 hST_r0 q1376 (k := ((H r1378 (v1361.toNat)).toNat)) (h := h9) (by omega) (by omega)
        refine wp_of e46 c46_23 (rw_iload_n (pc' := 24) (z := a1) rfl rfl ?_)
        refine wp_of e46 c46_24 (rw_icmp_gt (p1 := 38) (p2 := 27) (by decide) rfl ⟨by omega, by omega⟩ ⟨by omega, by omega⟩ (fun c1385 => ?_) (fun c1385 => ?_))
        · have _q : v1362 = xob (fun h => decide (f h > 0 ∧ f h ≤ y + 1)) (h9 + 1) := xob_pn (by assumption) _g (decide_eq_false (by omega))
          refine wp_of e46 c46_38 (rw_iinc (pc' := 41) (z := v1361) (L' := [(3, vI (v1361 + 1)), (2, vI v1362), (0, .ref r0), (1, vI a1)]) rfl rfl rfl rfl ?_)
          refine wp_of e46 c46_41 (rw_goto (p1 := 4) (by decide) ?_)
          exact wp_lc (ks := [3, 2, 0, 1]) (wl_c rfl (wl_c rfl (wl_c rfl (wl_c rfl wl_n)))) rfl (by decide) (ih1360 _ (by omega) (v1361 + 1) v1362 ((h9 + 1)) ⟨by omega, by omega⟩ ⟨by omega, by omega⟩ (by omega) (by omega) (_q) rfl)
        · refine wp_of e46 c46_27 (rw_iload_n (pc' := 28) (z := v1362) rfl rfl ?_)
          refine wp_of e46 c46_28 (rw_iconst (pc' := 29) rfl ?_)
          refine wp_of e46 c46_29 (rw_aload_n (pc' := 30) (v := .ref r0) rfl rfl rfl ?_)
          refine wp_of e46 c46_30 (xg_K (pc' := 33) lf_7_21 hW g0 sh_27 (by decide) (by decide) rfl q1379 rfl ?_)
          refine wp_of e46 c46_33 (rw_iload_n (pc' := 34) (z := v1361) rfl rfl ?_)
          refine wp_of e46 c46_34 (xa_I (so := 0) (pc' := 35) hW g1380 sh_30 (by decide) (ty_30 _) (by omega) (by omega) rfl (fun b1386 b1387 => ?_))
          refine wp_of e46 c46_35 (rw_ishl (pc' := 36) rfl ?_)
          obtain ⟨v1388, e1389⟩ : ∃ x : Int, x = wq_shl 1 (H r1378 (v1361.toNat)) := ⟨_, rfl⟩
          rw [← e1389]
          have b1390 : 1 ≤ v1388 ∧ v1388 ≤ 8388608 := by
            rw [e1389]
            exact wq_shl1_24 ⟨by omega, by omega⟩
          refine wp_of e46 c46_36 (rw_ior (pc' := 37) rfl ?_)
          obtain ⟨v1391, e1392⟩ : ∃ x : Int, x = wq_or v1362 v1388 := ⟨_, rfl⟩
          rw [← e1392]
          have b1393 : 0 ≤ v1391 ∧ v1391 ≤ 16777215 := by
            rw [e1392]
            exact wq_or_24 ⟨by omega, by omega⟩ ⟨by omega, by omega⟩
          refine wp_of e46 c46_37 (rw_istore_n (pc' := 38) (z := v1391) (L' := [(2, vI v1391), (3, vI v1361), (0, .ref r0), (1, vI a1)]) rfl rfl rfl ?_)
          have _q : v1391 = xob (fun h => decide (f h > 0 ∧ f h ≤ y + 1)) (h9 + 1) := xob_py (by assumption) _g (decide_eq_true ⟨_c, by omega⟩) e1392 e1389 _v
          refine wp_of e46 c46_38 (rw_iinc (pc' := 41) (z := v1361) (L' := [(3, vI (v1361 + 1)), (2, vI v1391), (0, .ref r0), (1, vI a1)]) rfl rfl rfl rfl ?_)
          refine wp_of e46 c46_41 (rw_goto (p1 := 4) (by decide) ?_)
          exact wp_lc (ks := [3, 2, 0, 1]) (wl_c rfl (wl_c rfl (wl_c rfl (wl_c rfl wl_n)))) rfl (by decide) (ih1360 _ (by omega) (v1361 + 1) v1391 ((h9 + 1)) ⟨by omega, by omega⟩ ⟨by omega, by omega⟩ (by omega) (by omega) (_q) rfl)
  have : xcn f 0 = 0 := rfl
  exact wp_lc (ks := [3, 2, 0, 1]) (wl_c rfl (wl_c rfl (wl_c rfl (wl_c rfl wl_n)))) rfl (by decide) (lp1358 _ 0 0 0 ⟨by omega, by omega⟩ ⟨by omega, by omega⟩ (by omega) (by omega) (rfl) rfl)
/-! StrikeAwake$Parish.settle()V  -/
abbrev uq_44 (r0 : Nat) (d : xD) (T : wq_T) (H : wq_H) : Option Value → wq_T → wq_H → Prop := fun r T' H' => T = T' ∧ WT T H' ∧ wfr [(27, 16), (27, 18), (35, 15), (35, 17), (38, 999), (39, 999), (36, 999), (40, 999), (41, 999), (34, 999), (37, 999), (29, 999), (30, 999), (33, 999)] T H H' ∧ none = r ∧ ((CU T H' r0 (xset d) (xset d) (xlots (xset d)) ∧ CY T H' r0 (d 0 3) (fun _ => 0) 0))
set_option maxHeartbeats 4000000 in
theorem u_44 {kt : Nat → Option mc_E} {T : wq_T} {H : wq_H} {r0 : Nat} {d : xD} (hW : WT T H) (g0 : T.2.2.2 r0 = some 27) (p0 : xdP d) (hDC_r0 : DC T H r0 d) (hDD_r0 : DD T H r0 ) (hDE_r0 : DE T H r0 ) (hCZ_r0 : CZ T H r0 (d 0 3)) : wpc kt 4 44 [.ref r0] T H (uq_44 r0 d T H) := by
  refine wp_enter e44 (Nat.le_of_ble_eq_true rfl) rfl ?_
  have f0 : wfr [(27, 16), (27, 18), (35, 15), (35, 17), (38, 999), (39, 999), (36, 999), (40, 999), (41, 999), (34, 999), (37, 999), (29, 999), (30, 999), (33, 999)] T H H := wfr.rf
  show wp _ _ 44 0 [(0, .ref r0)] [] _ H _
  have u1621 := DC_k hDC_r0
  have h1622 : DQ T H r0 d := hDC_r0.2.1
  have h1623 : ST T H r0 (d 13) := hDC_r0.2.2.1
  have h1624 : SV T H r0 (d 13) 24 := hDC_r0.2.2.2.1
  have h1625 : DA3 T H r0 (d 0 5) (d 12) := hDC_r0.2.2.2.2.1
  have h1626 : DA4 T H r0 (d 0 6) (d 14) := hDC_r0.2.2.2.2.2.1
  have h1627 : DA5 T H r0 (d 0 6) (d 15) := hDC_r0.2.2.2.2.2.2.1
  have h1628 : DA6 T H r0 (d 0 7) (d 16) := hDC_r0.2.2.2.2.2.2.2
  have _x := @xset_v d
  have _sx := @xsx_e (d 0 8)
  have _s : xsx (xset d 0 8) = xsx (d 0 8) := rfl
  refine wp_of e44 c44_0 (rw_aload_n (pc' := 1) (v := .ref r0) rfl rfl rfl ?_)
  refine wp_of e44 c44_1 (xc_V (pc' := 4) (r := r0) (as := []) (st := []) (lm_7_96) rfl rfl (Nat.le_of_ble_eq_true rfl) hW g0 sh_27 (by decide) rfl (by decide) (u_45  hW g0) (fun R1629 T1630 H1631 p1632 => ?_))
  obtain ⟨e1633, e1635, z1636, e1634, b1637, p1638⟩ := p1632
  subst e1633
  subst e1634
  subst e1635
  show wp _ _ 44 4 [(0, .ref r0)] [vI z1636] _ H _
  refine wp_of e44 c44_4 (rw_istore_n (pc' := 5) (z := z1636) (L' := [(1, vI z1636), (0, .ref r0)]) rfl rfl rfl ?_)
  have _al : z1636 = xal d := by
    unfold xal
    rw [show d 0 0 = H r0 7 by omega]
    omega
  refine wp_of e44 c44_5 (rw_aload_n (pc' := 6) (v := .ref r0) rfl rfl rfl ?_)
  refine wp_of e44 c44_6 (xg_I (pc' := 9) lf_7_41 hW g0 sh_27 (by decide) (by decide) ty_27_7 rfl rfl (fun b1640 b1641 => ?_))
  refine wp_of e44 c44_9 (rw_istore_n (pc' := 10) (z := H r0 7) (L' := [(2, vI (H r0 7)), (1, vI z1636), (0, .ref r0)]) rfl rfl rfl ?_)
  have lp1658 : ∀ (n1659 : Nat) (v1661 : Int) (H1662 : wq_H), WT T H1662 → wfr [(29, 999)] T H H1662 → (0 ≤ v1661 ∧ v1661 ≤ 24) → ST T H1662 r0 (xcu (d 13) (d 0 0) v1661) → (d 0 0 ≤ v1661) → (24 - v1661).toNat = n1659 → wp kt 3 44 10 [(2, vI v1661), (1, vI z1636), (0, .ref r0)] [] T H1662 (uq_44 r0 d T H) := by
    intro n1659
    induction n1659 using Nat.strongRecOn with
    | _ n1659 ih1660 =>
      intro v1661 H1662 w1663 f1664 b1665 h1667 x1668 m1666
      have f1669 := f0.tr f1664 rfl
      refine wp_of e44 c44_10 (rw_iload_n (pc' := 11) (z := v1661) rfl rfl ?_)
      refine wp_of e44 c44_11 (rw_bipush (pc' := 13) (z := 24) rfl (by decide) ?_)
      refine wp_of e44 c44_13 (rw_icmp_ge (p1 := 30) (p2 := 16) (by decide) rfl ⟨by omega, by omega⟩ ⟨by omega, by omega⟩ (fun c1670 => ?_) (fun c1670 => ?_))
      · have h1671 : ST T H1662 r0 (xcu (d 13) (d 0 0) 24) := by rw [show (24 : Int) = v1661 by omega]; exact h1667
        refine wp_of e44 c44_30 (rw_aload_n (pc' := 31) (v := .ref r0) rfl rfl rfl ?_)
        refine wp_of e44 c44_31 (xc_V (pc' := 34) (r := r0) (as := []) (st := []) (lm_7_89) rfl rfl (Nat.le_of_ble_eq_true rfl) w1663 g0 sh_27 (by decide) rfl (by decide) (u_41 (f := ((xcu (d 13) (d 0 0) 24))) w1663 g0 h1671) (fun R1672 T1673 H1674 p1675 => ?_))
        obtain ⟨e1676, w1678, f1679, e1677, p1680⟩ := p1675
        subst e1676
        subst e1677
        obtain ⟨a1681, a1682, a1683⟩ := p1680
        have f1684 := f1669.tr f1679 rfl
        show wp _ _ 44 34 [(2, vI v1661), (1, vI z1636), (0, .ref r0)] [] _ H1674 _
        refine wp_of e44 c44_34 (rw_iconst (pc' := 35) rfl ?_)
        refine wp_of e44 c44_35 (rw_istore_n (pc' := 36) (z := 0) (L' := [(2, vI 0), (1, vI z1636), (0, .ref r0)]) rfl rfl rfl ?_)
        have lp1760 : ∀ (n1761 : Nat) (v1763 : Int) (H1764 : wq_H), WT T H1764 → wfr [(33, 999)] T H1674 H1764 → (0 ≤ v1763 ∧ v1763 ≤ 4) → DA5 T H1764 r0 (d 0 6) (xmk (d 15) (xal d) v1763) → (v1763 ≤ d 0 6) → (4 - v1763).toNat = n1761 → wp kt 3 44 36 [(2, vI v1763), (1, vI z1636), (0, .ref r0)] [] T H1764 (uq_44 r0 d T H) := by
          intro n1761
          induction n1761 using Nat.strongRecOn with
          | _ n1761 ih1762 =>
            intro v1763 H1764 w1765 f1766 b1767 h1769 x1770 m1768
            have f1771 := f1684.tr f1766 rfl
            refine wp_of e44 c44_36 (rw_iload_n (pc' := 37) (z := v1763) rfl rfl ?_)
            refine wp_of e44 c44_37 (rw_aload_n (pc' := 38) (v := .ref r0) rfl rfl rfl ?_)
            have k1772 : H1764 r0 13 = H r0 13 := ((f1766 r0 13 _ g0 rfl).trans ((f1679 r0 13 _ g0 rfl).trans (f1664 r0 13 _ g0 rfl)))
            refine wp_of e44 c44_38 (xg_I (pc' := 41) lf_7_59 w1765 g0 sh_27 (by decide) (by decide) ty_27_13 rfl rfl (fun b1773 b1774 => ?_))
            refine wp_of e44 c44_41 (rw_icmp_ge (p1 := 60) (p2 := 44) (by decide) rfl ⟨by omega, by omega⟩ ⟨by omega, by omega⟩ (fun c1775 => ?_) (fun c1775 => ?_))
            · have h1776 : DA5 T H1764 r0 (d 0 6) (xset d 15) := DA_cg h1769 rfl (by rw [show v1763 = d 0 6 by omega]; rfl)
              refine wp_of e44 c44_60 (rw_iconst (pc' := 61) rfl ?_)
              refine wp_of e44 c44_61 (rw_istore_n (pc' := 62) (z := 0) (L' := [(2, vI 0), (1, vI z1636), (0, .ref r0)]) rfl rfl rfl ?_)
              have lp1882 : ∀ (n1883 : Nat) (v1885 : Int) (H1886 : wq_H), WT T H1886 → wfr [(34, 999)] T H1764 H1886 → (0 ≤ v1885 ∧ v1885 ≤ 6) → DA6 T H1886 r0 (d 0 7) (xmk (d 16) (xal d) v1885) → (v1885 ≤ d 0 7) → (6 - v1885).toNat = n1883 → wp kt 3 44 62 [(2, vI v1885), (1, vI z1636), (0, .ref r0)] [] T H1886 (uq_44 r0 d T H) := by
                intro n1883
                induction n1883 using Nat.strongRecOn with
                | _ n1883 ih1884 =>
                  intro v1885 H1886 w1887 f1888 b1889 h1891 x1892 m1890
                  have f1893 := f1771.tr f1888 rfl
                  refine wp_of e44 c44_62 (rw_iload_n (pc' := 63) (z := v1885) rfl rfl ?_)
                  refine wp_of e44 c44_63 (rw_aload_n (pc' := 64) (v := .ref r0) rfl rfl rfl ?_)
                  have k1894 : H1886 r0 14 = H r0 14 := ((f1888 r0 14 _ g0 rfl).trans ((f1766 r0 14 _ g0 rfl).trans ((f1679 r0 14 _ g0 rfl).trans (f1664 r0 14 _ g0 rfl))))
                  refine wp_of e44 c44_64 (xg_I (pc' := 67) lf_7_62 w1887 g0 sh_27 (by decide) (by decide) ty_27_14 rfl rfl (fun b1895 b1896 => ?_))
                  refine wp_of e44 c44_67 (rw_icmp_ge (p1 := 86) (p2 := 70) (by decide) rfl ⟨by omega, by omega⟩ ⟨by omega, by omega⟩ (fun c1897 => ?_) (fun c1897 => ?_))
                  · have h1898 : DA6 T H1886 r0 (d 0 7) (xset d 16) := DA_cg h1891 rfl (by rw [show v1885 = d 0 7 by omega]; rfl)
                    have h1899 : DQ T H1886 r0 d := (DQ_fr w1765 g0 f1888 rfl (DQ_fr w1678 g0 f1766 rfl (DQ_fr w1663 g0 f1679 rfl (DQ_fr hW g0 f1664 rfl h1622))))
                    have h1900 : DQ T H1886 r0 (xset d) := DQ_cg (fun i h1 h2 => xset_o (by omega)) rfl rfl h1899
                    have h1901 : ST T H1886 r0 ((xcu (d 13) (d 0 0) 24)) := (ST_fr w1765 g0 f1888 rfl (ST_fr w1678 g0 f1766 rfl a1682))
                    have h1902 : ST T H1886 r0 (xset d 13) := h1901
                    have h1903 : SV T H1886 r0 ((xcu (d 13) (d 0 0) 24)) 24 := (SV_fr w1765 g0 f1888 rfl (SV_fr w1678 g0 f1766 rfl a1683))
                    have h1904 : SV T H1886 r0 (xset d 13) 24 := h1903
                    have h1905 : CZ T H1886 r0 (d 0 3) := (CZ_fr w1765 g0 f1888 rfl (CZ_fr w1678 g0 f1766 rfl (CZ_fr w1663 g0 f1679 rfl (CZ_fr hW g0 f1664 rfl hCZ_r0))))
                    have h1906 : CG T H1886 r0 (d 0 3) (fun _ => 0) := CG_z h1905
                    have _c16 : H1886 r0 16 = xcn (xset d 13) 24 := by
                      rw [xset_13]
                      omega
                    refine wp_of e44 c44_86 (rw_aload_n (pc' := 87) (v := .ref r0) rfl rfl rfl ?_)
                    refine wp_of e44 c44_87 (rw_lconst (pc' := 88) (z := 1) rfl rfl ?_)
                    refine wp_of e44 c44_88 (xp_L (pc' := 91) lf_7_71 w1887 g0 sh_27 (by decide) (by decide) ty_27_18 rfl rfl (by omega) (by omega) ⟨by omega, by omega⟩ rfl (fun H1907 e1908 w1909 => ?_))
                    have f1910 := f1893.put' e1908 g0 rfl
                    have k1911 : H1907 r0 18 = 1 := wq_u_s e1908
                    refine wp_of e44 c44_91 (rw_aload_n (pc' := 92) (v := .ref r0) rfl rfl rfl ?_)
                    have k1912 : H1907 r0 10 = H r0 10 := ((wq_u_j e1908 rfl).trans ((f1888 r0 10 _ g0 rfl).trans ((f1766 r0 10 _ g0 rfl).trans ((f1679 r0 10 _ g0 rfl).trans (f1664 r0 10 _ g0 rfl)))))
                    refine wp_of e44 c44_92 (xg_I (pc' := 95) lf_7_50 w1909 g0 sh_27 (by decide) (by decide) ty_27_10 rfl rfl (fun b1913 b1914 => ?_))
                    refine wp_of e44 c44_95 (rw_iconst (pc' := 96) rfl ?_)
                    refine wp_of e44 c44_96 (rw_isub (pc' := 97) rfl ?_)
                    refine wp_of e44 c44_97 (rw_istore_n (pc' := 98) (z := (H1907 r0 10) - 1) (L' := [(2, vI ((H1907 r0 10) - 1)), (1, vI z1636), (0, .ref r0)]) rfl rfl rfl ?_)
                    have lp2143 : ∀ (n2144 : Nat) (v2146 : Int) (H2147 : wq_H), WT T H2147 → wfr [(27, 18), (35, 15), (35, 17), (38, 999), (39, 999), (36, 999), (40, 999), (41, 999), (37, 999)] T H1907 H2147 → ((-1) ≤ v2146 ∧ v2146 ≤ 5) → CS T H2147 r0 (xset d) (v2146 + 1) → CZ T H2147 r0 (v2146 + 1) → (v2146 ≤ d 0 3 - 1) → (H2147 r0 18 = xpr (xset d) (v2146 + 1).toNat ((xset d 0 3).toNat - (v2146 + 1).toNat)) → (v2146 - (-1)).toNat = n2144 → wp kt 3 44 98 [(2, vI v2146), (1, vI z1636), (0, .ref r0)] [] T H2147 (uq_44 r0 d T H) := by
                      intro n2144
                      induction n2144 using Nat.strongRecOn with
                      | _ n2144 ih2145 =>
                        intro v2146 H2147 w2148 f2149 b2150 h2152 h2153 x2154 x2155 m2151
                        have f2156 := f1910.tr f2149 rfl
                        refine wp_of e44 c44_98 (rw_iload_n (pc' := 99) (z := v2146) rfl rfl ?_)
                        refine wp_of e44 c44_99 (rw_if_lt (p1 := 169) (p2 := 102) (by decide) rfl ⟨by omega, by omega⟩ (fun c2157 => ?_) (fun c2157 => ?_))
                        · have k2158 : H2147 r0 7 = H r0 7 := ((f2149 r0 7 _ g0 rfl).trans ((wq_u_j e1908 rfl).trans ((f1888 r0 7 _ g0 rfl).trans ((f1766 r0 7 _ g0 rfl).trans ((f1679 r0 7 _ g0 rfl).trans (f1664 r0 7 _ g0 rfl))))))
                          have k2159 : H2147 r0 8 = H r0 8 := ((f2149 r0 8 _ g0 rfl).trans ((wq_u_j e1908 rfl).trans ((f1888 r0 8 _ g0 rfl).trans ((f1766 r0 8 _ g0 rfl).trans ((f1679 r0 8 _ g0 rfl).trans (f1664 r0 8 _ g0 rfl))))))
                          have k2160 : H2147 r0 9 = H r0 9 := ((f2149 r0 9 _ g0 rfl).trans ((wq_u_j e1908 rfl).trans ((f1888 r0 9 _ g0 rfl).trans ((f1766 r0 9 _ g0 rfl).trans ((f1679 r0 9 _ g0 rfl).trans (f1664 r0 9 _ g0 rfl))))))
                          have k2161 : H2147 r0 10 = H1907 r0 10 := (f2149 r0 10 _ g0 rfl)
                          have k2162 : H2147 r0 11 = H r0 11 := ((f2149 r0 11 _ g0 rfl).trans ((wq_u_j e1908 rfl).trans ((f1888 r0 11 _ g0 rfl).trans ((f1766 r0 11 _ g0 rfl).trans ((f1679 r0 11 _ g0 rfl).trans (f1664 r0 11 _ g0 rfl))))))
                          have k2163 : H2147 r0 12 = H r0 12 := ((f2149 r0 12 _ g0 rfl).trans ((wq_u_j e1908 rfl).trans ((f1888 r0 12 _ g0 rfl).trans ((f1766 r0 12 _ g0 rfl).trans ((f1679 r0 12 _ g0 rfl).trans (f1664 r0 12 _ g0 rfl))))))
                          have k2164 : H2147 r0 13 = H1764 r0 13 := ((f2149 r0 13 _ g0 rfl).trans ((wq_u_j e1908 rfl).trans (f1888 r0 13 _ g0 rfl)))
                          have k2165 : H2147 r0 14 = H1886 r0 14 := ((f2149 r0 14 _ g0 rfl).trans (wq_u_j e1908 rfl))
                          have k2166 : H2147 r0 15 = H r0 15 := ((f2149 r0 15 _ g0 rfl).trans ((wq_u_j e1908 rfl).trans ((f1888 r0 15 _ g0 rfl).trans ((f1766 r0 15 _ g0 rfl).trans ((f1679 r0 15 _ g0 rfl).trans (f1664 r0 15 _ g0 rfl))))))
                          have k2167 : H2147 r0 16 = H1674 r0 16 := ((f2149 r0 16 _ g0 rfl).trans ((wq_u_j e1908 rfl).trans ((f1888 r0 16 _ g0 rfl).trans (f1766 r0 16 _ g0 rfl))))
                          have _l := @xlots_e (xset d) v2146 (by omega)
                          have h2168 : DQ T H2147 r0 (xset d) := (DQ_fr w1909 g0 f2149 rfl (DQ_fr w1887 g0 ((wfr.rf (l := [(27, 18)])).put' e1908 g0 rfl) rfl h1900))
                          have h2169 : ST T H2147 r0 (xset d 13) := (ST_fr w1909 g0 f2149 rfl (ST_fr w1887 g0 ((wfr.rf (l := [(27, 18)])).put' e1908 g0 rfl) rfl h1902))
                          have h2170 : SV T H2147 r0 (xset d 13) 24 := (SV_fr w1909 g0 f2149 rfl (SV_fr w1887 g0 ((wfr.rf (l := [(27, 18)])).put' e1908 g0 rfl) rfl h1904))
                          have h2171 : DA3 T H2147 r0 (d 0 5) (d 12) := (DA3_fr w1909 g0 f2149 rfl (DA3_fr w1887 g0 ((wfr.rf (l := [(27, 18)])).put' e1908 g0 rfl) rfl (DA3_fr w1765 g0 f1888 rfl (DA3_fr w1678 g0 f1766 rfl (DA3_fr w1663 g0 f1679 rfl (DA3_fr hW g0 f1664 rfl h1625))))))
                          have h2172 : DA4 T H2147 r0 (d 0 6) (d 14) := (DA4_fr w1909 g0 f2149 rfl (DA4_fr w1887 g0 ((wfr.rf (l := [(27, 18)])).put' e1908 g0 rfl) rfl (DA4_fr w1765 g0 f1888 rfl (DA4_fr w1678 g0 f1766 rfl (DA4_fr w1663 g0 f1679 rfl (DA4_fr hW g0 f1664 rfl h1626))))))
                          have h2173 : DA5 T H2147 r0 (d 0 6) (xset d 15) := (DA5_fr w1909 g0 f2149 rfl (DA5_fr w1887 g0 ((wfr.rf (l := [(27, 18)])).put' e1908 g0 rfl) rfl (DA5_fr w1765 g0 f1888 rfl h1776)))
                          have h2174 : DA6 T H2147 r0 (d 0 7) (xset d 16) := (DA6_fr w1909 g0 f2149 rfl (DA6_fr w1887 g0 ((wfr.rf (l := [(27, 18)])).put' e1908 g0 rfl) rfl h1898))
                          have h2175 : CG T H2147 r0 (d 0 3) (fun _ => 0) := (CG_fr w1909 g0 f2149 rfl (CG_fr w1887 g0 ((wfr.rf (l := [(27, 18)])).put' e1908 g0 rfl) rfl h1906))
                          exact wp_return e44 c44_169 rfl ⟨rfl, w2148, f2156, rfl, ⟨⟨DC_mk ⟨by omega, by omega, by omega, by omega, by omega, by omega, by omega, by omega, by omega, by omega, by omega, by omega, by omega, by omega, by omega, by omega⟩ h2168 h2169 h2170 h2171 h2172 h2173 h2174 ⟨rfl, rfl, rfl, rfl, rfl⟩ ⟨rfl, rfl, rfl⟩, CS_ge h2152 (by omega), by omega⟩, ⟨h2175, (h2153).1⟩⟩⟩
                        · refine wp_of e44 c44_102 (rw_aload_n (pc' := 103) (v := .ref r0) rfl rfl rfl ?_)
                          refine wp_of e44 c44_103 (xg_R (pc' := 106) lf_7_11 w2148 g0 sh_27 (by decide) (by decide) ty_27_0 rfl rfl (fun r2176 q2177 g2178 => ?_))
                          refine wp_of e44 c44_106 (rw_iload_n (pc' := 107) (z := v2146) rfl rfl ?_)
                          refine wp_of e44 c44_107 (xa_R (pc' := 108) (by decide) w2148 g2178 sh_28 (by decide) (ty_28 _) (by omega) (by omega) rfl (fun r2179 q2180 g2181 => ?_))
                          have h2182 : DQ T H2147 r0 (xset d) := (DQ_fr w1909 g0 f2149 rfl (DQ_fr w1887 g0 ((wfr.rf (l := [(27, 18)])).put' e1908 g0 rfl) rfl h1900))
                          have _f := DQ_at h2182 q2177 q2180 (k := (v2146).toNat) (by omega)
                          have _z := CZ_at h2153 q2177 q2180 (k := (v2146).toNat) (by omega)
                          have h2183 : PX T H2147 r2179 (xset d) (v2146).toNat := ⟨_f, xdP_set p0⟩
                          refine wp_of e44 c44_108 (rw_iload_n (pc' := 109) (z := z1636) rfl rfl ?_)
                          refine wp_of e44 c44_109 (rw_iload_n (pc' := 110) (z := v2146) rfl rfl ?_)
                          refine wp_of e44 c44_110 (rw_aload_n (pc' := 111) (v := .ref r0) rfl rfl rfl ?_)
                          have k2184 : H2147 r0 15 = H r0 15 := ((f2149 r0 15 _ g0 rfl).trans ((wq_u_j e1908 rfl).trans ((f1888 r0 15 _ g0 rfl).trans ((f1766 r0 15 _ g0 rfl).trans ((f1679 r0 15 _ g0 rfl).trans (f1664 r0 15 _ g0 rfl))))))
                          refine wp_of e44 c44_111 (xg_I (pc' := 114) lf_7_37 w2148 g0 sh_27 (by decide) (by decide) ty_27_15 rfl rfl (fun b2185 b2186 => ?_))
                          refine wp_of e44 c44_114 (rw_icmp_ne (p1 := 126) (p2 := 117) (by decide) rfl ⟨by omega, by omega⟩ ⟨by omega, by omega⟩ (fun c2187 => ?_) (fun c2187 => ?_))
                          · refine wp_of e44 c44_126 (rw_iconst (pc' := 127) rfl ?_)
                            have _m : (0 : Int) = xmu (xset d) (v2146).toNat := xmu_n (by omega)
                            have h2188 : SQ T H2147 (cP H2147 r2179) := cP_SQ w2148 g2181
                            have w2189 := rt_WT w2148 h2188
                            refine wp_of e44 c44_127 (xc_V (pc' := 130) (r := r2179) (as := [vI z1636, vI 0]) (st := []) (lm_7_103) rfl rfl (Nat.le_of_ble_eq_true rfl) w2148 g2181 sh_35 (by decide) rfl (by decide) (rt_wpc (C := cP H2147 r2179) (u_47 (T := rtT T (cP H2147 r2179)) (d := ((xset d))) (k := ((v2146).toNat)) w2189 (rtT_k (C := cP H2147 r2179) g2181 (rtF_c g2181 (by decide) cP_p)) ⟨by omega, by omega⟩ ⟨by omega, by omega⟩ (by omega) (by omega) (by omega) h2183) (fun _ _ _ p => p.1)) (fun R2190 T2191 H2192 p2193 => ?_))
                            obtain ⟨e2194, -, w2196, f2197, e2195, p2198⟩ := p2193
                            subst e2194
                            subst e2195
                            have o2201 := rt_old f2197 rfl
                            have f2200 := rt_fr f2197 rfl
                            have w2199 := rt_un w2148 w2196 o2201
                            have f2203 := f2156.tr f2200 rfl
                            have f2204 := f2149.tr f2200 rfl
                            show wp _ _ 44 130 [(2, vI v2146), (1, vI z1636), (0, .ref r0)] [] _ H2192 _
                            have h2205 : PS T H2192 r2179 ((xset d)) ((v2146).toNat) (xsp ((xset d)) ((v2146).toNat)) := PS_un p2198
                            have k2206 : H2192 r0 0 = H2147 r0 0 := (f2200 r0 0 _ g0 rfl)
                            have q2207 : H2192 r0 0 = (r2176 : Int) := k2206.trans q2177
                            have h2208 : DD T H2147 r0  := (DD_fr w1909 g0 f2149 rfl (DD_fr w1887 g0 ((wfr.rf (l := [(27, 18)])).put' e1908 g0 rfl) rfl (DD_fr w1765 g0 f1888 rfl (DD_fr w1678 g0 f1766 rfl (DD_fr w1663 g0 f1679 rfl (DD_fr hW g0 f1664 rfl hDD_r0))))))
                            have h2209 : DE T H2147 r0  := (DE_fr w1909 g0 f2149 rfl (DE_fr w1887 g0 ((wfr.rf (l := [(27, 18)])).put' e1908 g0 rfl) rfl (DE_fr w1765 g0 f1888 rfl (DE_fr w1678 g0 f1766 rfl (DE_fr w1663 g0 f1679 rfl (DE_fr hW g0 f1664 rfl hDE_r0))))))
                            have h2210 : CS T H2192 r0 (xset d) (v2146 + 1) := CS_mk w2148 g0 h2208 h2209 q2177 g2178 q2207 (fun j => congrFun (f2200.fn g2178 rfl) j) q2180 g2181 (k := (v2146).toNat) (by omega) (by omega) o2201 (by omega) h2152
                            have h2211 : CZ T H2192 r0 (v2146) := CZ_mk w2148 g0 h2208 h2209 q2177 q2207 (fun j => congrFun (f2200.fn g2178 rfl) j) (f2200 r0 17 _ g0 rfl) q2180 g2181 (k := (v2146).toNat) (by omega) (by omega) o2201 h2153
                            have _n := (h2205).1
                            refine wp_of e44 c44_130 (rw_aload_n (pc' := 131) (v := .ref r0) rfl rfl rfl ?_)
                            refine wp_of e44 c44_131 (xg_K (pc' := 134) lf_7_11 w2199 g0 sh_27 (by decide) (by decide) rfl q2207 rfl ?_)
                            refine wp_of e44 c44_134 (rw_iload_n (pc' := 135) (z := v2146) rfl rfl ?_)
                            have k2212 : H2192 r2176 (v2146.toNat) = H2147 r2176 (v2146.toNat) := (f2200 r2176 (v2146.toNat) _ g2178 rfl)
                            have q2213 : H2192 r2176 (v2146.toNat) = (r2179 : Int) := k2212.trans q2180
                            refine wp_of e44 c44_135 (xa_K (pc' := 136) (by decide) w2199 g2178 sh_28 (by decide) (by omega) (by omega) q2213 rfl ?_)
                            refine wp_of e44 c44_136 (rw_aload_n (pc' := 137) (v := .ref r0) rfl rfl rfl ?_)
                            have k2214 : H2192 r0 18 = H2147 r0 18 := (f2200 r0 18 _ g0 rfl)
                            refine wp_of e44 c44_137 (xg_L (pc' := 140) lf_7_71 w2199 g0 sh_27 (by decide) (by decide) ty_27_18 rfl rfl (fun b2215 b2216 => ?_))
                            refine wp_of e44 c44_140 (rw_l2i (pc' := 141) rfl ?_)
                            obtain ⟨v2217, e2218⟩ : ∃ x : Int, x = wq_w (H2192 r0 18) := ⟨_, rfl⟩
                            rw [← e2218]
                            have b2219 : -2147483648 ≤ v2217 ∧ v2217 ≤ 2147483647 := by
                              rw [e2218]
                              exact wI_w _
                            have b2220 : (-2147483648 ≤ (H2192 r0 18) ∧ (H2192 r0 18) ≤ 2147483647) → v2217 = (H2192 r0 18) := by
                              rw [e2218]
                              exact fun h => wq_w_id h
                            have _t := @str_m (xset d) v2146 _ _ (by omega) (by omega) e2218
                            have h2221 : DD T H2192 r0  := (DD_fr w2148 g0 f2200 rfl (DD_fr w1909 g0 f2149 rfl (DD_fr w1887 g0 ((wfr.rf (l := [(27, 18)])).put' e1908 g0 rfl) rfl (DD_fr w1765 g0 f1888 rfl (DD_fr w1678 g0 f1766 rfl (DD_fr w1663 g0 f1679 rfl (DD_fr hW g0 f1664 rfl hDD_r0)))))))
                            refine wp_of e44 c44_141 (xp_I (pc' := 144) lf_7_107 w2199 g2181 sh_35 (by decide) (by decide) ty_35_17 rfl rfl (by omega) (by omega) ⟨by omega, by omega⟩ rfl (fun H2222 e2223 w2224 => ?_))
                            have f2225 := f2203.put' e2223 g2181 rfl
                            have f2226 := f2204.put' e2223 g2181 rfl
                            have k2227 : H2222 r2179 17 = v2217 := wq_u_s e2223
                            have h2228 : CS T H2222 r0 (xset d) (v2146 + 1) := CS_17 h2221 q2207 g2178 g0 q2213 g2181 (k := (v2146).toNat) (by omega) (by omega) (by omega) e2223 h2210
                            refine wp_of e44 c44_144 (rw_aload_n (pc' := 145) (v := .ref r0) rfl rfl rfl ?_)
                            refine wp_of e44 c44_145 (rw_dup (pc' := 146) rfl rfl ?_)
                            have k2229 : H2222 r0 18 = H2192 r0 18 := (wq_u_t e2223 g2181 g0 rfl 18)
                            refine wp_of e44 c44_146 (xg_L (pc' := 149) lf_7_71 w2224 g0 sh_27 (by decide) (by decide) ty_27_18 rfl rfl (fun b2230 b2231 => ?_))
                            refine wp_of e44 c44_149 (rw_aload_n (pc' := 150) (v := .ref r0) rfl rfl rfl ?_)
                            have k2232 : H2222 r0 0 = H2192 r0 0 := (wq_u_t e2223 g2181 g0 rfl 0)
                            have q2233 : H2222 r0 0 = (r2176 : Int) := k2232.trans q2207
                            refine wp_of e44 c44_150 (xg_K (pc' := 153) lf_7_11 w2224 g0 sh_27 (by decide) (by decide) rfl q2233 rfl ?_)
                            refine wp_of e44 c44_153 (rw_iload_n (pc' := 154) (z := v2146) rfl rfl ?_)
                            have k2234 : H2222 r2176 (v2146.toNat) = H2192 r2176 (v2146.toNat) := (wq_u_t e2223 g2181 g2178 rfl (v2146.toNat))
                            have q2235 : H2222 r2176 (v2146.toNat) = (r2179 : Int) := k2234.trans q2213
                            refine wp_of e44 c44_154 (xa_K (pc' := 155) (by decide) w2224 g2178 sh_28 (by decide) (by omega) (by omega) q2235 rfl ?_)
                            have k2236 : H2222 r2179 15 = H2192 r2179 15 := (wq_u_j e2223 rfl)
                            refine wp_of e44 c44_155 (xg_I (pc' := 158) lf_7_110 w2224 g2181 sh_35 (by decide) (by decide) ty_35_15 rfl rfl (fun b2237 b2238 => ?_))
                            refine wp_of e44 c44_158 (rw_i2l (pc' := 159) rfl ⟨by omega, by omega⟩ ?_)
                            refine wp_of e44 c44_159 (rw_lmulw (pc' := 160) rfl ?_)
                            obtain ⟨v2239, e2240⟩ : ∃ x : Int, x = wl_w ((H2222 r0 18) * (H2222 r2179 15)) := ⟨_, rfl⟩
                            rw [← e2240]
                            have b2241 : -9223372036854775808 ≤ v2239 ∧ v2239 ≤ 9223372036854775807 := by
                              rw [e2240]
                              exact wL_w _
                            have b2242 : (-9223372036854775808 ≤ (H2222 r0 18) * (H2222 r2179 15) ∧ (H2222 r0 18) * (H2222 r2179 15) ≤ 9223372036854775807) → v2239 = (H2222 r0 18) * (H2222 r2179 15) := fun h => by rw [e2240]; exact wl_w_id h
                            have _e := @xpr_m (xset d) v2146 _ _ _ (xdP_set p0) (by omega) (by omega) (by omega) (by omega) (by omega) e2240
                            refine wp_of e44 c44_160 (xp_L (pc' := 163) lf_7_71 w2224 g0 sh_27 (by decide) (by decide) ty_27_18 rfl rfl (by omega) (by omega) ⟨by omega, by omega⟩ rfl (fun H2243 e2244 w2245 => ?_))
                            have f2246 := f2225.put' e2244 g0 rfl
                            have f2247 := f2226.put' e2244 g0 rfl
                            have k2248 : H2243 r0 18 = v2239 := wq_u_s e2244
                            have k2249 : H2243 r2179 17 = H2222 r2179 17 := (wq_u_t e2244 g0 g2181 rfl 17)
                            have k2250 : H2243 r2176 (v2146.toNat) = H2222 r2176 (v2146.toNat) := (wq_u_t e2244 g0 g2178 rfl (v2146.toNat))
                            have q2251 : H2243 r2176 (v2146.toNat) = (r2179 : Int) := k2250.trans q2235
                            have h2252 : PS T H2243 r2179 ((xset d)) ((v2146).toNat) (xsp ((xset d)) ((v2146).toNat)) := (PS_fr w2224 g2181 ((wfr.rf (l := [(27, 18)])).put' e2244 g0 rfl) rfl (PS_fr w2199 g2181 ((wfr.rf (l := [(35, 17)])).put' e2223 g2181 rfl) rfl h2205))
                            have k2253 : H2243 r0 0 = H2222 r0 0 := (wq_u_j e2244 rfl)
                            have q2254 : H2243 r0 0 = (r2176 : Int) := k2253.trans q2233
                            have h2255 : CS T H2243 r0 (xset d) (v2146 + 1) := (CS_fr w2224 g0 ((wfr.rf (l := [(27, 18)])).put' e2244 g0 rfl) rfl h2228)
                            have h2256 : CS T H2243 r0 (xset d) ((v2146 + (-1)) + 1) := CS_ge (CS_cons (i := v2146) (k := (v2146).toNat) q2254 q2251 g2181 h2252 (by omega) (by omega) h2255) (by omega)
                            have h2257 : CZ T H2243 r0 (v2146) := (CZ_fr w2224 g0 ((wfr.rf (l := [(27, 18)])).put' e2244 g0 rfl) rfl (CZ_fr w2199 g0 ((wfr.rf (l := [(35, 17)])).put' e2223 g2181 rfl) rfl h2211))
                            have h2258 : CZ T H2243 r0 ((v2146 + (-1)) + 1) := CZ_le h2257 (by omega)
                            refine wp_of e44 c44_163 (rw_iinc (pc' := 166) (z := v2146) (L' := [(2, vI (v2146 + (-1))), (1, vI z1636), (0, .ref r0)]) rfl rfl rfl rfl ?_)
                            refine wp_of e44 c44_166 (rw_goto (p1 := 98) (by decide) ?_)
                            exact wp_lc (ks := [2, 1, 0]) (wl_c rfl (wl_c rfl (wl_c rfl wl_n))) rfl (by decide) (ih2145 _ (by omega) (v2146 + (-1)) H2243 w2245 f2247 ⟨by omega, by omega⟩ h2256 h2258 (by omega) (by rw [show v2146 + (-1) + 1 = v2146 by omega]; omega) rfl)
                          · refine wp_of e44 c44_117 (rw_aload_n (pc' := 118) (v := .ref r0) rfl rfl rfl ?_)
                            refine wp_of e44 c44_118 (rw_bipush (pc' := 120) (z := 99) rfl (by decide) ?_)
                            have k2259 : H2147 r0 16 = H1674 r0 16 := ((f2149 r0 16 _ g0 rfl).trans ((wq_u_j e1908 rfl).trans ((f1888 r0 16 _ g0 rfl).trans (f1766 r0 16 _ g0 rfl))))
                            have h2260 : ST T H2147 r0 (xset d 13) := (ST_fr w1909 g0 f2149 rfl (ST_fr w1887 g0 ((wfr.rf (l := [(27, 18)])).put' e1908 g0 rfl) rfl h1902))
                            have h2261 : SV T H2147 r0 (xset d 13) 24 := (SV_fr w1909 g0 f2149 rfl (SV_fr w1887 g0 ((wfr.rf (l := [(27, 18)])).put' e1908 g0 rfl) rfl h1904))
                            refine wp_of e44 c44_120 (xc_V (pc' := 123) (r := r0) (as := [vI 99]) (st := [vI z1636, .ref r2179]) (lm_7_99) rfl rfl (Nat.le_of_ble_eq_true rfl) w2148 g0 sh_27 (by decide) rfl (by decide) (u_46 (f := ((xset d 13))) (y := 99) w2148 g0 ⟨by omega, by omega⟩ (by omega) (by omega) h2260 h2261) (fun R2262 T2263 H2264 p2265 => ?_))
                            obtain ⟨e2266, e2268, z2269, e2267, b2270, p2271⟩ := p2265
                            subst e2266
                            subst e2267
                            subst e2268
                            show wp _ _ 44 123 [(2, vI v2146), (1, vI z1636), (0, .ref r0)] [vI z2269, vI z1636, .ref r2179] _ H2147 _
                            refine wp_of e44 c44_123 (rw_goto (p1 := 127) (by decide) ?_)
                            have _m : z2269 = xmu (xset d) (v2146).toNat := xmu_y (by omega) (ST_100 h2260) (by assumption)
                            have h2273 : SQ T H2147 (cP H2147 r2179) := cP_SQ w2148 g2181
                            have w2274 := rt_WT w2148 h2273
                            refine wp_of e44 c44_127 (xc_V (pc' := 130) (r := r2179) (as := [vI z1636, vI z2269]) (st := []) (lm_7_103) rfl rfl (Nat.le_of_ble_eq_true rfl) w2148 g2181 sh_35 (by decide) rfl (by decide) (rt_wpc (C := cP H2147 r2179) (u_47 (T := rtT T (cP H2147 r2179)) (d := ((xset d))) (k := ((v2146).toNat)) w2274 (rtT_k (C := cP H2147 r2179) g2181 (rtF_c g2181 (by decide) cP_p)) ⟨by omega, by omega⟩ ⟨by omega, by omega⟩ (by omega) (by omega) (by omega) h2183) (fun _ _ _ p => p.1)) (fun R2275 T2276 H2277 p2278 => ?_))
                            obtain ⟨e2279, -, w2281, f2282, e2280, p2283⟩ := p2278
                            subst e2279
                            subst e2280
                            have o2286 := rt_old f2282 rfl
                            have f2285 := rt_fr f2282 rfl
                            have w2284 := rt_un w2148 w2281 o2286
                            have f2288 := f2156.tr f2285 rfl
                            have f2289 := f2149.tr f2285 rfl
                            show wp _ _ 44 130 [(2, vI v2146), (1, vI z1636), (0, .ref r0)] [] _ H2277 _
                            have h2290 : PS T H2277 r2179 ((xset d)) ((v2146).toNat) (xsp ((xset d)) ((v2146).toNat)) := PS_un p2283
                            have k2291 : H2277 r0 0 = H2147 r0 0 := (f2285 r0 0 _ g0 rfl)
                            have q2292 : H2277 r0 0 = (r2176 : Int) := k2291.trans q2177
                            have h2293 : DD T H2147 r0  := (DD_fr w1909 g0 f2149 rfl (DD_fr w1887 g0 ((wfr.rf (l := [(27, 18)])).put' e1908 g0 rfl) rfl (DD_fr w1765 g0 f1888 rfl (DD_fr w1678 g0 f1766 rfl (DD_fr w1663 g0 f1679 rfl (DD_fr hW g0 f1664 rfl hDD_r0))))))
                            have h2294 : DE T H2147 r0  := (DE_fr w1909 g0 f2149 rfl (DE_fr w1887 g0 ((wfr.rf (l := [(27, 18)])).put' e1908 g0 rfl) rfl (DE_fr w1765 g0 f1888 rfl (DE_fr w1678 g0 f1766 rfl (DE_fr w1663 g0 f1679 rfl (DE_fr hW g0 f1664 rfl hDE_r0))))))
                            have h2295 : CS T H2277 r0 (xset d) (v2146 + 1) := CS_mk w2148 g0 h2293 h2294 q2177 g2178 q2292 (fun j => congrFun (f2285.fn g2178 rfl) j) q2180 g2181 (k := (v2146).toNat) (by omega) (by omega) o2286 (by omega) h2152
                            have h2296 : CZ T H2277 r0 (v2146) := CZ_mk w2148 g0 h2293 h2294 q2177 q2292 (fun j => congrFun (f2285.fn g2178 rfl) j) (f2285 r0 17 _ g0 rfl) q2180 g2181 (k := (v2146).toNat) (by omega) (by omega) o2286 h2153
                            have _n := (h2290).1
                            refine wp_of e44 c44_130 (rw_aload_n (pc' := 131) (v := .ref r0) rfl rfl rfl ?_)
                            refine wp_of e44 c44_131 (xg_K (pc' := 134) lf_7_11 w2284 g0 sh_27 (by decide) (by decide) rfl q2292 rfl ?_)
                            refine wp_of e44 c44_134 (rw_iload_n (pc' := 135) (z := v2146) rfl rfl ?_)
                            have k2297 : H2277 r2176 (v2146.toNat) = H2147 r2176 (v2146.toNat) := (f2285 r2176 (v2146.toNat) _ g2178 rfl)
                            have q2298 : H2277 r2176 (v2146.toNat) = (r2179 : Int) := k2297.trans q2180
                            refine wp_of e44 c44_135 (xa_K (pc' := 136) (by decide) w2284 g2178 sh_28 (by decide) (by omega) (by omega) q2298 rfl ?_)
                            refine wp_of e44 c44_136 (rw_aload_n (pc' := 137) (v := .ref r0) rfl rfl rfl ?_)
                            have k2299 : H2277 r0 18 = H2147 r0 18 := (f2285 r0 18 _ g0 rfl)
                            refine wp_of e44 c44_137 (xg_L (pc' := 140) lf_7_71 w2284 g0 sh_27 (by decide) (by decide) ty_27_18 rfl rfl (fun b2300 b2301 => ?_))
                            refine wp_of e44 c44_140 (rw_l2i (pc' := 141) rfl ?_)
                            obtain ⟨v2302, e2303⟩ : ∃ x : Int, x = wq_w (H2277 r0 18) := ⟨_, rfl⟩
                            rw [← e2303]
                            have b2304 : -2147483648 ≤ v2302 ∧ v2302 ≤ 2147483647 := by
                              rw [e2303]
                              exact wI_w _
                            have b2305 : (-2147483648 ≤ (H2277 r0 18) ∧ (H2277 r0 18) ≤ 2147483647) → v2302 = (H2277 r0 18) := by
                              rw [e2303]
                              exact fun h => wq_w_id h
                            have _t := @str_m (xset d) v2146 _ _ (by omega) (by omega) e2303
                            have h2306 : DD T H2277 r0  := (DD_fr w2148 g0 f2285 rfl (DD_fr w1909 g0 f2149 rfl (DD_fr w1887 g0 ((wfr.rf (l := [(27, 18)])).put' e1908 g0 rfl) rfl (DD_fr w1765 g0 f1888 rfl (DD_fr w1678 g0 f1766 rfl (DD_fr w1663 g0 f1679 rfl (DD_fr hW g0 f1664 rfl hDD_r0)))))))
                            refine wp_of e44 c44_141 (xp_I (pc' := 144) lf_7_107 w2284 g2181 sh_35 (by decide) (by decide) ty_35_17 rfl rfl (by omega) (by omega) ⟨by omega, by omega⟩ rfl (fun H2307 e2308 w2309 => ?_))
                            have f2310 := f2288.put' e2308 g2181 rfl
                            have f2311 := f2289.put' e2308 g2181 rfl
                            have k2312 : H2307 r2179 17 = v2302 := wq_u_s e2308
                            have h2313 : CS T H2307 r0 (xset d) (v2146 + 1) := CS_17 h2306 q2292 g2178 g0 q2298 g2181 (k := (v2146).toNat) (by omega) (by omega) (by omega) e2308 h2295
                            refine wp_of e44 c44_144 (rw_aload_n (pc' := 145) (v := .ref r0) rfl rfl rfl ?_)
                            refine wp_of e44 c44_145 (rw_dup (pc' := 146) rfl rfl ?_)
                            have k2314 : H2307 r0 18 = H2277 r0 18 := (wq_u_t e2308 g2181 g0 rfl 18)
                            refine wp_of e44 c44_146 (xg_L (pc' := 149) lf_7_71 w2309 g0 sh_27 (by decide) (by decide) ty_27_18 rfl rfl (fun b2315 b2316 => ?_))
                            refine wp_of e44 c44_149 (rw_aload_n (pc' := 150) (v := .ref r0) rfl rfl rfl ?_)
                            have k2317 : H2307 r0 0 = H2277 r0 0 := (wq_u_t e2308 g2181 g0 rfl 0)
                            have q2318 : H2307 r0 0 = (r2176 : Int) := k2317.trans q2292
                            refine wp_of e44 c44_150 (xg_K (pc' := 153) lf_7_11 w2309 g0 sh_27 (by decide) (by decide) rfl q2318 rfl ?_)
                            refine wp_of e44 c44_153 (rw_iload_n (pc' := 154) (z := v2146) rfl rfl ?_)
                            have k2319 : H2307 r2176 (v2146.toNat) = H2277 r2176 (v2146.toNat) := (wq_u_t e2308 g2181 g2178 rfl (v2146.toNat))
                            have q2320 : H2307 r2176 (v2146.toNat) = (r2179 : Int) := k2319.trans q2298
                            refine wp_of e44 c44_154 (xa_K (pc' := 155) (by decide) w2309 g2178 sh_28 (by decide) (by omega) (by omega) q2320 rfl ?_)
                            have k2321 : H2307 r2179 15 = H2277 r2179 15 := (wq_u_j e2308 rfl)
                            refine wp_of e44 c44_155 (xg_I (pc' := 158) lf_7_110 w2309 g2181 sh_35 (by decide) (by decide) ty_35_15 rfl rfl (fun b2322 b2323 => ?_))
                            refine wp_of e44 c44_158 (rw_i2l (pc' := 159) rfl ⟨by omega, by omega⟩ ?_)
                            refine wp_of e44 c44_159 (rw_lmulw (pc' := 160) rfl ?_)
                            obtain ⟨v2324, e2325⟩ : ∃ x : Int, x = wl_w ((H2307 r0 18) * (H2307 r2179 15)) := ⟨_, rfl⟩
                            rw [← e2325]
                            have b2326 : -9223372036854775808 ≤ v2324 ∧ v2324 ≤ 9223372036854775807 := by
                              rw [e2325]
                              exact wL_w _
                            have b2327 : (-9223372036854775808 ≤ (H2307 r0 18) * (H2307 r2179 15) ∧ (H2307 r0 18) * (H2307 r2179 15) ≤ 9223372036854775807) → v2324 = (H2307 r0 18) * (H2307 r2179 15) := fun h => by rw [e2325]; exact wl_w_id h
                            have _e := @xpr_m (xset d) v2146 _ _ _ (xdP_set p0) (by omega) (by omega) (by omega) (by omega) (by omega) e2325
                            refine wp_of e44 c44_160 (xp_L (pc' := 163) lf_7_71 w2309 g0 sh_27 (by decide) (by decide) ty_27_18 rfl rfl (by omega) (by omega) ⟨by omega, by omega⟩ rfl (fun H2328 e2329 w2330 => ?_))
                            have f2331 := f2310.put' e2329 g0 rfl
                            have f2332 := f2311.put' e2329 g0 rfl
                            have k2333 : H2328 r0 18 = v2324 := wq_u_s e2329
                            have k2334 : H2328 r2179 17 = H2307 r2179 17 := (wq_u_t e2329 g0 g2181 rfl 17)
                            have k2335 : H2328 r2176 (v2146.toNat) = H2307 r2176 (v2146.toNat) := (wq_u_t e2329 g0 g2178 rfl (v2146.toNat))
                            have q2336 : H2328 r2176 (v2146.toNat) = (r2179 : Int) := k2335.trans q2320
                            have h2337 : PS T H2328 r2179 ((xset d)) ((v2146).toNat) (xsp ((xset d)) ((v2146).toNat)) := (PS_fr w2309 g2181 ((wfr.rf (l := [(27, 18)])).put' e2329 g0 rfl) rfl (PS_fr w2284 g2181 ((wfr.rf (l := [(35, 17)])).put' e2308 g2181 rfl) rfl h2290))
                            have k2338 : H2328 r0 0 = H2307 r0 0 := (wq_u_j e2329 rfl)
                            have q2339 : H2328 r0 0 = (r2176 : Int) := k2338.trans q2318
                            have h2340 : CS T H2328 r0 (xset d) (v2146 + 1) := (CS_fr w2309 g0 ((wfr.rf (l := [(27, 18)])).put' e2329 g0 rfl) rfl h2313)
                            have h2341 : CS T H2328 r0 (xset d) ((v2146 + (-1)) + 1) := CS_ge (CS_cons (i := v2146) (k := (v2146).toNat) q2339 q2336 g2181 h2337 (by omega) (by omega) h2340) (by omega)
                            have h2342 : CZ T H2328 r0 (v2146) := (CZ_fr w2309 g0 ((wfr.rf (l := [(27, 18)])).put' e2329 g0 rfl) rfl (CZ_fr w2284 g0 ((wfr.rf (l := [(35, 17)])).put' e2308 g2181 rfl) rfl h2296))
                            have h2343 : CZ T H2328 r0 ((v2146 + (-1)) + 1) := CZ_le h2342 (by omega)
                            refine wp_of e44 c44_163 (rw_iinc (pc' := 166) (z := v2146) (L' := [(2, vI (v2146 + (-1))), (1, vI z1636), (0, .ref r0)]) rfl rfl rfl rfl ?_)
                            refine wp_of e44 c44_166 (rw_goto (p1 := 98) (by decide) ?_)
                            exact wp_lc (ks := [2, 1, 0]) (wl_c rfl (wl_c rfl (wl_c rfl wl_n))) rfl (by decide) (ih2145 _ (by omega) (v2146 + (-1)) H2328 w2330 f2332 ⟨by omega, by omega⟩ h2341 h2343 (by omega) (by rw [show v2146 + (-1) + 1 = v2146 by omega]; omega) rfl)
                    have _w := @xpr_z (xset d) (((H1907 r0 10) - 1) + 1).toNat (by omega)
                    have h2344 : CS T H1907 r0 (xset d) (((H1907 r0 10) - 1) + 1) := CS_0 (xdP_set p0) (by omega)
                    have h2345 : CZ T H1907 r0 (d 0 3) := (CZ_fr w1887 g0 ((wfr.rf (l := [(27, 18)])).put' e1908 g0 rfl) rfl h1905)
                    have h2346 : CZ T H1907 r0 (((H1907 r0 10) - 1) + 1) := CZ_le h2345 (by omega)
                    exact wp_lc (ks := [2, 1, 0]) (wl_c rfl (wl_c rfl (wl_c rfl wl_n))) rfl (by decide) (lp2143 _ ((H1907 r0 10) - 1) H1907 w1909 wfr.rf ⟨by omega, by omega⟩ h2344 h2346 (by omega) (by omega) rfl)
                  · refine wp_of e44 c44_70 (rw_aload_n (pc' := 71) (v := .ref r0) rfl rfl rfl ?_)
                    refine wp_of e44 c44_71 (xg_R (pc' := 74) lf_7_33 w1887 g0 sh_27 (by decide) (by decide) ty_27_6 rfl rfl (fun r2347 q2348 g2349 => ?_))
                    refine wp_of e44 c44_74 (rw_iload_n (pc' := 75) (z := v1885) rfl rfl ?_)
                    refine wp_of e44 c44_75 (rw_dup2 (pc' := 76) rfl rfl rfl ?_)
                    refine wp_of e44 c44_76 (xa_I (so := 0) (pc' := 77) w1887 g2349 sh_34 (by decide) (ty_34 _) (by omega) (by omega) rfl (fun b2350 b2351 => ?_))
                    have _d := DA_at h1891 q2348 (k := (v1885.toNat)) (by omega)
                    refine wp_of e44 c44_77 (rw_iload_n (pc' := 78) (z := z1636) rfl rfl ?_)
                    refine wp_of e44 c44_78 (rw_iand (pc' := 79) rfl ?_)
                    obtain ⟨v2352, e2353⟩ : ∃ x : Int, x = wq_and (H1886 r2347 (v1885.toNat)) z1636 := ⟨_, rfl⟩
                    rw [← e2353]
                    have b2354 : 0 ≤ v2352 ∧ v2352 ≤ z1636 := by
                      rw [e2353]
                      exact wq_and_b _ (by omega) (by omega)
                    refine wp_of e44 c44_79 (xs_I (pc' := 80) w1887 g2349 (by decide) sh_34 (by decide) (ty_34 _) (by omega) (by omega) ⟨by omega, by omega⟩ (by omega) (by omega) rfl (fun H2355 e2356 w2357 => ?_))
                    have f2358 := f1893.put' e2356 g2349 rfl
                    have f2359 := f1888.put' e2356 g2349 rfl
                    have h2360 : DA6 T H2355 r0 (d 0 7) (xmk (d 16) (xal d) (v1885 + 1)) := DAo_set h1891 q2348 g0 g2349 (by decide) e2356 (xmk_k (by omega) e2353 _d _al) (xmk_c (by omega)).2.1
                    refine wp_of e44 c44_80 (rw_iinc (pc' := 83) (z := v1885) (L' := [(2, vI (v1885 + 1)), (1, vI z1636), (0, .ref r0)]) rfl rfl rfl rfl ?_)
                    refine wp_of e44 c44_83 (rw_goto (p1 := 62) (by decide) ?_)
                    exact wp_lc (ks := [2, 1, 0]) (wl_c rfl (wl_c rfl (wl_c rfl wl_n))) rfl (by decide) (ih1884 _ (by omega) (v1885 + 1) H2355 w2357 f2359 ⟨by omega, by omega⟩ h2360 (by omega) rfl)
              have h2361 : DA6 T H1764 r0 (d 0 7) (d 16) := (DA6_fr w1678 g0 f1766 rfl (DA6_fr w1663 g0 f1679 rfl (DA6_fr hW g0 f1664 rfl h1628)))
              have h2362 : DA6 T H1764 r0 (d 0 7) (xmk (d 16) (xal d) 0) := by rw [xmk_0]; exact h2361
              exact wp_lc (ks := [2, 1, 0]) (wl_c rfl (wl_c rfl (wl_c rfl wl_n))) rfl (by decide) (lp1882 _ 0 H1764 w1765 wfr.rf ⟨by omega, by omega⟩ h2362 (by omega) rfl)
            · refine wp_of e44 c44_44 (rw_aload_n (pc' := 45) (v := .ref r0) rfl rfl rfl ?_)
              refine wp_of e44 c44_45 (xg_R (pc' := 48) lf_7_30 w1765 g0 sh_27 (by decide) (by decide) ty_27_5 rfl rfl (fun r2363 q2364 g2365 => ?_))
              refine wp_of e44 c44_48 (rw_iload_n (pc' := 49) (z := v1763) rfl rfl ?_)
              refine wp_of e44 c44_49 (rw_dup2 (pc' := 50) rfl rfl rfl ?_)
              refine wp_of e44 c44_50 (xa_I (so := 0) (pc' := 51) w1765 g2365 sh_33 (by decide) (ty_33 _) (by omega) (by omega) rfl (fun b2366 b2367 => ?_))
              have _d := DA_at h1769 q2364 (k := (v1763.toNat)) (by omega)
              refine wp_of e44 c44_51 (rw_iload_n (pc' := 52) (z := z1636) rfl rfl ?_)
              refine wp_of e44 c44_52 (rw_iand (pc' := 53) rfl ?_)
              obtain ⟨v2368, e2369⟩ : ∃ x : Int, x = wq_and (H1764 r2363 (v1763.toNat)) z1636 := ⟨_, rfl⟩
              rw [← e2369]
              have b2370 : 0 ≤ v2368 ∧ v2368 ≤ z1636 := by
                rw [e2369]
                exact wq_and_b _ (by omega) (by omega)
              refine wp_of e44 c44_53 (xs_I (pc' := 54) w1765 g2365 (by decide) sh_33 (by decide) (ty_33 _) (by omega) (by omega) ⟨by omega, by omega⟩ (by omega) (by omega) rfl (fun H2371 e2372 w2373 => ?_))
              have f2374 := f1771.put' e2372 g2365 rfl
              have f2375 := f1766.put' e2372 g2365 rfl
              have h2376 : DA5 T H2371 r0 (d 0 6) (xmk (d 15) (xal d) (v1763 + 1)) := DAo_set h1769 q2364 g0 g2365 (by decide) e2372 (xmk_k (by omega) e2369 _d _al) (xmk_c (by omega)).2.1
              refine wp_of e44 c44_54 (rw_iinc (pc' := 57) (z := v1763) (L' := [(2, vI (v1763 + 1)), (1, vI z1636), (0, .ref r0)]) rfl rfl rfl rfl ?_)
              refine wp_of e44 c44_57 (rw_goto (p1 := 36) (by decide) ?_)
              exact wp_lc (ks := [2, 1, 0]) (wl_c rfl (wl_c rfl (wl_c rfl wl_n))) rfl (by decide) (ih1762 _ (by omega) (v1763 + 1) H2371 w2373 f2375 ⟨by omega, by omega⟩ h2376 (by omega) rfl)
        have h2377 : DA5 T H1674 r0 (d 0 6) (d 15) := (DA5_fr w1663 g0 f1679 rfl (DA5_fr hW g0 f1664 rfl h1627))
        have h2378 : DA5 T H1674 r0 (d 0 6) (xmk (d 15) (xal d) 0) := by rw [xmk_0]; exact h2377
        exact wp_lc (ks := [2, 1, 0]) (wl_c rfl (wl_c rfl (wl_c rfl wl_n))) rfl (by decide) (lp1760 _ 0 H1674 w1678 wfr.rf ⟨by omega, by omega⟩ h2378 (by omega) rfl)
      · refine wp_of e44 c44_16 (rw_aload_n (pc' := 17) (v := .ref r0) rfl rfl rfl ?_)
        refine wp_of e44 c44_17 (xg_R (pc' := 20) lf_7_17 w1663 g0 sh_27 (by decide) (by decide) ty_27_1 rfl rfl (fun r2379 q2380 g2381 => ?_))
        refine wp_of e44 c44_20 (rw_iload_n (pc' := 21) (z := v1661) rfl rfl ?_)
        refine wp_of e44 c44_21 (rw_bipush (pc' := 23) (z := -2) rfl (by decide) ?_)
        refine wp_of e44 c44_23 (xs_I (pc' := 24) w1663 g2381 (by decide) sh_29 (by decide) (ty_29 _) (by omega) (by omega) ⟨by omega, by omega⟩ (by omega) (by omega) rfl (fun H2382 e2383 w2384 => ?_))
        have f2385 := f1669.put' e2383 g2381 rfl
        have f2386 := f1664.put' e2383 g2381 rfl
        have h2387 : ST T H2382 r0 (xcu (d 13) (d 0 0) (v1661 + 1)) := ST_put (w := 0) h1667 q2380 g0 g2381 e2383 (Or.inr ⟨rfl, rfl⟩) (xcu_c (by omega) (by omega)).1 (xcu_c (by omega) (by omega)).2
        refine wp_of e44 c44_24 (rw_iinc (pc' := 27) (z := v1661) (L' := [(2, vI (v1661 + 1)), (1, vI z1636), (0, .ref r0)]) rfl rfl rfl rfl ?_)
        refine wp_of e44 c44_27 (rw_goto (p1 := 10) (by decide) ?_)
        exact wp_lc (ks := [2, 1, 0]) (wl_c rfl (wl_c rfl (wl_c rfl wl_n))) rfl (by decide) (ih1660 _ (by omega) (v1661 + 1) H2382 w2384 f2386 ⟨by omega, by omega⟩ h2387 (by omega) rfl)
  have h2388 : ST T H r0 (xcu (d 13) (d 0 0) (H r0 7)) := by rw [show (H r0 7) = d 0 0 by omega, xcu_0]; exact h1623
  exact wp_lc (ks := [2, 1, 0]) (wl_c rfl (wl_c rfl (wl_c rfl wl_n))) rfl (by decide) (lp1658 _ (H r0 7) H hW wfr.rf ⟨by omega, by omega⟩ h2388 (by omega) rfl)
/-! StrikeAwake.parish(I)I  -/
abbrev uq_11 (r0 : Nat) (a1 : Int) (tp : Nat) (rd : Nat) (cu : Nat) (dr : Nat) (B : Nat → Int) (y : Int) (eU : xD) (dU : xD) (nU : Int) (nY : Int) (gY : Nat → Int) (cY : Int) (C : Nat → Bool) (T : wq_T) (H : wq_H) : Option Value → wq_T → wq_H → Prop := fun r T' H' => T = T' ∧ WT T H' ∧ wfr [(12, 9), (27, 7), (27, 8), (27, 9), (27, 10), (27, 11), (27, 12), (27, 13), (27, 14), (27, 15), (27, 16), (27, 17), (27, 18), (35, 6), (35, 7), (35, 8), (35, 9), (35, 10), (35, 11), (35, 12), (35, 13), (35, 14), (35, 15), (35, 16), (35, 17), (3, 1), (3, 2), (3, 3), (3, 4), (1, 6), (1, 7), (1, 8), (1, 9), (1, 10), (1, 11), (1, 12), (4, 0), (4, 1), (4, 2), (4, 3), (4, 4), (4, 5), (4, 6), (38, 999), (39, 999), (36, 999), (31, 999), (40, 999), (41, 999), (34, 999), (37, 999), (29, 999), (30, 999), (33, 999), (32, 999)] T H H' ∧ ∃ z : Int, some (vI z) = r ∧ ((-2147483648) ≤ z ∧ z ≤ 2147483647) ∧ (((z = -1) ∧ (a1 < 0 ∨ H r0 9 < a1) ∧ (H' r0 9 = H r0 9) ∧ (H' r0 10 = 2) ∧ (H' r0 6 = (cu : Int)) ∧ (H' r0 7 = (dr : Int)) ∧ (H' r0 8 = H r0 8) ∧ (H' r0 11 = H r0 11) ∧ CU T H' cu eU dU nU ∧ CY T H' cu nY gY cY ∧ SP T H' r0 C) ∨ ((z = -1) ∧ (0 ≤ a1 ∧ a1 ≤ H r0 9) ∧ (H' r0 9 = 0) ∧ ((xparse B y).1.1 ≠ 0) ∧ (H' r0 10 = 4) ∧ (H' r0 11 = (xparse B y).1.1) ∧ (H' r0 12 = (xparse B y).1.2.1) ∧ (H' r0 6 = (cu : Int)) ∧ (H' r0 7 = (dr : Int)) ∧ (H' r0 8 = H r0 8) ∧ CU T H' cu eU dU nU ∧ CY T H' cu nY gY cY ∧ SP T H' r0 C) ∨ ((0 ≤ z ∧ z ≤ 6) ∧ (0 ≤ a1 ∧ a1 ≤ H r0 9) ∧ (H' r0 9 = 0) ∧ ((xparse B y).1.1 = 0) ∧ (z = (xparse B y).2 0 3) ∧ (H' r0 10 = 0) ∧ (H' r0 6 = (dr : Int)) ∧ (H' r0 7 = (cu : Int)) ∧ (H' r0 8 = 1) ∧ (H' r0 11 = 0) ∧ CU T H' dr (xset (xparse B y).2) (xset (xparse B y).2) (xlots (xset (xparse B y).2)) ∧ CY T H' dr ((xparse B y).2 0 3) (fun _ => 0) 0 ∧ SP T H' r0 (fun a => !(C a))))
set_option maxHeartbeats 4000000 in
theorem u_11 {kt : Nat → Option mc_E} {T : wq_T} {H : wq_H} {r0 : Nat} {a1 : Int} {tp : Nat} {rd : Nat} {cu : Nat} {dr : Nat} {B : Nat → Int} {y : Int} {eU : xD} {dU : xD} {nU : Int} {nY : Int} {gY : Nat → Int} {cY : Int} {C : Nat → Bool} (hW : WT T H) (g0 : T.2.2.2 r0 = some 1) (i1 : (-2147483648) ≤ a1 ∧ a1 ≤ 2147483647) (qtp : H r0 0 = (tp : Int)) (gtp : T.2.2.2 tp = some 2) (qrd : H r0 1 = (rd : Int)) (grd : T.2.2.2 rd = some 3) (qcu : H r0 6 = (cu : Int)) (gcu : T.2.2.2 cu = some 27) (qdr : H r0 7 = (dr : Int)) (gdr : T.2.2.2 dr = some 27) (p0 : a1 = y) (p1 : C cu = true) (p2 : C dr = false) (p3 : dU 0 3 ≤ 6) (p4 : nY ≤ 6) (hTP_tp : TP T H tp B) (hDD_dr : DD T H dr ) (hDE_dr : DE T H dr ) (hCU_cu : CU T H cu eU dU nU) (hCY_cu : CY T H cu nY gY cY) (hSP_r0 : SP T H r0 C) : wpc kt 8 11 [.ref r0, vI a1] T H (uq_11 r0 a1 tp rd cu dr B y eU dU nU nY gY cY C T H) := by
  refine wp_enter e11 (Nat.le_of_ble_eq_true rfl) rfl ?_
  have f0 : wfr [(12, 9), (27, 7), (27, 8), (27, 9), (27, 10), (27, 11), (27, 12), (27, 13), (27, 14), (27, 15), (27, 16), (27, 17), (27, 18), (35, 6), (35, 7), (35, 8), (35, 9), (35, 10), (35, 11), (35, 12), (35, 13), (35, 14), (35, 15), (35, 16), (35, 17), (3, 1), (3, 2), (3, 3), (3, 4), (1, 6), (1, 7), (1, 8), (1, 9), (1, 10), (1, 11), (1, 12), (4, 0), (4, 1), (4, 2), (4, 3), (4, 4), (4, 5), (4, 6), (38, 999), (39, 999), (36, 999), (31, 999), (40, 999), (41, 999), (34, 999), (37, 999), (29, 999), (30, 999), (33, 999), (32, 999)] T H H := wfr.rf
  show wp _ _ 11 0 [(0, .ref r0), (1, vI a1)] [] _ H _
  have u1191 := CU_k hCU_cu
  have b1192 : 0 ≤ H r0 9 ∧ H r0 9 ≤ 900 := hW.box g0 (n := 13) rfl (by decide) rfl
  have b1193 : 0 ≤ H r0 8 ∧ H r0 8 ≤ 1 := hW.box g0 (n := 13) rfl (by decide) rfl
  have b1194 : (-2147483648) ≤ H r0 11 ∧ H r0 11 ≤ 2147483647 := hW.box g0 (n := 13) rfl (by decide) rfl
  have _y1 : (xparse B a1).1.1 = (xparse B y).1.1 := by rw [p0]
  have _y2 : (xparse B a1).1.2.1 = (xparse B y).1.2.1 := by rw [p0]
  have _y3 : (xparse B a1).2 0 3 = (xparse B y).2 0 3 := by rw [p0]
  have pC1 := p1
  have pC2 := p2
  have pC3 := p3
  have pC4 := p4
  refine wp_of e11 c11_0 (rw_iload_n (pc' := 1) (z := a1) rfl rfl ?_)
  refine wp_of e11 c11_1 (rw_if_lt (p1 := 12) (p2 := 4) (by decide) rfl ⟨by omega, by omega⟩ (fun c1195 => ?_) (fun c1195 => ?_))
  · refine wp_of e11 c11_12 (rw_aload_n (pc' := 13) (v := .ref r0) rfl rfl rfl ?_)
    refine wp_of e11 c11_13 (rw_iconst (pc' := 14) rfl ?_)
    refine wp_of e11 c11_14 (xc_V (pc' := 17) (r := r0) (as := [vI 2]) (st := []) (lm_0_70) rfl rfl (Nat.le_of_ble_eq_true rfl) hW g0 sh_1 (by decide) rfl (by decide) (u_12  hW g0 ⟨by omega, by omega⟩) (fun R1196 T1197 H1198 p1199 => ?_))
    obtain ⟨e1200, w1202, f1203, z1204, e1201, b1205, p1206⟩ := p1199
    subst e1200
    subst e1201
    obtain ⟨a1207, a1208⟩ := p1206
    have f1209 := f0.tr f1203 rfl
    show wp _ _ 11 17 [(0, .ref r0), (1, vI a1)] [vI z1204] _ H1198 _
    have k1210 : H1198 r0 6 = H r0 6 := (f1203 r0 6 _ g0 rfl)
    have q1211 : H1198 r0 6 = (cu : Int) := k1210.trans qcu
    have k1212 : H1198 r0 7 = H r0 7 := (f1203 r0 7 _ g0 rfl)
    have q1213 : H1198 r0 7 = (dr : Int) := k1212.trans qdr
    have k1214 : H1198 r0 8 = H r0 8 := (f1203 r0 8 _ g0 rfl)
    have k1215 : H1198 r0 9 = H r0 9 := (f1203 r0 9 _ g0 rfl)
    have k1216 : H1198 r0 11 = H r0 11 := (f1203 r0 11 _ g0 rfl)
    have h1217 : CU T H1198 cu eU dU nU := (CU_fr hW gcu f1203 rfl hCU_cu)
    have h1218 : CY T H1198 cu nY gY cY := (CY_fr hW gcu f1203 rfl hCY_cu)
    have h1219 : SP T H1198 r0 C := (SP_fr hW g0 f1203 rfl hSP_r0)
    exact wp_ireturn e11 c11_17 rfl ⟨rfl, w1202, f1209, z1204, rfl, ⟨by omega, by omega⟩, (Or.inl ⟨by omega, by omega, by omega, by omega, by omega, by omega, by omega, by omega, h1217, h1218, h1219⟩)⟩
  · refine wp_of e11 c11_4 (rw_iload_n (pc' := 5) (z := a1) rfl rfl ?_)
    refine wp_of e11 c11_5 (rw_aload_n (pc' := 6) (v := .ref r0) rfl rfl rfl ?_)
    refine wp_of e11 c11_6 (xg_I (pc' := 9) lf_0_62 hW g0 sh_1 (by decide) (by decide) ty_1_9 rfl rfl (fun b1220 b1221 => ?_))
    refine wp_of e11 c11_9 (rw_icmp_le (p1 := 18) (p2 := 12) (by decide) rfl ⟨by omega, by omega⟩ ⟨by omega, by omega⟩ (fun c1222 => ?_) (fun c1222 => ?_))
    · refine wp_of e11 c11_18 (rw_aload_n (pc' := 19) (v := .ref r0) rfl rfl rfl ?_)
      refine wp_of e11 c11_19 (rw_iconst (pc' := 20) rfl ?_)
      refine wp_of e11 c11_20 (xp_I (pc' := 23) lf_0_62 hW g0 sh_1 (by decide) (by decide) ty_1_9 rfl rfl (by omega) (by omega) ⟨by omega, by omega⟩ rfl (fun H1223 e1224 w1225 => ?_))
      have f1226 := f0.put' e1224 g0 rfl
      have k1227 : H1223 r0 9 = 0 := wq_u_s e1224
      refine wp_of e11 c11_23 (rw_aload_n (pc' := 24) (v := .ref r0) rfl rfl rfl ?_)
      have k1228 : H1223 r0 1 = H r0 1 := (wq_u_j e1224 rfl)
      have q1229 : H1223 r0 1 = (rd : Int) := k1228.trans qrd
      refine wp_of e11 c11_24 (xg_K (pc' := 27) lf_0_16 w1225 g0 sh_1 (by decide) (by decide) rfl q1229 rfl ?_)
      refine wp_of e11 c11_27 (rw_aload_n (pc' := 28) (v := .ref r0) rfl rfl rfl ?_)
      have k1230 : H1223 r0 0 = H r0 0 := (wq_u_j e1224 rfl)
      have q1231 : H1223 r0 0 = (tp : Int) := k1230.trans qtp
      refine wp_of e11 c11_28 (xg_K (pc' := 31) lf_0_9 w1225 g0 sh_1 (by decide) (by decide) rfl q1231 rfl ?_)
      refine wp_of e11 c11_31 (rw_iload_n (pc' := 32) (z := a1) rfl rfl ?_)
      refine wp_of e11 c11_32 (rw_aload_n (pc' := 33) (v := .ref r0) rfl rfl rfl ?_)
      have k1232 : H1223 r0 7 = H r0 7 := (wq_u_j e1224 rfl)
      have q1233 : H1223 r0 7 = (dr : Int) := k1232.trans qdr
      refine wp_of e11 c11_33 (xg_K (pc' := 36) lf_0_55 w1225 g0 sh_1 (by decide) (by decide) rfl q1233 rfl ?_)
      have h1235 : SP T H1223 r0 C := (SP_fr hW g0 ((wfr.rf (l := [(1, 9)])).put' e1224 g0 rfl) rfl hSP_r0)
      have h1234 : SQ T H1223 (C) := SP.sq h1235
      have w1236 := rt_WT w1225 h1234
      obtain ⟨r1237, q1238, g1239⟩ := w1225.ref grd (t' := 4) (n := 5) (j := 0) (p := 0) (q := 0) rfl (by decide) rfl
      have h1240 : TP T H1223 tp B := (TP_fr hW gtp ((wfr.rf (l := [(1, 9)])).put' e1224 g0 rfl) rfl hTP_tp)
      have h1241 : DD T H1223 dr  := (DD_fr hW gdr ((wfr.rf (l := [(1, 9)])).put' e1224 g0 rfl) rfl hDD_dr)
      refine wp_of e11 c11_36 (xc_V (pc' := 39) (r := rd) (as := [.ref tp, vI a1, .ref dr]) (st := []) (lm_0_74) rfl rfl (Nat.le_of_ble_eq_true rfl) w1225 grd sh_3 (by decide) rfl (by decide) (rt_wpc (C := C) (u_13 (T := rtT T (C)) (B := B) w1236 (rtT_k (C := C) grd (rtF_o grd (by decide) (by decide))) (rtT_k (C := C) gtp (rtF_o gtp (by decide) (by decide))) ⟨by omega, by omega⟩ (rtT_k (C := C) gdr (rtF_c gdr (by decide) pC2)) q1238 (rtT_k (C := C) g1239 (rtF_o g1239 (by decide) (by decide))) h1240 (DD_rt gdr h1235 pC2 h1241)) (fun _ _ _ p => p.1)) (fun R1242 T1243 H1244 p1245 => ?_))
      obtain ⟨e1246, -, w1248, f1249, z1254, e1247, b1255, p1250⟩ := p1245
      subst e1246
      subst e1247
      have o1253 := rt_old f1249 rfl
      have f1252 := rt_fr f1249 rfl
      have w1251 := rt_un w1225 w1248 o1253
      rcases p1250 with ⟨a1256, a1257, a1258, a1259, a1260⟩ | ⟨a1261, a1262, a1263, a1264⟩
      · have f1265 := f1226.tr f1252 rfl
        show wp _ _ 11 39 [(0, .ref r0), (1, vI a1)] [vI z1254] _ H1244 _
        have h1266 : DC T H1244 dr ((xparse B a1).2) := DC_un a1259
        have u1267 := DC_k h1266
        have h1268 : CZ T H1244 dr ((xparse B a1).2 0 3) := CZ_un a1260
      have h1269 : CU T H1223 cu eU dU nU := (CU_fr hW gcu ((wfr.rf (l := [(1, 9)])).put' e1224 g0 rfl) rfl hCU_cu)
        have h1270 : CU T H1244 cu eU dU nU := CU_fz w1225 gcu h1235 pC1 o1253 pC3 h1269
      have h1271 : CY T H1223 cu nY gY cY := (CY_fr hW gcu ((wfr.rf (l := [(1, 9)])).put' e1224 g0 rfl) rfl hCY_cu)
        have h1272 : CY T H1244 cu nY gY cY := CY_fz w1225 gcu h1235 pC1 o1253 pC4 h1271
        refine wp_of e11 c11_39 (rw_istore_n (pc' := 40) (z := z1254) (L' := [(2, vI z1254), (0, .ref r0), (1, vI a1)]) rfl rfl rfl ?_)
        refine wp_of e11 c11_40 (rw_aload_n (pc' := 41) (v := .ref r0) rfl rfl rfl ?_)
        refine wp_of e11 c11_41 (rw_aload_n (pc' := 42) (v := .ref r0) rfl rfl rfl ?_)
        have k1273 : H1244 r0 1 = H1223 r0 1 := (f1252 r0 1 _ g0 rfl)
        have q1274 : H1244 r0 1 = (rd : Int) := k1273.trans q1229
        refine wp_of e11 c11_42 (xg_K (pc' := 45) lf_0_16 w1251 g0 sh_1 (by decide) (by decide) rfl q1274 rfl ?_)
        refine wp_of e11 c11_45 (xg_I (pc' := 48) lf_0_78 w1251 grd sh_3 (by decide) (by decide) ty_3_3 rfl rfl (fun b1275 b1276 => ?_))
        refine wp_of e11 c11_48 (xp_I (pc' := 51) lf_0_81 w1251 g0 sh_1 (by decide) (by decide) ty_1_11 rfl rfl (by omega) (by omega) ⟨by omega, by omega⟩ rfl (fun H1277 e1278 w1279 => ?_))
        have f1280 := f1265.put' e1278 g0 rfl
        have k1281 : H1277 r0 11 = H1244 rd 3 := wq_u_s e1278
        refine wp_of e11 c11_51 (rw_aload_n (pc' := 52) (v := .ref r0) rfl rfl rfl ?_)
        refine wp_of e11 c11_52 (rw_aload_n (pc' := 53) (v := .ref r0) rfl rfl rfl ?_)
        have k1282 : H1277 r0 1 = H1244 r0 1 := (wq_u_j e1278 rfl)
        have q1283 : H1277 r0 1 = (rd : Int) := k1282.trans q1274
        refine wp_of e11 c11_53 (xg_K (pc' := 56) lf_0_16 w1279 g0 sh_1 (by decide) (by decide) rfl q1283 rfl ?_)
        refine wp_of e11 c11_56 (xg_I (pc' := 59) lf_0_84 w1279 grd sh_3 (by decide) (by decide) ty_3_4 rfl rfl (fun b1284 b1285 => ?_))
        refine wp_of e11 c11_59 (xp_I (pc' := 62) lf_0_87 w1279 g0 sh_1 (by decide) (by decide) ty_1_12 rfl rfl (by omega) (by omega) ⟨by omega, by omega⟩ rfl (fun H1286 e1287 w1288 => ?_))
        have f1289 := f1280.put' e1287 g0 rfl
        have k1290 : H1286 r0 12 = H1277 rd 4 := wq_u_s e1287
        refine wp_of e11 c11_62 (rw_iload_n (pc' := 63) (z := z1254) rfl rfl ?_)
        refine wp_of e11 c11_63 (rw_if_ne (p1 := 72) (p2 := 66) (by decide) rfl ⟨by omega, by omega⟩ (fun c1291 => ?_) (fun c1291 => ?_))
        · refine wp_of e11 c11_72 (rw_aload_n (pc' := 73) (v := .ref r0) rfl rfl rfl ?_)
          have k1292 : H1286 r0 7 = H1223 r0 7 := ((wq_u_j e1287 rfl).trans ((wq_u_j e1278 rfl).trans (f1252 r0 7 _ g0 rfl)))
          have q1293 : H1286 r0 7 = (dr : Int) := k1292.trans q1233
          refine wp_of e11 c11_73 (xg_K (pc' := 76) lf_0_55 w1288 g0 sh_1 (by decide) (by decide) rfl q1293 rfl ?_)
          have h1294 : DC T H1286 dr ((xparse B a1).2) := (DC_fr w1279 gdr ((wfr.rf (l := [(1, 12)])).put' e1287 g0 rfl) rfl (DC_fr w1251 gdr ((wfr.rf (l := [(1, 11)])).put' e1278 g0 rfl) rfl h1266))
          have h1295 : DD T H1286 dr  := (DD_fr w1279 gdr ((wfr.rf (l := [(1, 12)])).put' e1287 g0 rfl) rfl (DD_fr w1251 gdr ((wfr.rf (l := [(1, 11)])).put' e1278 g0 rfl) rfl (DD_fr w1225 gdr f1252 rfl h1241)))
          have h1296 : DE T H1286 dr  := (DE_fr w1279 gdr ((wfr.rf (l := [(1, 12)])).put' e1287 g0 rfl) rfl (DE_fr w1251 gdr ((wfr.rf (l := [(1, 11)])).put' e1278 g0 rfl) rfl (DE_fr w1225 gdr f1252 rfl (DE_fr hW gdr ((wfr.rf (l := [(1, 9)])).put' e1224 g0 rfl) rfl hDE_dr))))
          have h1297 : CZ T H1286 dr ((xparse B a1).2 0 3) := (CZ_fr w1279 gdr ((wfr.rf (l := [(1, 12)])).put' e1287 g0 rfl) rfl (CZ_fr w1251 gdr ((wfr.rf (l := [(1, 11)])).put' e1278 g0 rfl) rfl h1268))
          refine wp_of e11 c11_76 (xc_V (pc' := 79) (r := dr) (as := []) (st := []) (lm_0_90) rfl rfl (Nat.le_of_ble_eq_true rfl) w1288 gdr sh_27 (by decide) rfl (by decide) (u_44 (d := ((xparse B a1).2)) w1288 gdr (xdP_parse (by omega)) h1294 h1295 h1296 h1297) (fun R1298 T1299 H1300 p1301 => ?_))
          obtain ⟨e1302, w1304, f1305, e1303, p1306⟩ := p1301
          subst e1302
          subst e1303
          obtain ⟨a1307, a1308⟩ := p1306
          have f1309 := f1289.tr f1305 rfl
          show wp _ _ 11 79 [(2, vI z1254), (0, .ref r0), (1, vI a1)] [] _ H1300 _
          have u1310 := CU_k a1307
          refine wp_of e11 c11_79 (rw_aload_n (pc' := 80) (v := .ref r0) rfl rfl rfl ?_)
          have k1311 : H1300 r0 6 = H r0 6 := ((f1305 r0 6 _ g0 rfl).trans ((wq_u_j e1287 rfl).trans ((wq_u_j e1278 rfl).trans ((f1252 r0 6 _ g0 rfl).trans (wq_u_j e1224 rfl)))))
          have q1312 : H1300 r0 6 = (cu : Int) := k1311.trans qcu
          refine wp_of e11 c11_80 (xg_K (pc' := 83) lf_0_51 w1304 g0 sh_1 (by decide) (by decide) rfl q1312 rfl ?_)
          refine wp_of e11 c11_83 (rw_astore_n (pc' := 84) (v := .ref cu) (L' := [(3, .ref cu), (2, vI z1254), (0, .ref r0), (1, vI a1)]) rfl rfl rfl rfl ?_)
          refine wp_of e11 c11_84 (rw_aload_n (pc' := 85) (v := .ref r0) rfl rfl rfl ?_)
          refine wp_of e11 c11_85 (rw_aload_n (pc' := 86) (v := .ref r0) rfl rfl rfl ?_)
          have k1313 : H1300 r0 7 = H1286 r0 7 := (f1305 r0 7 _ g0 rfl)
          have q1314 : H1300 r0 7 = (dr : Int) := k1313.trans q1293
          refine wp_of e11 c11_86 (xg_K (pc' := 89) lf_0_55 w1304 g0 sh_1 (by decide) (by decide) rfl q1314 rfl ?_)
          refine wp_of e11 c11_89 (xp_R (pc' := 92) lf_0_51 w1304 g0 sh_1 (by decide) (by decide) rfl rfl (wok_2 ty_1_6 gdr) rfl (fun H1315 e1316 w1317 => ?_))
          have f1318 := f1309.put' e1316 g0 rfl
          have q1319 : H1315 r0 6 = (dr : Int) := wq_u_s e1316
          refine wp_of e11 c11_92 (rw_aload_n (pc' := 93) (v := .ref r0) rfl rfl rfl ?_)
          refine wp_of e11 c11_93 (rw_aload_n (pc' := 94) (v := .ref cu) rfl rfl rfl ?_)
          refine wp_of e11 c11_94 (xp_R (pc' := 97) lf_0_55 w1317 g0 sh_1 (by decide) (by decide) rfl rfl (wok_2 ty_1_7 gcu) rfl (fun H1320 e1321 w1322 => ?_))
          have f1323 := f1318.put' e1321 g0 rfl
          have q1324 : H1320 r0 7 = (cu : Int) := wq_u_s e1321
          refine wp_of e11 c11_97 (rw_aload_n (pc' := 98) (v := .ref r0) rfl rfl rfl ?_)
          refine wp_of e11 c11_98 (rw_iconst (pc' := 99) rfl ?_)
          refine wp_of e11 c11_99 (xp_Z (pc' := 102) lf_0_58 w1322 g0 sh_1 (by decide) (by decide) ty_1_8 rfl rfl (by omega) (by omega) rfl (fun H1325 e1326 w1327 => ?_))
          have f1328 := f1323.put' e1326 g0 rfl
          have k1329 : H1325 r0 8 = 1 := wq_u_s e1326
          refine wp_of e11 c11_102 (rw_aload_n (pc' := 103) (v := .ref r0) rfl rfl rfl ?_)
          refine wp_of e11 c11_103 (xg_R (pc' := 106) lf_0_30 w1327 g0 sh_1 (by decide) (by decide) ty_1_3 rfl rfl (fun r1330 q1331 g1332 => ?_))
          refine wp_of e11 c11_106 (xc_V (pc' := 109) (r := r1330) (as := []) (st := []) (lm_0_93) rfl rfl (Nat.le_of_ble_eq_true rfl) w1327 g1332 sh_12 (by decide) rfl (by decide) (s_50 w1327 g1332) (fun R1333 T1334 H1335 p1336 => ?_))
          obtain ⟨e1337, w1339, f1340, e1338⟩ := p1336
          subst e1337
          subst e1338
          have f1341 := f1328.tr f1340 rfl
          show wp _ _ 11 109 [(3, .ref cu), (2, vI z1254), (0, .ref r0), (1, vI a1)] [] _ H1335 _
          refine wp_of e11 c11_109 (rw_aload_n (pc' := 110) (v := .ref r0) rfl rfl rfl ?_)
          refine wp_of e11 c11_110 (rw_aload_n (pc' := 111) (v := .ref r0) rfl rfl rfl ?_)
          have k1342 : H1335 r0 6 = H1315 r0 6 := ((f1340 r0 6 _ g0 rfl).trans ((wq_u_j e1326 rfl).trans (wq_u_j e1321 rfl)))
          have q1343 : H1335 r0 6 = (dr : Int) := k1342.trans q1319
          refine wp_of e11 c11_111 (xg_K (pc' := 114) lf_0_51 w1339 g0 sh_1 (by decide) (by decide) rfl q1343 rfl ?_)
          have k1344 : H1335 dr 10 = H1300 dr 10 := ((f1340 dr 10 _ gdr rfl).trans ((wq_u_t e1326 g0 gdr rfl 10).trans ((wq_u_t e1321 g0 gdr rfl 10).trans (wq_u_t e1316 g0 gdr rfl 10))))
          refine wp_of e11 c11_114 (xg_I (pc' := 117) lf_0_96 w1339 gdr sh_27 (by decide) (by decide) ty_27_10 rfl rfl (fun b1345 b1346 => ?_))
          refine wp_of e11 c11_117 (xc_V (pc' := 120) (r := r0) (as := [vI (H1335 dr 10)]) (st := []) (lm_0_99) rfl rfl (Nat.le_of_ble_eq_true rfl) w1339 g0 sh_1 (by decide) rfl (by decide) (u_51  w1339 g0 ⟨by omega, by omega⟩) (fun R1347 T1348 H1349 p1350 => ?_))
          obtain ⟨e1351, w1353, f1354, z1355, e1352, b1356, p1357⟩ := p1350
          subst e1351
          subst e1352
          obtain ⟨a1358, a1359⟩ := p1357
          have f1360 := f1341.tr f1354 rfl
          show wp _ _ 11 120 [(3, .ref cu), (2, vI z1254), (0, .ref r0), (1, vI a1)] [vI z1355] _ H1349 _
          have k1361 : H1349 r0 6 = H1335 r0 6 := (f1354 r0 6 _ g0 rfl)
          have q1362 : H1349 r0 6 = (dr : Int) := k1361.trans q1343
          have k1363 : H1349 r0 7 = H1320 r0 7 := ((f1354 r0 7 _ g0 rfl).trans ((f1340 r0 7 _ g0 rfl).trans (wq_u_j e1326 rfl)))
          have q1364 : H1349 r0 7 = (cu : Int) := k1363.trans q1324
          have k1365 : H1349 r0 8 = H1325 r0 8 := ((f1354 r0 8 _ g0 rfl).trans (f1340 r0 8 _ g0 rfl))
          have k1366 : H1349 r0 9 = H1223 r0 9 := ((f1354 r0 9 _ g0 rfl).trans ((f1340 r0 9 _ g0 rfl).trans ((wq_u_j e1326 rfl).trans ((wq_u_j e1321 rfl).trans ((wq_u_j e1316 rfl).trans ((f1305 r0 9 _ g0 rfl).trans ((wq_u_j e1287 rfl).trans ((wq_u_j e1278 rfl).trans (f1252 r0 9 _ g0 rfl)))))))))
          have k1367 : H1349 r0 11 = H1277 r0 11 := ((f1354 r0 11 _ g0 rfl).trans ((f1340 r0 11 _ g0 rfl).trans ((wq_u_j e1326 rfl).trans ((wq_u_j e1321 rfl).trans ((wq_u_j e1316 rfl).trans ((f1305 r0 11 _ g0 rfl).trans (wq_u_j e1287 rfl)))))))
          have k1368 : H1349 r0 12 = H1286 r0 12 := ((f1354 r0 12 _ g0 rfl).trans ((f1340 r0 12 _ g0 rfl).trans ((wq_u_j e1326 rfl).trans ((wq_u_j e1321 rfl).trans ((wq_u_j e1316 rfl).trans (f1305 r0 12 _ g0 rfl))))))
          have h1369 : CU T H1349 dr (xset ((xparse B a1).2)) (xset ((xparse B a1).2)) (xlots (xset ((xparse B a1).2))) := (CU_fr w1339 gdr f1354 rfl (CU_fr w1327 gdr f1340 rfl (CU_fr w1322 gdr ((wfr.rf (l := [(1, 8)])).put' e1326 g0 rfl) rfl (CU_fr w1317 gdr ((wfr.rf (l := [(1, 7)])).put' e1321 g0 rfl) rfl (CU_fr w1304 gdr ((wfr.rf (l := [(1, 6)])).put' e1316 g0 rfl) rfl a1307)))))
          have h1370 : CY T H1349 dr (((xparse B a1).2) 0 3) (fun _ => 0) 0 := (CY_fr w1339 gdr f1354 rfl (CY_fr w1327 gdr f1340 rfl (CY_fr w1322 gdr ((wfr.rf (l := [(1, 8)])).put' e1326 g0 rfl) rfl (CY_fr w1317 gdr ((wfr.rf (l := [(1, 7)])).put' e1321 g0 rfl) rfl (CY_fr w1304 gdr ((wfr.rf (l := [(1, 6)])).put' e1316 g0 rfl) rfl a1308)))))
          have h1371 : SP T H1349 r0 C := (SP_fr w1339 g0 f1354 rfl (SP_fr w1327 g0 f1340 rfl (SP_fr w1322 g0 ((wfr.rf (l := [(1, 8)])).put' e1326 g0 rfl) rfl (SP_fr w1317 g0 ((wfr.rf (l := [(1, 7)])).put' e1321 g0 rfl) rfl (SP_fr w1304 g0 ((wfr.rf (l := [(1, 6)])).put' e1316 g0 rfl) rfl (SP_fr w1288 g0 f1305 rfl (SP_fr w1279 g0 ((wfr.rf (l := [(1, 12)])).put' e1287 g0 rfl) rfl (SP_fr w1251 g0 ((wfr.rf (l := [(1, 11)])).put' e1278 g0 rfl) rfl (SP_fr w1225 g0 f1252 rfl h1235)))))))))
          exact wp_ireturn e11 c11_120 rfl ⟨rfl, w1353, f1360, z1355, rfl, ⟨by omega, by omega⟩, (Or.inr (Or.inr ⟨by omega, by omega, by omega, by omega, by omega, by omega, by omega, by omega, by omega, by omega, by rw [← p0]; exact h1369, by rw [← p0]; exact h1370, SP_not h1371⟩))⟩
        · exfalso
          omega
      · have f1372 := f1226.tr f1252 rfl
        show wp _ _ 11 39 [(0, .ref r0), (1, vI a1)] [vI z1254] _ H1244 _
        have h1373 : CU T H1244 cu eU dU nU := CU_fz w1225 gcu h1235 pC1 o1253 pC3 h1269
        have h1374 : CY T H1244 cu nY gY cY := CY_fz w1225 gcu h1235 pC1 o1253 pC4 h1271
        refine wp_of e11 c11_39 (rw_istore_n (pc' := 40) (z := z1254) (L' := [(2, vI z1254), (0, .ref r0), (1, vI a1)]) rfl rfl rfl ?_)
        refine wp_of e11 c11_40 (rw_aload_n (pc' := 41) (v := .ref r0) rfl rfl rfl ?_)
        refine wp_of e11 c11_41 (rw_aload_n (pc' := 42) (v := .ref r0) rfl rfl rfl ?_)
        have k1375 : H1244 r0 1 = H1223 r0 1 := (f1252 r0 1 _ g0 rfl)
        have q1376 : H1244 r0 1 = (rd : Int) := k1375.trans q1229
        refine wp_of e11 c11_42 (xg_K (pc' := 45) lf_0_16 w1251 g0 sh_1 (by decide) (by decide) rfl q1376 rfl ?_)
        refine wp_of e11 c11_45 (xg_I (pc' := 48) lf_0_78 w1251 grd sh_3 (by decide) (by decide) ty_3_3 rfl rfl (fun b1377 b1378 => ?_))
        refine wp_of e11 c11_48 (xp_I (pc' := 51) lf_0_81 w1251 g0 sh_1 (by decide) (by decide) ty_1_11 rfl rfl (by omega) (by omega) ⟨by omega, by omega⟩ rfl (fun H1379 e1380 w1381 => ?_))
        have f1382 := f1372.put' e1380 g0 rfl
        have k1383 : H1379 r0 11 = H1244 rd 3 := wq_u_s e1380
        refine wp_of e11 c11_51 (rw_aload_n (pc' := 52) (v := .ref r0) rfl rfl rfl ?_)
        refine wp_of e11 c11_52 (rw_aload_n (pc' := 53) (v := .ref r0) rfl rfl rfl ?_)
        have k1384 : H1379 r0 1 = H1244 r0 1 := (wq_u_j e1380 rfl)
        have q1385 : H1379 r0 1 = (rd : Int) := k1384.trans q1376
        refine wp_of e11 c11_53 (xg_K (pc' := 56) lf_0_16 w1381 g0 sh_1 (by decide) (by decide) rfl q1385 rfl ?_)
        have k1386 : H1379 rd 4 = H1244 rd 4 := (wq_u_t e1380 g0 grd rfl 4)
        refine wp_of e11 c11_56 (xg_I (pc' := 59) lf_0_84 w1381 grd sh_3 (by decide) (by decide) ty_3_4 rfl rfl (fun b1387 b1388 => ?_))
        refine wp_of e11 c11_59 (xp_I (pc' := 62) lf_0_87 w1381 g0 sh_1 (by decide) (by decide) ty_1_12 rfl rfl (by omega) (by omega) ⟨by omega, by omega⟩ rfl (fun H1389 e1390 w1391 => ?_))
        have f1392 := f1382.put' e1390 g0 rfl
        have k1393 : H1389 r0 12 = H1379 rd 4 := wq_u_s e1390
        refine wp_of e11 c11_62 (rw_iload_n (pc' := 63) (z := z1254) rfl rfl ?_)
        refine wp_of e11 c11_63 (rw_if_ne (p1 := 72) (p2 := 66) (by decide) rfl ⟨by omega, by omega⟩ (fun c1394 => ?_) (fun c1394 => ?_))
        · exfalso
          omega
        · refine wp_of e11 c11_66 (rw_aload_n (pc' := 67) (v := .ref r0) rfl rfl rfl ?_)
          refine wp_of e11 c11_67 (rw_iconst (pc' := 68) rfl ?_)
          refine wp_of e11 c11_68 (xc_V (pc' := 71) (r := r0) (as := [vI 4]) (st := []) (lm_0_70) rfl rfl (Nat.le_of_ble_eq_true rfl) w1391 g0 sh_1 (by decide) rfl (by decide) (u_12  w1391 g0 ⟨by omega, by omega⟩) (fun R1395 T1396 H1397 p1398 => ?_))
          obtain ⟨e1399, w1401, f1402, z1403, e1400, b1404, p1405⟩ := p1398
          subst e1399
          subst e1400
          obtain ⟨a1406, a1407⟩ := p1405
          have f1408 := f1392.tr f1402 rfl
          show wp _ _ 11 71 [(2, vI z1254), (0, .ref r0), (1, vI a1)] [vI z1403] _ H1397 _
          have k1409 : H1397 r0 6 = H r0 6 := ((f1402 r0 6 _ g0 rfl).trans ((wq_u_j e1390 rfl).trans ((wq_u_j e1380 rfl).trans ((f1252 r0 6 _ g0 rfl).trans (wq_u_j e1224 rfl)))))
          have q1410 : H1397 r0 6 = (cu : Int) := k1409.trans qcu
          have k1411 : H1397 r0 7 = H1223 r0 7 := ((f1402 r0 7 _ g0 rfl).trans ((wq_u_j e1390 rfl).trans ((wq_u_j e1380 rfl).trans (f1252 r0 7 _ g0 rfl))))
          have q1412 : H1397 r0 7 = (dr : Int) := k1411.trans q1233
          have k1413 : H1397 r0 8 = H r0 8 := ((f1402 r0 8 _ g0 rfl).trans ((wq_u_j e1390 rfl).trans ((wq_u_j e1380 rfl).trans ((f1252 r0 8 _ g0 rfl).trans (wq_u_j e1224 rfl)))))
          have k1414 : H1397 r0 9 = H1223 r0 9 := ((f1402 r0 9 _ g0 rfl).trans ((wq_u_j e1390 rfl).trans ((wq_u_j e1380 rfl).trans (f1252 r0 9 _ g0 rfl))))
          have k1415 : H1397 r0 11 = H1379 r0 11 := ((f1402 r0 11 _ g0 rfl).trans (wq_u_j e1390 rfl))
          have k1416 : H1397 r0 12 = H1389 r0 12 := (f1402 r0 12 _ g0 rfl)
          have h1417 : CU T H1397 cu eU dU nU := (CU_fr w1391 gcu f1402 rfl (CU_fr w1381 gcu ((wfr.rf (l := [(1, 12)])).put' e1390 g0 rfl) rfl (CU_fr w1251 gcu ((wfr.rf (l := [(1, 11)])).put' e1380 g0 rfl) rfl h1373)))
          have h1418 : CY T H1397 cu nY gY cY := (CY_fr w1391 gcu f1402 rfl (CY_fr w1381 gcu ((wfr.rf (l := [(1, 12)])).put' e1390 g0 rfl) rfl (CY_fr w1251 gcu ((wfr.rf (l := [(1, 11)])).put' e1380 g0 rfl) rfl h1374)))
          have h1419 : SP T H1397 r0 C := (SP_fr w1391 g0 f1402 rfl (SP_fr w1381 g0 ((wfr.rf (l := [(1, 12)])).put' e1390 g0 rfl) rfl (SP_fr w1251 g0 ((wfr.rf (l := [(1, 11)])).put' e1380 g0 rfl) rfl (SP_fr w1225 g0 f1252 rfl h1235))))
          exact wp_ireturn e11 c11_71 rfl ⟨rfl, w1401, f1408, z1403, rfl, ⟨by omega, by omega⟩, (Or.inr (Or.inl ⟨by omega, by omega, by omega, by omega, by omega, by omega, by omega, by omega, by omega, by omega, h1417, h1418, h1419⟩))⟩
    · refine wp_of e11 c11_12 (rw_aload_n (pc' := 13) (v := .ref r0) rfl rfl rfl ?_)
      refine wp_of e11 c11_13 (rw_iconst (pc' := 14) rfl ?_)
      refine wp_of e11 c11_14 (xc_V (pc' := 17) (r := r0) (as := [vI 2]) (st := []) (lm_0_70) rfl rfl (Nat.le_of_ble_eq_true rfl) hW g0 sh_1 (by decide) rfl (by decide) (u_12  hW g0 ⟨by omega, by omega⟩) (fun R1420 T1421 H1422 p1423 => ?_))
      obtain ⟨e1424, w1426, f1427, z1428, e1425, b1429, p1430⟩ := p1423
      subst e1424
      subst e1425
      obtain ⟨a1431, a1432⟩ := p1430
      have f1433 := f0.tr f1427 rfl
      show wp _ _ 11 17 [(0, .ref r0), (1, vI a1)] [vI z1428] _ H1422 _
      have k1434 : H1422 r0 6 = H r0 6 := (f1427 r0 6 _ g0 rfl)
      have q1435 : H1422 r0 6 = (cu : Int) := k1434.trans qcu
      have k1436 : H1422 r0 7 = H r0 7 := (f1427 r0 7 _ g0 rfl)
      have q1437 : H1422 r0 7 = (dr : Int) := k1436.trans qdr
      have k1438 : H1422 r0 8 = H r0 8 := (f1427 r0 8 _ g0 rfl)
      have k1439 : H1422 r0 9 = H r0 9 := (f1427 r0 9 _ g0 rfl)
      have k1440 : H1422 r0 11 = H r0 11 := (f1427 r0 11 _ g0 rfl)
      have h1441 : CU T H1422 cu eU dU nU := (CU_fr hW gcu f1427 rfl hCU_cu)
      have h1442 : CY T H1422 cu nY gY cY := (CY_fr hW gcu f1427 rfl hCY_cu)
      have h1443 : SP T H1422 r0 C := (SP_fr hW g0 f1427 rfl hSP_r0)
      exact wp_ireturn e11 c11_17 rfl ⟨rfl, w1426, f1433, z1428, rfl, ⟨by omega, by omega⟩, (Or.inl ⟨by omega, by omega, by omega, by omega, by omega, by omega, by omega, by omega, h1441, h1442, h1443⟩)⟩
/-! StrikeAwake.fault()I  -/
abbrev uq_52 (r0 : Nat) (T : wq_T) (H : wq_H) : Option Value → wq_T → wq_H → Prop := fun r T' H' => T = T' ∧ H = H' ∧ ∃ z : Int, some (vI z) = r ∧ ((-2147483648) ≤ z ∧ z ≤ 2147483647) ∧ (((z = H r0 11)))
set_option maxHeartbeats 4000000 in
theorem u_52 {kt : Nat → Option mc_E} {T : wq_T} {H : wq_H} {r0 : Nat} (hW : WT T H) (g0 : T.2.2.2 r0 = some 1) : wpc kt 1 52 [.ref r0] T H (uq_52 r0 T H) := by
  refine wp_enter e52 (Nat.le_of_ble_eq_true rfl) rfl ?_
  show wp _ _ 52 0 [(0, .ref r0)] [] _ H _
  refine wp_of e52 c52_0 (rw_aload_n (pc' := 1) (v := .ref r0) rfl rfl rfl ?_)
  refine wp_of e52 c52_1 (xg_I (pc' := 4) lf_0_81 hW g0 sh_1 (by decide) (by decide) ty_1_11 rfl rfl (fun b1003 b1004 => ?_))
  exact wp_ireturn e52 c52_4 rfl ⟨rfl, rfl, H r0 11, rfl, ⟨by omega, by omega⟩, (by omega)⟩
/-! StrikeAwake.deny(I)Z  -/
abbrev uq_63 (r0 : Nat) (a1 : Int) (T : wq_T) (H : wq_H) : Option Value → wq_T → wq_H → Prop := fun r T' H' => T = T' ∧ WT T H' ∧ wfr [(1, 10)] T H H' ∧ ∃ z : Int, some (vI z) = r ∧ (0 ≤ z ∧ z ≤ 1) ∧ (((z = 0) ∧ (H' r0 10 = a1)))
set_option maxHeartbeats 4000000 in
theorem u_63 {kt : Nat → Option mc_E} {T : wq_T} {H : wq_H} {r0 : Nat} {a1 : Int} (hW : WT T H) (g0 : T.2.2.2 r0 = some 1) (i1 : (-2147483648) ≤ a1 ∧ a1 ≤ 2147483647) : wpc kt 1 63 [.ref r0, vI a1] T H (uq_63 r0 a1 T H) := by
  refine wp_enter e63 (Nat.le_of_ble_eq_true rfl) rfl ?_
  have f0 : wfr [(1, 10)] T H H := wfr.rf
  show wp _ _ 63 0 [(0, .ref r0), (1, vI a1)] [] _ H _
  refine wp_of e63 c63_0 (rw_aload_n (pc' := 1) (v := .ref r0) rfl rfl rfl ?_)
  refine wp_of e63 c63_1 (rw_iload_n (pc' := 2) (z := a1) rfl rfl ?_)
  refine wp_of e63 c63_2 (xp_I (pc' := 5) lf_0_102 hW g0 sh_1 (by decide) (by decide) ty_1_10 rfl rfl (by omega) (by omega) ⟨by omega, by omega⟩ rfl (fun H1006 e1007 w1008 => ?_))
  have f1009 := f0.put' e1007 g0 rfl
  have k1010 : H1006 r0 10 = a1 := wq_u_s e1007
  refine wp_of e63 c63_5 (rw_iconst (pc' := 6) rfl ?_)
  exact wp_zreturn e63 c63_6 rfl (by omega) ⟨rfl, w1008, f1009, 0, rfl, ⟨by omega, by omega⟩, ⟨by omega, by omega⟩⟩
/-! StrikeAwake.grant()Z  -/
abbrev uq_64 (r0 : Nat) (T : wq_T) (H : wq_H) : Option Value → wq_T → wq_H → Prop := fun r T' H' => T = T' ∧ WT T H' ∧ wfr [(1, 10)] T H H' ∧ ∃ z : Int, some (vI z) = r ∧ (0 ≤ z ∧ z ≤ 1) ∧ (((z = 1) ∧ (H' r0 10 = 0)))
set_option maxHeartbeats 4000000 in
theorem u_64 {kt : Nat → Option mc_E} {T : wq_T} {H : wq_H} {r0 : Nat} (hW : WT T H) (g0 : T.2.2.2 r0 = some 1) : wpc kt 1 64 [.ref r0] T H (uq_64 r0 T H) := by
  refine wp_enter e64 (Nat.le_of_ble_eq_true rfl) rfl ?_
  have f0 : wfr [(1, 10)] T H H := wfr.rf
  show wp _ _ 64 0 [(0, .ref r0)] [] _ H _
  refine wp_of e64 c64_0 (rw_aload_n (pc' := 1) (v := .ref r0) rfl rfl rfl ?_)
  refine wp_of e64 c64_1 (rw_iconst (pc' := 2) rfl ?_)
  refine wp_of e64 c64_2 (xp_I (pc' := 5) lf_0_102 hW g0 sh_1 (by decide) (by decide) ty_1_10 rfl rfl (by omega) (by omega) ⟨by omega, by omega⟩ rfl (fun H1006 e1007 w1008 => ?_))
  have f1009 := f0.put' e1007 g0 rfl
  have k1010 : H1006 r0 10 = 0 := wq_u_s e1007
  refine wp_of e64 c64_5 (rw_iconst (pc' := 6) rfl ?_)
  exact wp_zreturn e64 c64_6 rfl (by omega) ⟨rfl, w1008, f1009, 1, rfl, ⟨by omega, by omega⟩, ⟨by omega, by omega⟩⟩
/-! StrikeAwake.again()Z  -/
abbrev uq_158 (r0 : Nat) (T : wq_T) (H : wq_H) : Option Value → wq_T → wq_H → Prop := fun r T' H' => T = T' ∧ WT T H' ∧ wfr [(27, 17), (1, 10)] T H H' ∧ ∃ z : Int, some (vI z) = r ∧ (0 ≤ z ∧ z ≤ 1) ∧ (((z = 1) ∧ (H r0 8 = 1)) ∨ ((z = 0) ∧ (H r0 8 = 0)))
set_option maxHeartbeats 4000000 in
theorem u_158 {kt : Nat → Option mc_E} {T : wq_T} {H : wq_H} {r0 : Nat} (hW : WT T H) (g0 : T.2.2.2 r0 = some 1) : wpc kt 2 158 [.ref r0] T H (uq_158 r0 T H) := by
  refine wp_enter e158 (Nat.le_of_ble_eq_true rfl) rfl ?_
  have f0 : wfr [(27, 17), (1, 10)] T H H := wfr.rf
  show wp _ _ 158 0 [(0, .ref r0)] [] _ H _
  have b1040 : 0 ≤ H r0 8 ∧ H r0 8 ≤ 1 := hW.box g0 (n := 13) rfl (by decide) rfl
  refine wp_of e158 c158_0 (rw_aload_n (pc' := 1) (v := .ref r0) rfl rfl rfl ?_)
  refine wp_of e158 c158_1 (xg_I (pc' := 4) lf_0_58 hW g0 sh_1 (by decide) (by decide) ty_1_8 rfl rfl (fun b1041 b1042 => ?_))
  refine wp_of e158 c158_4 (rw_if_ne (p1 := 13) (p2 := 7) (by decide) rfl ⟨by omega, by omega⟩ (fun c1043 => ?_) (fun c1043 => ?_))
  · refine wp_of e158 c158_13 (rw_aload_n (pc' := 14) (v := .ref r0) rfl rfl rfl ?_)
    refine wp_of e158 c158_14 (xg_R (pc' := 17) lf_0_51 hW g0 sh_1 (by decide) (by decide) ty_1_6 rfl rfl (fun r1044 q1045 g1046 => ?_))
    refine wp_of e158 c158_17 (rw_iconst (pc' := 18) rfl ?_)
    refine wp_of e158 c158_18 (xp_I (pc' := 21) lf_0_298 hW g1046 sh_27 (by decide) (by decide) ty_27_17 rfl rfl (by omega) (by omega) ⟨by omega, by omega⟩ rfl (fun H1047 e1048 w1049 => ?_))
    have f1050 := f0.put' e1048 g1046 rfl
    have k1051 : H1047 r1044 17 = 0 := wq_u_s e1048
    refine wp_of e158 c158_21 (rw_aload_n (pc' := 22) (v := .ref r0) rfl rfl rfl ?_)
    refine wp_of e158 c158_22 (xc_V (pc' := 25) (r := r0) (as := []) (st := []) (lm_0_151) rfl rfl (Nat.le_of_ble_eq_true rfl) w1049 g0 sh_1 (by decide) rfl (by decide) (u_64  w1049 g0) (fun R1052 T1053 H1054 p1055 => ?_))
    obtain ⟨e1056, w1058, f1059, z1060, e1057, b1061, p1062⟩ := p1055
    subst e1056
    subst e1057
    obtain ⟨a1063, a1064⟩ := p1062
    have f1065 := f1050.tr f1059 rfl
    show wp _ _ 158 25 [(0, .ref r0)] [vI z1060] _ H1054 _
    exact wp_zreturn e158 c158_25 rfl (by omega) ⟨rfl, w1058, f1065, z1060, rfl, ⟨by omega, by omega⟩, (Or.inl ⟨by omega, by omega⟩)⟩
  · refine wp_of e158 c158_7 (rw_aload_n (pc' := 8) (v := .ref r0) rfl rfl rfl ?_)
    refine wp_of e158 c158_8 (rw_iconst (pc' := 9) rfl ?_)
    refine wp_of e158 c158_9 (xc_V (pc' := 12) (r := r0) (as := [vI 1]) (st := []) (lm_0_145) rfl rfl (Nat.le_of_ble_eq_true rfl) hW g0 sh_1 (by decide) rfl (by decide) (u_63  hW g0 ⟨by omega, by omega⟩) (fun R1066 T1067 H1068 p1069 => ?_))
    obtain ⟨e1070, w1072, f1073, z1074, e1071, b1075, p1076⟩ := p1069
    subst e1070
    subst e1071
    obtain ⟨a1077, a1078⟩ := p1076
    have f1079 := f0.tr f1073 rfl
    show wp _ _ 158 12 [(0, .ref r0)] [vI z1074] _ H1068 _
    exact wp_zreturn e158 c158_12 rfl (by omega) ⟨rfl, w1072, f1079, z1074, rfl, ⟨by omega, by omega⟩, (Or.inr ⟨by omega, by omega⟩)⟩
/-! StrikeAwake.isPerson(I)Z  -/
abbrev uq_55 (r0 : Nat) (a1 : Int) (cu : Nat) (T : wq_T) (H : wq_H) : Option Value → wq_T → wq_H → Prop := fun r T' H' => T = T' ∧ H = H' ∧ ∃ z : Int, some (vI z) = r ∧ (0 ≤ z ∧ z ≤ 1) ∧ (((z = 1) ∧ (0 ≤ a1 ∧ a1 < H cu 10)) ∨ ((z = 0) ∧ (a1 < 0 ∨ H cu 10 ≤ a1)))
set_option maxHeartbeats 4000000 in
theorem u_55 {kt : Nat → Option mc_E} {T : wq_T} {H : wq_H} {r0 : Nat} {a1 : Int} {cu : Nat} (hW : WT T H) (g0 : T.2.2.2 r0 = some 1) (i1 : (-2147483648) ≤ a1 ∧ a1 ≤ 2147483647) (qcu : H r0 6 = (cu : Int)) (gcu : T.2.2.2 cu = some 27) : wpc kt 1 55 [.ref r0, vI a1] T H (uq_55 r0 a1 cu T H) := by
  refine wp_enter e55 (Nat.le_of_ble_eq_true rfl) rfl ?_
  show wp _ _ 55 0 [(0, .ref r0), (1, vI a1)] [] _ H _
  refine wp_of e55 c55_0 (rw_iload_n (pc' := 1) (z := a1) rfl rfl ?_)
  refine wp_of e55 c55_1 (rw_if_lt (p1 := 19) (p2 := 4) (by decide) rfl ⟨by omega, by omega⟩ (fun c1005 => ?_) (fun c1005 => ?_))
  · refine wp_of e55 c55_19 (rw_iconst (pc' := 20) rfl ?_)
    exact wp_zreturn e55 c55_20 rfl (by omega) ⟨rfl, rfl, 0, rfl, ⟨by omega, by omega⟩, (Or.inr ⟨by omega, by omega⟩)⟩
  · refine wp_of e55 c55_4 (rw_iload_n (pc' := 5) (z := a1) rfl rfl ?_)
    refine wp_of e55 c55_5 (rw_aload_n (pc' := 6) (v := .ref r0) rfl rfl rfl ?_)
    refine wp_of e55 c55_6 (xg_K (pc' := 9) lf_0_51 hW g0 sh_1 (by decide) (by decide) rfl qcu rfl ?_)
    refine wp_of e55 c55_9 (xg_I (pc' := 12) lf_0_96 hW gcu sh_27 (by decide) (by decide) ty_27_10 rfl rfl (fun b1006 b1007 => ?_))
    refine wp_of e55 c55_12 (rw_icmp_ge (p1 := 19) (p2 := 15) (by decide) rfl ⟨by omega, by omega⟩ ⟨by omega, by omega⟩ (fun c1008 => ?_) (fun c1008 => ?_))
    · refine wp_of e55 c55_19 (rw_iconst (pc' := 20) rfl ?_)
      exact wp_zreturn e55 c55_20 rfl (by omega) ⟨rfl, rfl, 0, rfl, ⟨by omega, by omega⟩, (Or.inr ⟨by omega, by omega⟩)⟩
    · refine wp_of e55 c55_15 (rw_iconst (pc' := 16) rfl ?_)
      refine wp_of e55 c55_16 (rw_goto (p1 := 20) (by decide) ?_)
      exact wp_zreturn e55 c55_20 rfl (by omega) ⟨rfl, rfl, 1, rfl, ⟨by omega, by omega⟩, (Or.inl ⟨by omega, by omega⟩)⟩
/-! StrikeAwake.isHour(I)Z  -/
abbrev uq_60 (r0 : Nat) (a1 : Int) (cu : Nat) (T : wq_T) (H : wq_H) : Option Value → wq_T → wq_H → Prop := fun r T' H' => T = T' ∧ H = H' ∧ ∃ z : Int, some (vI z) = r ∧ (0 ≤ z ∧ z ≤ 1) ∧ (((z = 1) ∧ (0 ≤ a1 ∧ a1 < H cu 7)) ∨ ((z = 0) ∧ (a1 < 0 ∨ H cu 7 ≤ a1)))
set_option maxHeartbeats 4000000 in
theorem u_60 {kt : Nat → Option mc_E} {T : wq_T} {H : wq_H} {r0 : Nat} {a1 : Int} {cu : Nat} (hW : WT T H) (g0 : T.2.2.2 r0 = some 1) (i1 : (-2147483648) ≤ a1 ∧ a1 ≤ 2147483647) (qcu : H r0 6 = (cu : Int)) (gcu : T.2.2.2 cu = some 27) : wpc kt 1 60 [.ref r0, vI a1] T H (uq_60 r0 a1 cu T H) := by
  refine wp_enter e60 (Nat.le_of_ble_eq_true rfl) rfl ?_
  show wp _ _ 60 0 [(0, .ref r0), (1, vI a1)] [] _ H _
  refine wp_of e60 c60_0 (rw_iload_n (pc' := 1) (z := a1) rfl rfl ?_)
  refine wp_of e60 c60_1 (rw_if_lt (p1 := 19) (p2 := 4) (by decide) rfl ⟨by omega, by omega⟩ (fun c1005 => ?_) (fun c1005 => ?_))
  · refine wp_of e60 c60_19 (rw_iconst (pc' := 20) rfl ?_)
    exact wp_zreturn e60 c60_20 rfl (by omega) ⟨rfl, rfl, 0, rfl, ⟨by omega, by omega⟩, (Or.inr ⟨by omega, by omega⟩)⟩
  · refine wp_of e60 c60_4 (rw_iload_n (pc' := 5) (z := a1) rfl rfl ?_)
    refine wp_of e60 c60_5 (rw_aload_n (pc' := 6) (v := .ref r0) rfl rfl rfl ?_)
    refine wp_of e60 c60_6 (xg_K (pc' := 9) lf_0_51 hW g0 sh_1 (by decide) (by decide) rfl qcu rfl ?_)
    refine wp_of e60 c60_9 (xg_I (pc' := 12) lf_0_339 hW gcu sh_27 (by decide) (by decide) ty_27_7 rfl rfl (fun b1006 b1007 => ?_))
    refine wp_of e60 c60_12 (rw_icmp_ge (p1 := 19) (p2 := 15) (by decide) rfl ⟨by omega, by omega⟩ ⟨by omega, by omega⟩ (fun c1008 => ?_) (fun c1008 => ?_))
    · refine wp_of e60 c60_19 (rw_iconst (pc' := 20) rfl ?_)
      exact wp_zreturn e60 c60_20 rfl (by omega) ⟨rfl, rfl, 0, rfl, ⟨by omega, by omega⟩, (Or.inr ⟨by omega, by omega⟩)⟩
    · refine wp_of e60 c60_15 (rw_iconst (pc' := 16) rfl ?_)
      refine wp_of e60 c60_16 (rw_goto (p1 := 20) (by decide) ?_)
      exact wp_zreturn e60 c60_20 rfl (by omega) ⟨rfl, rfl, 1, rfl, ⟨by omega, by omega⟩, (Or.inl ⟨by omega, by omega⟩)⟩
/-! StrikeAwake.isSpan(II)Z  -/
abbrev uq_57 (r0 : Nat) (a1 : Int) (a2 : Int) (cu : Nat) (e : xD) (d : xD) (n : Int) (T : wq_T) (H : wq_H) : Option Value → wq_T → wq_H → Prop := fun r T' H' => T = T' ∧ H = H' ∧ ∃ z : Int, some (vI z) = r ∧ (0 ≤ z ∧ z ≤ 1) ∧ (((z = 1) ∧ ((0 ≤ a1 ∧ a1 < d 0 3) ∧ 0 ≤ a2 ∧ a2 < ((xsp d (a1).toNat).length : Int))) ∨ ((z = 0) ∧ ((a1 < 0 ∨ d 0 3 ≤ a1) ∨ a2 < 0 ∨ ((xsp d (a1).toNat).length : Int) ≤ a2)))
set_option maxHeartbeats 4000000 in
theorem u_57 {kt : Nat → Option mc_E} {T : wq_T} {H : wq_H} {r0 : Nat} {a1 : Int} {a2 : Int} {cu : Nat} {e : xD} {d : xD} {n : Int} (hW : WT T H) (g0 : T.2.2.2 r0 = some 1) (i1 : (-2147483648) ≤ a1 ∧ a1 ≤ 2147483647) (i2 : (-2147483648) ≤ a2 ∧ a2 ≤ 2147483647) (qcu : H r0 6 = (cu : Int)) (gcu : T.2.2.2 cu = some 27) (p0 : e 0 3 = d 0 3) (p1 : e 0 0 = d 0 0) (hCU_cu : CU T H cu e d n) : wpc kt 2 57 [.ref r0, vI a1, vI a2] T H (uq_57 r0 a1 a2 cu e d n T H) := by
  refine wp_enter e57 (Nat.le_of_ble_eq_true rfl) rfl ?_
  show wp _ _ 57 0 [(0, .ref r0), (1, vI a1), (2, vI a2)] [] _ H _
  have u1027 := CU_k hCU_cu
  refine wp_of e57 c57_0 (rw_aload_n (pc' := 1) (v := .ref r0) rfl rfl rfl ?_)
  refine wp_of e57 c57_1 (rw_iload_n (pc' := 2) (z := a1) rfl rfl ?_)
  refine wp_of e57 c57_2 (xc_V (pc' := 5) (r := r0) (as := [vI a1]) (st := []) (lm_0_105) rfl rfl (Nat.le_of_ble_eq_true rfl) hW g0 sh_1 (by decide) rfl (by decide) (u_55  hW g0 ⟨by omega, by omega⟩ qcu gcu) (fun R1028 T1029 H1030 p1031 => ?_))
  obtain ⟨e1032, e1034, z1035, e1033, b1036, p1037⟩ := p1031
  subst e1032
  subst e1033
  subst e1034
  rcases p1037 with ⟨a1038, a1039⟩ | ⟨a1040, a1041⟩
  · show wp _ _ 57 5 [(0, .ref r0), (1, vI a1), (2, vI a2)] [vI z1035] _ H _
    refine wp_of e57 c57_5 (rw_if_eq (p1 := 32) (p2 := 8) (by decide) rfl ⟨by omega, by omega⟩ (fun c1042 => ?_) (fun c1042 => ?_))
    · exfalso
      omega
    · refine wp_of e57 c57_8 (rw_iload_n (pc' := 9) (z := a2) rfl rfl ?_)
      refine wp_of e57 c57_9 (rw_if_lt (p1 := 32) (p2 := 12) (by decide) rfl ⟨by omega, by omega⟩ (fun c1043 => ?_) (fun c1043 => ?_))
      · refine wp_of e57 c57_32 (rw_iconst (pc' := 33) rfl ?_)
        exact wp_zreturn e57 c57_33 rfl (by omega) ⟨rfl, rfl, 0, rfl, ⟨by omega, by omega⟩, (Or.inr ⟨by omega, by omega⟩)⟩
      · refine wp_of e57 c57_12 (rw_iload_n (pc' := 13) (z := a2) rfl rfl ?_)
        refine wp_of e57 c57_13 (rw_aload_n (pc' := 14) (v := .ref r0) rfl rfl rfl ?_)
        refine wp_of e57 c57_14 (xg_K (pc' := 17) lf_0_51 hW g0 sh_1 (by decide) (by decide) rfl qcu rfl ?_)
        refine wp_of e57 c57_17 (xg_R (pc' := 20) lf_0_109 hW gcu sh_27 (by decide) (by decide) ty_27_0 rfl rfl (fun r1044 q1045 g1046 => ?_))
        refine wp_of e57 c57_20 (rw_iload_n (pc' := 21) (z := a1) rfl rfl ?_)
        refine wp_of e57 c57_21 (xa_R (pc' := 22) (by decide) hW g1046 sh_28 (by decide) (ty_28 _) (by omega) (by omega) rfl (fun r1047 q1048 g1049 => ?_))
        have _z := CS_at (hCU_cu).2.1 q1045 q1048 (k := (a1).toNat) (by omega) (by omega)
        have _l := @xsp_len d (a1).toNat (hCU_cu).2.1.1
        have h1050 : PS T H r1047 d (a1).toNat (xsp d (a1).toNat) := _z.1
        have _n := h1050.1
        refine wp_of e57 c57_22 (xg_I (pc' := 25) lf_0_113 hW g1049 sh_35 (by decide) (by decide) ty_35_15 rfl rfl (fun b1051 b1052 => ?_))
        refine wp_of e57 c57_25 (rw_icmp_ge (p1 := 32) (p2 := 28) (by decide) rfl ⟨by omega, by omega⟩ ⟨by omega, by omega⟩ (fun c1053 => ?_) (fun c1053 => ?_))
        · refine wp_of e57 c57_32 (rw_iconst (pc' := 33) rfl ?_)
          exact wp_zreturn e57 c57_33 rfl (by omega) ⟨rfl, rfl, 0, rfl, ⟨by omega, by omega⟩, (Or.inr ⟨by omega, by omega⟩)⟩
        · refine wp_of e57 c57_28 (rw_iconst (pc' := 29) rfl ?_)
          refine wp_of e57 c57_29 (rw_goto (p1 := 33) (by decide) ?_)
          exact wp_zreturn e57 c57_33 rfl (by omega) ⟨rfl, rfl, 1, rfl, ⟨by omega, by omega⟩, (Or.inl ⟨by omega, by omega⟩)⟩
  · show wp _ _ 57 5 [(0, .ref r0), (1, vI a1), (2, vI a2)] [vI z1035] _ H _
    refine wp_of e57 c57_5 (rw_if_eq (p1 := 32) (p2 := 8) (by decide) rfl ⟨by omega, by omega⟩ (fun c1054 => ?_) (fun c1054 => ?_))
    · refine wp_of e57 c57_32 (rw_iconst (pc' := 33) rfl ?_)
      exact wp_zreturn e57 c57_33 rfl (by omega) ⟨rfl, rfl, 0, rfl, ⟨by omega, by omega⟩, (Or.inr ⟨by omega, by omega⟩)⟩
    · exfalso
      omega
/-! StrikeAwake.spans(I)I  -/
abbrev uq_54 (r0 : Nat) (a1 : Int) (cu : Nat) (e : xD) (d : xD) (n : Int) (T : wq_T) (H : wq_H) : Option Value → wq_T → wq_H → Prop := fun r T' H' => T = T' ∧ WT T H' ∧ wfr [(1, 10)] T H H' ∧ ∃ z : Int, some (vI z) = r ∧ ((-2147483648) ≤ z ∧ z ≤ 2147483647) ∧ (((z = -1) ∧ (a1 < 0 ∨ d 0 3 ≤ a1)) ∨ ((0 ≤ z ∧ z ≤ 40) ∧ (0 ≤ a1 ∧ a1 < d 0 3) ∧ (z = ((xsp d (a1).toNat).length : Int))))
set_option maxHeartbeats 4000000 in
theorem u_54 {kt : Nat → Option mc_E} {T : wq_T} {H : wq_H} {r0 : Nat} {a1 : Int} {cu : Nat} {e : xD} {d : xD} {n : Int} (hW : WT T H) (g0 : T.2.2.2 r0 = some 1) (i1 : (-2147483648) ≤ a1 ∧ a1 ≤ 2147483647) (qcu : H r0 6 = (cu : Int)) (gcu : T.2.2.2 cu = some 27) (p0 : e 0 3 = d 0 3) (p1 : e 0 0 = d 0 0) (hCU_cu : CU T H cu e d n) : wpc kt 2 54 [.ref r0, vI a1] T H (uq_54 r0 a1 cu e d n T H) := by
  refine wp_enter e54 (Nat.le_of_ble_eq_true rfl) rfl ?_
  have f0 : wfr [(1, 10)] T H H := wfr.rf
  show wp _ _ 54 0 [(0, .ref r0), (1, vI a1)] [] _ H _
  have u1053 := CU_k hCU_cu
  refine wp_of e54 c54_0 (rw_aload_n (pc' := 1) (v := .ref r0) rfl rfl rfl ?_)
  refine wp_of e54 c54_1 (rw_iload_n (pc' := 2) (z := a1) rfl rfl ?_)
  refine wp_of e54 c54_2 (xc_V (pc' := 5) (r := r0) (as := [vI a1]) (st := []) (lm_0_105) rfl rfl (Nat.le_of_ble_eq_true rfl) hW g0 sh_1 (by decide) rfl (by decide) (u_55  hW g0 ⟨by omega, by omega⟩ qcu gcu) (fun R1054 T1055 H1056 p1057 => ?_))
  obtain ⟨e1058, e1060, z1061, e1059, b1062, p1063⟩ := p1057
  subst e1058
  subst e1059
  subst e1060
  rcases p1063 with ⟨a1064, a1065⟩ | ⟨a1066, a1067⟩
  · show wp _ _ 54 5 [(0, .ref r0), (1, vI a1)] [vI z1061] _ H _
    refine wp_of e54 c54_5 (rw_if_ne (p1 := 14) (p2 := 8) (by decide) rfl ⟨by omega, by omega⟩ (fun c1068 => ?_) (fun c1068 => ?_))
    · refine wp_of e54 c54_14 (rw_aload_n (pc' := 15) (v := .ref r0) rfl rfl rfl ?_)
      refine wp_of e54 c54_15 (rw_aload_n (pc' := 16) (v := .ref r0) rfl rfl rfl ?_)
      refine wp_of e54 c54_16 (xg_K (pc' := 19) lf_0_51 hW g0 sh_1 (by decide) (by decide) rfl qcu rfl ?_)
      refine wp_of e54 c54_19 (xg_R (pc' := 22) lf_0_109 hW gcu sh_27 (by decide) (by decide) ty_27_0 rfl rfl (fun r1069 q1070 g1071 => ?_))
      refine wp_of e54 c54_22 (rw_iload_n (pc' := 23) (z := a1) rfl rfl ?_)
      refine wp_of e54 c54_23 (xa_R (pc' := 24) (by decide) hW g1071 sh_28 (by decide) (ty_28 _) (by omega) (by omega) rfl (fun r1072 q1073 g1074 => ?_))
      have _z := CS_at (hCU_cu).2.1 q1070 q1073 (k := (a1).toNat) (by omega) (by omega)
      have _l := @xsp_len d (a1).toNat (hCU_cu).2.1.1
      have h1075 : PS T H r1072 d (a1).toNat (xsp d (a1).toNat) := _z.1
      have _n := h1075.1
      refine wp_of e54 c54_24 (xg_I (pc' := 27) lf_0_113 hW g1074 sh_35 (by decide) (by decide) ty_35_15 rfl rfl (fun b1076 b1077 => ?_))
      refine wp_of e54 c54_27 (xc_V (pc' := 30) (r := r0) (as := [vI (H r1072 15)]) (st := []) (lm_0_99) rfl rfl (Nat.le_of_ble_eq_true rfl) hW g0 sh_1 (by decide) rfl (by decide) (u_51  hW g0 ⟨by omega, by omega⟩) (fun R1078 T1079 H1080 p1081 => ?_))
      obtain ⟨e1082, w1084, f1085, z1086, e1083, b1087, p1088⟩ := p1081
      subst e1082
      subst e1083
      obtain ⟨a1089, a1090⟩ := p1088
      have f1091 := f0.tr f1085 rfl
      show wp _ _ 54 30 [(0, .ref r0), (1, vI a1)] [vI z1086] _ H1080 _
      exact wp_ireturn e54 c54_30 rfl ⟨rfl, w1084, f1091, z1086, rfl, ⟨by omega, by omega⟩, (Or.inr ⟨by omega, by omega, by omega⟩)⟩
    · exfalso
      omega
  · show wp _ _ 54 5 [(0, .ref r0), (1, vI a1)] [vI z1061] _ H _
    refine wp_of e54 c54_5 (rw_if_ne (p1 := 14) (p2 := 8) (by decide) rfl ⟨by omega, by omega⟩ (fun c1092 => ?_) (fun c1092 => ?_))
    · exfalso
      omega
    · refine wp_of e54 c54_8 (rw_aload_n (pc' := 9) (v := .ref r0) rfl rfl rfl ?_)
      refine wp_of e54 c54_9 (rw_iconst (pc' := 10) rfl ?_)
      refine wp_of e54 c54_10 (xc_V (pc' := 13) (r := r0) (as := [vI 1]) (st := []) (lm_0_70) rfl rfl (Nat.le_of_ble_eq_true rfl) hW g0 sh_1 (by decide) rfl (by decide) (u_12  hW g0 ⟨by omega, by omega⟩) (fun R1093 T1094 H1095 p1096 => ?_))
      obtain ⟨e1097, w1099, f1100, z1101, e1098, b1102, p1103⟩ := p1096
      subst e1097
      subst e1098
      obtain ⟨a1104, a1105⟩ := p1103
      have f1106 := f0.tr f1100 rfl
      show wp _ _ 54 13 [(0, .ref r0), (1, vI a1)] [vI z1101] _ H1095 _
      exact wp_ireturn e54 c54_13 rfl ⟨rfl, w1099, f1106, z1101, rfl, ⟨by omega, by omega⟩, (Or.inl ⟨by omega, by omega⟩)⟩
/-! StrikeAwake$Person.weightOf(I)I  -/
abbrev uq_58 (r0 : Nat) (a1 : Int) (d : xD) (k : Nat) (P : List (Int × Int)) (h : Int) (T : wq_T) (H : wq_H) : Option Value → wq_T → wq_H → Prop := fun r T' H' => T = T' ∧ H = H' ∧ ∃ z : Int, some (vI z) = r ∧ (1 ≤ z ∧ z ≤ 10) ∧ (((((h = -1 ∧ z = 1) ∨ (h ≠ -1 ∧ ((z = 1 ∧ (9 ≤ (P.getD (a1).toNat (0, 0)).1 - h ∨ (P.getD (a1).toNat (0, 0)).1 - h ≤ -9)) ∨ ((P.getD (a1).toNat (0, 0)).1 - h ≤ 8 ∧ -8 ≤ (P.getD (a1).toNat (0, 0)).1 - h ∧ ((0 ≤ (P.getD (a1).toNat (0, 0)).1 - h ∧ z = 10 - ((P.getD (a1).toNat (0, 0)).1 - h)) ∨ ((P.getD (a1).toNat (0, 0)).1 - h < 0 ∧ z = 10 + ((P.getD (a1).toNat (0, 0)).1 - h))))))))))
set_option maxHeartbeats 4000000 in
theorem u_58 {kt : Nat → Option mc_E} {T : wq_T} {H : wq_H} {r0 : Nat} {a1 : Int} {d : xD} {k : Nat} {P : List (Int × Int)} {h : Int} (hW : WT T H) (g0 : T.2.2.2 r0 = some 35) (i1 : 0 ≤ a1 ∧ a1 ≤ 39) (p0 : H r0 11 = h) (p1 : a1 < (P.length : Int)) (hPS_r0 : PS T H r0 d k P) : wpc kt 1 58 [.ref r0, vI a1] T H (uq_58 r0 a1 d k P h T H) := by
  refine wp_enter e58 (Nat.le_of_ble_eq_true rfl) rfl ?_
  show wp _ _ 58 0 [(0, .ref r0), (1, vI a1)] [] _ H _
  have b1015 : (-1) ≤ H r0 11 ∧ H r0 11 ≤ 23 := hW.box g0 (n := 18) rfl (by decide) rfl
  refine wp_of e58 c58_0 (rw_aload_n (pc' := 1) (v := .ref r0) rfl rfl rfl ?_)
  refine wp_of e58 c58_1 (xg_I (pc' := 4) lf_8_35 hW g0 sh_35 (by decide) (by decide) ty_35_11 rfl rfl (fun b1016 b1017 => ?_))
  refine wp_of e58 c58_4 (rw_iconst (pc' := 5) rfl ?_)
  refine wp_of e58 c58_5 (rw_icmp_ne (p1 := 10) (p2 := 8) (by decide) rfl ⟨by omega, by omega⟩ ⟨by omega, by omega⟩ (fun c1018 => ?_) (fun c1018 => ?_))
  · refine wp_of e58 c58_10 (rw_iconst (pc' := 11) rfl ?_)
    refine wp_of e58 c58_11 (rw_bipush (pc' := 13) (z := 10) rfl (by decide) ?_)
    refine wp_of e58 c58_13 (rw_aload_n (pc' := 14) (v := .ref r0) rfl rfl rfl ?_)
    refine wp_of e58 c58_14 (xg_R (pc' := 17) lf_8_9 hW g0 sh_35 (by decide) (by decide) ty_35_0 rfl rfl (fun r1019 q1020 g1021 => ?_))
    refine wp_of e58 c58_17 (rw_iload_n (pc' := 18) (z := a1) rfl rfl ?_)
    refine wp_of e58 c58_18 (xa_I (so := 0) (pc' := 19) hW g1021 sh_36 (by decide) (ty_36 _) (by omega) (by omega) rfl (fun b1022 b1023 => ?_))
    have := DA_at (hPS_r0).2.1 q1020 (k := (a1.toNat)) (by omega)
    have _x : xr1 P (a1.toNat) = ((P).getD (a1.toNat) (0, 0)).1 := rfl
    refine wp_of e58 c58_19 (rw_aload_n (pc' := 20) (v := .ref r0) rfl rfl rfl ?_)
    refine wp_of e58 c58_20 (xg_I (pc' := 23) lf_8_35 hW g0 sh_35 (by decide) (by decide) ty_35_11 rfl rfl (fun b1024 b1025 => ?_))
    refine wp_of e58 c58_23 (rw_isub (pc' := 24) rfl ?_)
    refine wp_of e58 c58_24 (rw_abs (pc' := 27) rfl rfl ⟨by omega, by omega⟩ rfl (Nat.le_of_ble_eq_true rfl) rfl ?_)
    obtain ⟨v1026, e1027⟩ : ∃ x : Int, x = if 0 ≤ ((H r1019 (a1.toNat)) - (H r0 11)) then ((H r1019 (a1.toNat)) - (H r0 11)) else 0 - ((H r1019 (a1.toNat)) - (H r0 11)) := ⟨_, rfl⟩
    rw [← e1027]
    have b1028 : (v1026 = ((H r1019 (a1.toNat)) - (H r0 11)) ∨ v1026 = 0 - ((H r1019 (a1.toNat)) - (H r0 11))) ∧ 0 ≤ v1026 := by
      rw [e1027]
      split <;> omega
    refine wp_of e58 c58_27 (rw_isub (pc' := 28) rfl ?_)
    refine wp_of e58 c58_28 (rw_math2 (pc' := 31) (z := max 1 (10 - v1026)) rfl rfl ⟨by omega, by omega⟩ ⟨by omega, by omega⟩ (Or.inr ⟨rfl, rfl⟩) (Nat.le_of_ble_eq_true rfl) rfl ?_)
    obtain ⟨v1029, e1030⟩ : ∃ x : Int, x = max 1 (10 - v1026) := ⟨_, rfl⟩
    rw [← e1030]
    have b1031 : v1029 = 1 ∨ v1029 = (10 - v1026) := by
      rw [e1030]
      omega
    have b1032 : 1 ≤ v1029 ∧ (10 - v1026) ≤ v1029 := by
      rw [e1030]
      omega
    exact wp_ireturn e58 c58_31 rfl ⟨rfl, rfl, v1029, rfl, ⟨by omega, by omega⟩, (by omega)⟩
  · refine wp_of e58 c58_8 (rw_iconst (pc' := 9) rfl ?_)
    exact wp_ireturn e58 c58_9 rfl ⟨rfl, rfl, 1, rfl, ⟨by omega, by omega⟩, (by omega)⟩
/-! StrikeAwake.span(III)I  -/
abbrev uq_56 (r0 : Nat) (a1 : Int) (a2 : Int) (a3 : Int) (cu : Nat) (e : xD) (d : xD) (n : Int) (T : wq_T) (H : wq_H) : Option Value → wq_T → wq_H → Prop := fun r T' H' => T = T' ∧ WT T H' ∧ wfr [(1, 10)] T H H' ∧ ∃ z : Int, some (vI z) = r ∧ ((-2147483648) ≤ z ∧ z ≤ 2147483647) ∧ (((z = -1) ∧ (((a1 < 0 ∨ d 0 3 ≤ a1) ∨ a2 < 0 ∨ ((xsp d (a1).toNat).length : Int) ≤ a2) ∨ a3 < 0 ∨ 2 < a3)) ∨ ((-1 ≤ z ∧ z ≤ 40) ∧ ((0 ≤ a1 ∧ a1 < d 0 3) ∧ 0 ≤ a2 ∧ a2 < ((xsp d (a1).toNat).length : Int)) ∧ ((a3 = 0 ∧ z = ((xsp d (a1).toNat).getD (a2).toNat (0, 0)).1) ∨ (a3 = 1 ∧ z = ((xsp d (a1).toNat).getD (a2).toNat (0, 0)).2) ∨ (a3 = 2 ∧ ((d 6 (a1).toNat = -1 ∧ z = 1) ∨ (d 6 (a1).toNat ≠ -1 ∧ ((z = 1 ∧ (9 ≤ ((xsp d (a1).toNat).getD (a2).toNat (0, 0)).1 - d 6 (a1).toNat ∨ ((xsp d (a1).toNat).getD (a2).toNat (0, 0)).1 - d 6 (a1).toNat ≤ -9)) ∨ (((xsp d (a1).toNat).getD (a2).toNat (0, 0)).1 - d 6 (a1).toNat ≤ 8 ∧ -8 ≤ ((xsp d (a1).toNat).getD (a2).toNat (0, 0)).1 - d 6 (a1).toNat ∧ ((0 ≤ ((xsp d (a1).toNat).getD (a2).toNat (0, 0)).1 - d 6 (a1).toNat ∧ z = 10 - (((xsp d (a1).toNat).getD (a2).toNat (0, 0)).1 - d 6 (a1).toNat)) ∨ (((xsp d (a1).toNat).getD (a2).toNat (0, 0)).1 - d 6 (a1).toNat < 0 ∧ z = 10 + (((xsp d (a1).toNat).getD (a2).toNat (0, 0)).1 - d 6 (a1).toNat)))))))))))
set_option maxHeartbeats 4000000 in
theorem u_56 {kt : Nat → Option mc_E} {T : wq_T} {H : wq_H} {r0 : Nat} {a1 : Int} {a2 : Int} {a3 : Int} {cu : Nat} {e : xD} {d : xD} {n : Int} (hW : WT T H) (g0 : T.2.2.2 r0 = some 1) (i1 : (-2147483648) ≤ a1 ∧ a1 ≤ 2147483647) (i2 : (-2147483648) ≤ a2 ∧ a2 ≤ 2147483647) (i3 : (-2147483648) ≤ a3 ∧ a3 ≤ 2147483647) (qcu : H r0 6 = (cu : Int)) (gcu : T.2.2.2 cu = some 27) (p0 : e 0 3 = d 0 3) (p1 : e 0 0 = d 0 0) (p2 : ∀ i, i ≠ 13 → e i = d i) (hCU_cu : CU T H cu e d n) : wpc kt 3 56 [.ref r0, vI a1, vI a2, vI a3] T H (uq_56 r0 a1 a2 a3 cu e d n T H) := by
  refine wp_enter e56 (Nat.le_of_ble_eq_true rfl) rfl ?_
  have f0 : wfr [(1, 10)] T H H := wfr.rf
  show wp _ _ 56 0 [(0, .ref r0), (1, vI a1), (2, vI a2), (3, vI a3)] [] _ H _
  have u1132 := CU_k hCU_cu
  refine wp_of e56 c56_0 (rw_aload_n (pc' := 1) (v := .ref r0) rfl rfl rfl ?_)
  refine wp_of e56 c56_1 (rw_iload_n (pc' := 2) (z := a1) rfl rfl ?_)
  refine wp_of e56 c56_2 (rw_iload_n (pc' := 3) (z := a2) rfl rfl ?_)
  refine wp_of e56 c56_3 (xc_V (pc' := 6) (r := r0) (as := [vI a1, vI a2]) (st := []) (lm_0_118) rfl rfl (Nat.le_of_ble_eq_true rfl) hW g0 sh_1 (by decide) rfl (by decide) (u_57 (e := e) (d := d) (n := n) hW g0 ⟨by omega, by omega⟩ ⟨by omega, by omega⟩ qcu gcu (by omega) (by omega) hCU_cu) (fun R1133 T1134 H1135 p1136 => ?_))
  obtain ⟨e1137, e1139, z1140, e1138, b1141, p1142⟩ := p1136
  subst e1137
  subst e1138
  subst e1139
  rcases p1142 with ⟨a1143, a1144⟩ | ⟨a1145, a1146⟩
  · show wp _ _ 56 6 [(0, .ref r0), (1, vI a1), (2, vI a2), (3, vI a3)] [vI z1140] _ H _
    refine wp_of e56 c56_6 (rw_if_eq (p1 := 18) (p2 := 9) (by decide) rfl ⟨by omega, by omega⟩ (fun c1147 => ?_) (fun c1147 => ?_))
    · exfalso
      omega
    · refine wp_of e56 c56_9 (rw_iload_n (pc' := 10) (z := a3) rfl rfl ?_)
      refine wp_of e56 c56_10 (rw_if_lt (p1 := 18) (p2 := 13) (by decide) rfl ⟨by omega, by omega⟩ (fun c1148 => ?_) (fun c1148 => ?_))
      · refine wp_of e56 c56_18 (rw_aload_n (pc' := 19) (v := .ref r0) rfl rfl rfl ?_)
        refine wp_of e56 c56_19 (rw_iconst (pc' := 20) rfl ?_)
        refine wp_of e56 c56_20 (xc_V (pc' := 23) (r := r0) (as := [vI 1]) (st := []) (lm_0_70) rfl rfl (Nat.le_of_ble_eq_true rfl) hW g0 sh_1 (by decide) rfl (by decide) (u_12  hW g0 ⟨by omega, by omega⟩) (fun R1149 T1150 H1151 p1152 => ?_))
        obtain ⟨e1153, w1155, f1156, z1157, e1154, b1158, p1159⟩ := p1152
        subst e1153
        subst e1154
        obtain ⟨a1160, a1161⟩ := p1159
        have f1162 := f0.tr f1156 rfl
        show wp _ _ 56 23 [(0, .ref r0), (1, vI a1), (2, vI a2), (3, vI a3)] [vI z1157] _ H1151 _
        exact wp_ireturn e56 c56_23 rfl ⟨rfl, w1155, f1162, z1157, rfl, ⟨by omega, by omega⟩, (Or.inl ⟨by omega, by omega⟩)⟩
      · refine wp_of e56 c56_13 (rw_iload_n (pc' := 14) (z := a3) rfl rfl ?_)
        refine wp_of e56 c56_14 (rw_iconst (pc' := 15) rfl ?_)
        refine wp_of e56 c56_15 (rw_icmp_le (p1 := 24) (p2 := 18) (by decide) rfl ⟨by omega, by omega⟩ ⟨by omega, by omega⟩ (fun c1163 => ?_) (fun c1163 => ?_))
        · refine wp_of e56 c56_24 (rw_aload_n (pc' := 25) (v := .ref r0) rfl rfl rfl ?_)
          refine wp_of e56 c56_25 (xg_K (pc' := 28) lf_0_51 hW g0 sh_1 (by decide) (by decide) rfl qcu rfl ?_)
          refine wp_of e56 c56_28 (xg_R (pc' := 31) lf_0_109 hW gcu sh_27 (by decide) (by decide) ty_27_0 rfl rfl (fun r1164 q1165 g1166 => ?_))
          refine wp_of e56 c56_31 (rw_iload_n (pc' := 32) (z := a1) rfl rfl ?_)
          refine wp_of e56 c56_32 (xa_R (pc' := 33) (by decide) hW g1166 sh_28 (by decide) (ty_28 _) (by omega) (by omega) rfl (fun r1167 q1168 g1169 => ?_))
          have _z := CS_at (hCU_cu).2.1 q1165 q1168 (k := (a1).toNat) (by omega) (by omega)
          have _l := @xsp_len d (a1).toNat (hCU_cu).2.1.1
          have h1170 : PS T H r1167 d (a1).toNat (xsp d (a1).toNat) := _z.1
          have _n := h1170.1
          have _f := DQ_at (hCU_cu).1.2.1 q1165 q1168 (k := (a1).toNat) (by omega)
          have _h : H r1167 11 = d 6 (a1).toNat := by
            rw [← congrFun (p2 6 (by decide)) (a1).toNat]
            exact _f.2.2.2.2.2.1
          refine wp_of e56 c56_33 (rw_astore (pc' := 35) (v := .ref r1167) (L' := [(4, .ref r1167), (0, .ref r0), (1, vI a1), (2, vI a2), (3, vI a3)]) rfl rfl rfl rfl ?_)
          refine wp_of e56 c56_35 (rw_iload_n (pc' := 36) (z := a3) rfl rfl ?_)
          refine wp_of e56 c56_36 (rw_iconst (pc' := 37) rfl ?_)
          refine wp_of e56 c56_37 (rw_icmp_ne (p1 := 51) (p2 := 40) (by decide) rfl ⟨by omega, by omega⟩ ⟨by omega, by omega⟩ (fun c1171 => ?_) (fun c1171 => ?_))
          · refine wp_of e56 c56_51 (rw_aload_n (pc' := 52) (v := .ref r0) rfl rfl rfl ?_)
            refine wp_of e56 c56_52 (rw_iload_n (pc' := 53) (z := a3) rfl rfl ?_)
            refine wp_of e56 c56_53 (rw_if_ne (p1 := 66) (p2 := 56) (by decide) rfl ⟨by omega, by omega⟩ (fun c1172 => ?_) (fun c1172 => ?_))
            · refine wp_of e56 c56_66 (rw_aload (pc' := 68) (v := .ref r1167) rfl rfl rfl ?_)
              refine wp_of e56 c56_68 (xg_R (pc' := 71) lf_0_129 hW g1169 sh_35 (by decide) (by decide) ty_35_1 rfl rfl (fun r1173 q1174 g1175 => ?_))
              refine wp_of e56 c56_71 (rw_iload_n (pc' := 72) (z := a2) rfl rfl ?_)
              refine wp_of e56 c56_72 (xa_I (so := 0) (pc' := 73) hW g1175 sh_37 (by decide) (ty_37 _) (by omega) (by omega) rfl (fun b1176 b1177 => ?_))
              have := DA_at (h1170).2.2.1 q1174 (k := (a2.toNat)) (by omega)
              have _x : xr2 (xsp d (a1).toNat) (a2.toNat) = ((xsp d (a1).toNat).getD (a2.toNat) (0, 0)).2 := rfl
              refine wp_of e56 c56_73 (xc_V (pc' := 76) (r := r0) (as := [vI (H r1173 (a2.toNat))]) (st := []) (lm_0_99) rfl rfl (Nat.le_of_ble_eq_true rfl) hW g0 sh_1 (by decide) rfl (by decide) (u_51  hW g0 ⟨by omega, by omega⟩) (fun R1178 T1179 H1180 p1181 => ?_))
              obtain ⟨e1182, w1184, f1185, z1186, e1183, b1187, p1188⟩ := p1181
              subst e1182
              subst e1183
              obtain ⟨a1189, a1190⟩ := p1188
              have f1191 := f0.tr f1185 rfl
              show wp _ _ 56 76 [(4, .ref r1167), (0, .ref r0), (1, vI a1), (2, vI a2), (3, vI a3)] [vI z1186] _ H1180 _
              exact wp_ireturn e56 c56_76 rfl ⟨rfl, w1184, f1191, z1186, rfl, ⟨by omega, by omega⟩, (Or.inr ⟨by omega, by omega, by omega⟩)⟩
            · refine wp_of e56 c56_56 (rw_aload (pc' := 58) (v := .ref r1167) rfl rfl rfl ?_)
              refine wp_of e56 c56_58 (xg_R (pc' := 61) lf_0_125 hW g1169 sh_35 (by decide) (by decide) ty_35_0 rfl rfl (fun r1192 q1193 g1194 => ?_))
              refine wp_of e56 c56_61 (rw_iload_n (pc' := 62) (z := a2) rfl rfl ?_)
              refine wp_of e56 c56_62 (xa_I (so := 0) (pc' := 63) hW g1194 sh_36 (by decide) (ty_36 _) (by omega) (by omega) rfl (fun b1195 b1196 => ?_))
              have := DA_at (h1170).2.1 q1193 (k := (a2.toNat)) (by omega)
              have _x : xr1 (xsp d (a1).toNat) (a2.toNat) = ((xsp d (a1).toNat).getD (a2.toNat) (0, 0)).1 := rfl
              refine wp_of e56 c56_63 (rw_goto (p1 := 73) (by decide) ?_)
              refine wp_of e56 c56_73 (xc_V (pc' := 76) (r := r0) (as := [vI (H r1192 (a2.toNat))]) (st := []) (lm_0_99) rfl rfl (Nat.le_of_ble_eq_true rfl) hW g0 sh_1 (by decide) rfl (by decide) (u_51  hW g0 ⟨by omega, by omega⟩) (fun R1197 T1198 H1199 p1200 => ?_))
              obtain ⟨e1201, w1203, f1204, z1205, e1202, b1206, p1207⟩ := p1200
              subst e1201
              subst e1202
              obtain ⟨a1208, a1209⟩ := p1207
              have f1210 := f0.tr f1204 rfl
              show wp _ _ 56 76 [(4, .ref r1167), (0, .ref r0), (1, vI a1), (2, vI a2), (3, vI a3)] [vI z1205] _ H1199 _
              exact wp_ireturn e56 c56_76 rfl ⟨rfl, w1203, f1210, z1205, rfl, ⟨by omega, by omega⟩, (Or.inr ⟨by omega, by omega, by omega⟩)⟩
          · refine wp_of e56 c56_40 (rw_aload_n (pc' := 41) (v := .ref r0) rfl rfl rfl ?_)
            refine wp_of e56 c56_41 (rw_aload (pc' := 43) (v := .ref r1167) rfl rfl rfl ?_)
            refine wp_of e56 c56_43 (rw_iload_n (pc' := 44) (z := a2) rfl rfl ?_)
            refine wp_of e56 c56_44 (xc_V (pc' := 47) (r := r1167) (as := [vI a2]) (st := [.ref r0]) (lm_0_122) rfl rfl (Nat.le_of_ble_eq_true rfl) hW g1169 sh_35 (by decide) rfl (by decide) (u_58 (d := d) (k := ((a1).toNat)) (P := ((xsp d (a1).toNat))) (h := ((d 6 (a1).toNat))) hW g1169 ⟨by omega, by omega⟩ (by omega) (by omega) h1170) (fun R1211 T1212 H1213 p1214 => ?_))
            obtain ⟨e1215, e1217, z1218, e1216, b1219, p1220⟩ := p1214
            subst e1215
            subst e1216
            subst e1217
            show wp _ _ 56 47 [(4, .ref r1167), (0, .ref r0), (1, vI a1), (2, vI a2), (3, vI a3)] [vI z1218, .ref r0] _ H _
            refine wp_of e56 c56_47 (xc_V (pc' := 50) (r := r0) (as := [vI z1218]) (st := []) (lm_0_99) rfl rfl (Nat.le_of_ble_eq_true rfl) hW g0 sh_1 (by decide) rfl (by decide) (u_51  hW g0 ⟨by omega, by omega⟩) (fun R1222 T1223 H1224 p1225 => ?_))
            obtain ⟨e1226, w1228, f1229, z1230, e1227, b1231, p1232⟩ := p1225
            subst e1226
            subst e1227
            obtain ⟨a1233, a1234⟩ := p1232
            have f1235 := f0.tr f1229 rfl
            show wp _ _ 56 50 [(4, .ref r1167), (0, .ref r0), (1, vI a1), (2, vI a2), (3, vI a3)] [vI z1230] _ H1224 _
            exact wp_ireturn e56 c56_50 rfl ⟨rfl, w1228, f1235, z1230, rfl, ⟨by omega, by omega⟩, (Or.inr ⟨by omega, by omega, by omega⟩)⟩
        · refine wp_of e56 c56_18 (rw_aload_n (pc' := 19) (v := .ref r0) rfl rfl rfl ?_)
          refine wp_of e56 c56_19 (rw_iconst (pc' := 20) rfl ?_)
          refine wp_of e56 c56_20 (xc_V (pc' := 23) (r := r0) (as := [vI 1]) (st := []) (lm_0_70) rfl rfl (Nat.le_of_ble_eq_true rfl) hW g0 sh_1 (by decide) rfl (by decide) (u_12  hW g0 ⟨by omega, by omega⟩) (fun R1236 T1237 H1238 p1239 => ?_))
          obtain ⟨e1240, w1242, f1243, z1244, e1241, b1245, p1246⟩ := p1239
          subst e1240
          subst e1241
          obtain ⟨a1247, a1248⟩ := p1246
          have f1249 := f0.tr f1243 rfl
          show wp _ _ 56 23 [(0, .ref r0), (1, vI a1), (2, vI a2), (3, vI a3)] [vI z1244] _ H1238 _
          exact wp_ireturn e56 c56_23 rfl ⟨rfl, w1242, f1249, z1244, rfl, ⟨by omega, by omega⟩, (Or.inl ⟨by omega, by omega⟩)⟩
  · show wp _ _ 56 6 [(0, .ref r0), (1, vI a1), (2, vI a2), (3, vI a3)] [vI z1140] _ H _
    refine wp_of e56 c56_6 (rw_if_eq (p1 := 18) (p2 := 9) (by decide) rfl ⟨by omega, by omega⟩ (fun c1250 => ?_) (fun c1250 => ?_))
    · refine wp_of e56 c56_18 (rw_aload_n (pc' := 19) (v := .ref r0) rfl rfl rfl ?_)
      refine wp_of e56 c56_19 (rw_iconst (pc' := 20) rfl ?_)
      refine wp_of e56 c56_20 (xc_V (pc' := 23) (r := r0) (as := [vI 1]) (st := []) (lm_0_70) rfl rfl (Nat.le_of_ble_eq_true rfl) hW g0 sh_1 (by decide) rfl (by decide) (u_12  hW g0 ⟨by omega, by omega⟩) (fun R1251 T1252 H1253 p1254 => ?_))
      obtain ⟨e1255, w1257, f1258, z1259, e1256, b1260, p1261⟩ := p1254
      subst e1255
      subst e1256
      obtain ⟨a1262, a1263⟩ := p1261
      have f1264 := f0.tr f1258 rfl
      show wp _ _ 56 23 [(0, .ref r0), (1, vI a1), (2, vI a2), (3, vI a3)] [vI z1259] _ H1253 _
      exact wp_ireturn e56 c56_23 rfl ⟨rfl, w1257, f1264, z1259, rfl, ⟨by omega, by omega⟩, (Or.inl ⟨by omega, by omega⟩)⟩
    · exfalso
      omega
