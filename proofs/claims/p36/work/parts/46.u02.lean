/-! what methods do (own work, written by wip/gen3/sx3.py) -/
/-! StrikeAwakeModel.readSexton()V k -/
abbrev uq_193_k (r0 : Nat) (rp : Nat) (rb : Nat) (B : Nat → Int) (n : Int) (q : Int) (d : xD) (N0 : Nat) (H0 : wq_H) (T : wq_T) (H : wq_H) : Option Value → wq_T → wq_H → Prop := fun r T' H' => T = T' ∧ WT T H' ∧ wfr [(54, 8), (42, 8), (42, 9), (42, 10), (42, 11), (42, 12), (42, 13), (42, 14), (42, 15)] T H H' ∧ none = r ∧ ((((xl2 B n q d).1 = 0) ∧ ((xl2 B n q d).2.2 = (xN B n (xN B n q))) ∧ (q ≤ (xN B n (xN B n q))) ∧ RC T H' r0 B n (xN B n (xN B n q)) ∧ DM T H' rp r0 (xdsex B n (xN B n q) d) ∧ FZ T H' rp N0 H0) ∨ (((xl2 B n q d).1 ≠ 0) ∧ RO T H' r0 ((xl2 B n q d).1) ((xl2 B n q d).2.1) ∧ FZ T H' rp N0 H0))
set_option maxHeartbeats 4000000 in
theorem u_193_k {kt : Nat → Option mc_E} {T : wq_T} {H : wq_H} {r0 : Nat} {rp : Nat} {rb : Nat} {B : Nat → Int} {n : Int} {q : Int} {d : xD} {N0 : Nat} {H0 : wq_H} (hW : WT T H) (g0 : T.2.2.2 r0 = some 42) (qrp : H r0 4 = (rp : Int)) (grp : T.2.2.2 rp = some 54) (qrb : H r0 5 = (rb : Int)) (grb : T.2.2.2 rb = some 43) (p0 : xK B n q = 1) (hRC_r0 : RC T H r0 B n q) (hDM_rp : DM T H rp r0 d) (hFZ_rp : FZ T H rp N0 H0) : wpc kt 6 193 [.ref r0] T H (uq_193_k r0 rp rb B n q d N0 H0 T H) := by
  refine wp_enter e193 (Nat.le_of_ble_eq_true rfl) rfl ?_
  have f0 : wfr [(54, 8), (42, 8), (42, 9), (42, 10), (42, 11), (42, 12), (42, 13), (42, 14), (42, 15)] T H H := wfr.rf
  show wp _ _ 193 0 [(0, .ref r0)] [] _ H _
  have u1109 := RC_k hRC_r0
  have u1110 := DM_k hDM_rp
  have h1111 : MA9 T H rp (d 1) := hDM_rp.2.2.2.1
  have h1112 : MA10 T H rp (d 2) := hDM_rp.2.2.2.2.1
  have h1113 : MA11 T H rp (d 3) := hDM_rp.2.2.2.2.2.1
  have h1114 : MA12 T H rp (d 4) := hDM_rp.2.2.2.2.2.2.1
  have h1115 : MA13 T H rp (d 5) := hDM_rp.2.2.2.2.2.2.2.1
  have h1116 : MA14 T H rp (d 6) := hDM_rp.2.2.2.2.2.2.2.2.1
  have h1117 : MA15 T H rp (d 7) := hDM_rp.2.2.2.2.2.2.2.2.2.1
  have h1118 : MA16 T H rp (d 8) := hDM_rp.2.2.2.2.2.2.2.2.2.2.1
  have h1119 : MA17 T H rp (d 9) := hDM_rp.2.2.2.2.2.2.2.2.2.2.2.1
  have h1120 : MA18 T H rp (d 10) := hDM_rp.2.2.2.2.2.2.2.2.2.2.2.2.1
  have h1121 : MA19 T H rp (d 11) := hDM_rp.2.2.2.2.2.2.2.2.2.2.2.2.2.1
  have h1122 : MA20 T H rp (d 12) := hDM_rp.2.2.2.2.2.2.2.2.2.2.2.2.2.2.1
  have h1123 : MA21 T H rp (d 13) := hDM_rp.2.2.2.2.2.2.2.2.2.2.2.2.2.2.2.1
  have h1124 : MA22 T H rp (d 14) := hDM_rp.2.2.2.2.2.2.2.2.2.2.2.2.2.2.2.2.1
  have h1125 : MA23 T H rp (d 15) := hDM_rp.2.2.2.2.2.2.2.2.2.2.2.2.2.2.2.2.2.1
  have h1126 : MA25 T H rp (d 17) := hDM_rp.2.2.2.2.2.2.2.2.2.2.2.2.2.2.2.2.2.2.1
  have h1127 : MA26 T H rp (d 16) := hDM_rp.2.2.2.2.2.2.2.2.2.2.2.2.2.2.2.2.2.2.2
  refine wp_of e193 c193_0 (rw_aload_n (pc' := 1) (v := .ref r0) rfl rfl rfl ?_)
  refine wp_of e193 c193_1 (xg_K (pc' := 4) lf_9_166 hW g0 sh_42 (by decide) (by decide) rfl qrp rfl ?_)
  refine wp_of e193 c193_4 (xg_I (pc' := 7) lf_9_271 hW grp sh_54 (by decide) (by decide) ty_54_8 rfl rfl (fun b1128 b1129 => ?_))
  refine wp_of e193 c193_7 (rw_iconst (pc' := 8) rfl ?_)
  refine wp_of e193 c193_8 (rw_icmp_eq (p1 := 16) (p2 := 11) (by decide) rfl ⟨b1128, b1129⟩ ⟨by decide, by decide⟩ (fun c1130 => ?_) (fun c1130 => ?_))
  · refine wp_of e193 c193_16 (rw_aload_n (pc' := 17) (v := .ref r0) rfl rfl rfl ?_)
    have u1131 := RC_a hRC_r0
    have h1132 : TM T H rb B := RC_tm hRC_r0 qrb
    refine wp_of e193 c193_17 (xc_V (pc' := 20) (r := r0) (as := []) (st := []) (lm_9_118) rfl rfl (Nat.le_of_ble_eq_true rfl) hW g0 sh_42 (by decide) rfl (by decide) (u_172_k (B := B) (n := n) (a := (xE B n q)) (q := (xN B n q)) hW g0 qrb grb (by omega) (by omega) (by omega) (by omega) (by omega) (rfl) h1132) (fun R1133 T1134 H1135 p1136 => ?_))
    obtain ⟨e1137, w1139, f1140, e1138, p1141⟩ := p1136
    subst e1137
    subst e1138
    have f1143 := f0.tr f1140 rfl
    show wp _ _ 193 20 [(0, .ref r0)] [] _ H1135 _
    have u1144 := RC_k p1141
    refine wp_of e193 c193_20 (rw_aload_n (pc' := 21) (v := .ref r0) rfl rfl rfl ?_)
    have k1145 : H1135 r0 4 = H r0 4 := (f1140 r0 4 _ g0 rfl)
    have q1146 : H1135 r0 4 = (rp : Int) := k1145.trans qrp
    have k1147 : H1135 r0 5 = H r0 5 := (f1140 r0 5 _ g0 rfl)
    have q1148 : H1135 r0 5 = (rb : Int) := k1147.trans qrb
    have h1149 : DM T H1135 rp r0 d := (DM_fr hW grp f1140 rfl hDM_rp)
    refine wp_of e193 c193_21 (xc_V (pc' := 24) (r := r0) (as := []) (st := []) (lm_9_273) rfl rfl (Nat.le_of_ble_eq_true rfl) w1139 g0 sh_42 (by decide) rfl (by decide) (u_194_k (B := B) (n := n) (q := ((xN B n q))) (d := d) w1139 g0 q1146 grp q1148 grb p1141 h1149) (fun R1150 T1151 H1152 p1153 => ?_))
    obtain ⟨e1154, w1156, f1157, z1158, e1155, b1159, p1160⟩ := p1153
    subst e1154
    subst e1155
    rcases p1160 with ⟨a1161, a1162, a1163, a1164, a1165⟩ | ⟨a1166, a1167, a1168⟩
    · have f1169 := f1143.tr f1157 rfl
      show wp _ _ 193 24 [(0, .ref r0)] [vI z1158] _ H1152 _
      have u1170 := RC_k a1165
      refine wp_of e193 c193_24 (rw_istore_n (pc' := 25) (z := z1158) (L' := [(1, vI z1158), (0, .ref r0)]) rfl rfl rfl ?_)
      refine wp_of e193 c193_25 (rw_aload_n (pc' := 26) (v := .ref r0) rfl rfl rfl ?_)
      refine wp_of e193 c193_26 (xg_I (pc' := 29) lf_9_75 w1156 g0 sh_42 (by decide) (by decide) ty_42_9 rfl rfl (fun b1171 b1172 => ?_))
      refine wp_of e193 c193_29 (rw_iconst (pc' := 30) rfl ?_)
      refine wp_of e193 c193_30 (rw_icmp_eq (p1 := 41) (p2 := 33) (by decide) rfl ⟨Int.le_trans (by decide) b1171, Int.le_trans b1172 (by decide)⟩ ⟨by decide, by decide⟩ (fun c1173 => ?_) (fun c1173 => ?_))
      · exfalso
        omega
      · refine wp_of e193 c193_33 (rw_aload_n (pc' := 34) (v := .ref r0) rfl rfl rfl ?_)
        have k1174 : H1152 r0 4 = H1135 r0 4 := (f1157 r0 4 _ g0 rfl)
        have q1175 : H1152 r0 4 = (rp : Int) := k1174.trans q1146
        refine wp_of e193 c193_34 (xg_K (pc' := 37) lf_9_166 w1156 g0 sh_42 (by decide) (by decide) rfl q1175 rfl ?_)
        refine wp_of e193 c193_37 (rw_iload_n (pc' := 38) (z := z1158) rfl rfl ?_)
        have h1176 : FZ T H1152 rp N0 H0 := (FZ_fr w1139 grp f1157 rfl (FZ_fr hW grp f1140 rfl hFZ_rp))
        refine wp_of e193 c193_38 (xp_I (pc' := 41) lf_9_271 w1156 grp sh_54 (by decide) (by decide) ty_54_8 rfl rfl (Int.le_trans (by decide) b1159.1) (Int.le_trans b1159.2 (by decide)) ⟨Int.le_trans (by decide) b1159.1, Int.le_trans b1159.2 (by decide)⟩ rfl (fun H1177 e1178 w1179 => ?_))
        have f1180 := f1169.put' e1178 grp rfl
        have k1181 : H1177 rp 8 = z1158 := wq_u_s e1178
        have h1182 : FZ T H1177 rp N0 H0 := FZ_put h1176 (by decide) e1178
        have k1183 : H1177 rp 0 = H rp 0 := ((wq_u_j e1178 rfl).trans ((f1157 rp 0 _ grp rfl).trans (f1140 rp 0 _ grp rfl)))
        have k1184 : H1177 rp 1 = H rp 1 := ((wq_u_j e1178 rfl).trans ((f1157 rp 1 _ grp rfl).trans (f1140 rp 1 _ grp rfl)))
        have k1185 : H1177 rp 2 = H rp 2 := ((wq_u_j e1178 rfl).trans ((f1157 rp 2 _ grp rfl).trans (f1140 rp 2 _ grp rfl)))
        have k1186 : H1177 rp 3 = H rp 3 := ((wq_u_j e1178 rfl).trans ((f1157 rp 3 _ grp rfl).trans (f1140 rp 3 _ grp rfl)))
        have k1187 : H1177 rp 4 = H rp 4 := ((wq_u_j e1178 rfl).trans ((f1157 rp 4 _ grp rfl).trans (f1140 rp 4 _ grp rfl)))
        have k1188 : H1177 rp 5 = H rp 5 := ((wq_u_j e1178 rfl).trans ((f1157 rp 5 _ grp rfl).trans (f1140 rp 5 _ grp rfl)))
        have k1189 : H1177 rp 6 = H rp 6 := ((wq_u_j e1178 rfl).trans ((f1157 rp 6 _ grp rfl).trans (f1140 rp 6 _ grp rfl)))
        have k1190 : H1177 rp 7 = H rp 7 := ((wq_u_j e1178 rfl).trans ((f1157 rp 7 _ grp rfl).trans (f1140 rp 7 _ grp rfl)))
        have k1191 : H1177 r0 16 = H r0 16 := ((wq_u_t e1178 grp g0 rfl 16).trans ((f1157 r0 16 _ g0 rfl).trans (f1140 r0 16 _ g0 rfl)))
        have o1192 : (xl2 B n q d) = (0, (xN B n q), (xN B n ((xN B n q)))) := by
          unfold xl2 xsex
          repeat first | rw [xs_0 (Int.le_antisymm (by omega -splitDisjunctions) (by omega -splitDisjunctions))] | rw [xs_1 (by omega -splitDisjunctions)] | rw [if_pos (Int.le_antisymm (by omega -splitDisjunctions) (by omega -splitDisjunctions))] | rw [if_pos (by omega -splitDisjunctions)] | rw [if_pos (And.intro (by omega -splitDisjunctions) (by omega -splitDisjunctions))] | rw [if_neg (by omega -splitDisjunctions)] | rw [xs_1 (by omega)] | rw [if_neg (by omega)] | rw [xs_0 (by omega)] | rw [if_pos (by omega)]
          first | done | rfl | assumption | (exfalso; omega -splitDisjunctions) | (refine Prod.ext ?_ (Prod.ext ?_ ?_) <;> (try dsimp only) <;> omega) | (exfalso; omega)
        have o1192a : ((xl2 B n q d)).1 = 0 := by rw [o1192]
        have o1192b : ((xl2 B n q d)).2.1 = (xN B n q) := by rw [o1192]
        have o1192c : ((xl2 B n q d)).2.2 = (xN B n ((xN B n q))) := by rw [o1192]
        have _l := @xdsex_v B n (xN B n q) d
        have _w := @xwho_e d B n (xN B n q)
        have h1193 : RC T H1177 r0 B n (xN B n ((xN B n q))) := (RC_fr w1156 g0 ((wfr.rf (l := [(54, 8)])).put' e1178 grp rfl) rfl a1165)
        have h1194 : MA9 T H1177 rp (d 1) := (MA9_fr w1156 grp ((wfr.rf (l := [(54, 8)])).put' e1178 grp rfl) rfl (MA9_fr w1139 grp f1157 rfl (MA9_fr hW grp f1140 rfl h1111)))
        have h1195 : MA10 T H1177 rp (d 2) := (MA10_fr w1156 grp ((wfr.rf (l := [(54, 8)])).put' e1178 grp rfl) rfl (MA10_fr w1139 grp f1157 rfl (MA10_fr hW grp f1140 rfl h1112)))
        have h1196 : MA11 T H1177 rp (d 3) := (MA11_fr w1156 grp ((wfr.rf (l := [(54, 8)])).put' e1178 grp rfl) rfl (MA11_fr w1139 grp f1157 rfl (MA11_fr hW grp f1140 rfl h1113)))
        have h1197 : MA12 T H1177 rp (d 4) := (MA12_fr w1156 grp ((wfr.rf (l := [(54, 8)])).put' e1178 grp rfl) rfl (MA12_fr w1139 grp f1157 rfl (MA12_fr hW grp f1140 rfl h1114)))
        have h1198 : MA13 T H1177 rp (d 5) := (MA13_fr w1156 grp ((wfr.rf (l := [(54, 8)])).put' e1178 grp rfl) rfl (MA13_fr w1139 grp f1157 rfl (MA13_fr hW grp f1140 rfl h1115)))
        have h1199 : MA14 T H1177 rp (d 6) := (MA14_fr w1156 grp ((wfr.rf (l := [(54, 8)])).put' e1178 grp rfl) rfl (MA14_fr w1139 grp f1157 rfl (MA14_fr hW grp f1140 rfl h1116)))
        have h1200 : MA15 T H1177 rp (d 7) := (MA15_fr w1156 grp ((wfr.rf (l := [(54, 8)])).put' e1178 grp rfl) rfl (MA15_fr w1139 grp f1157 rfl (MA15_fr hW grp f1140 rfl h1117)))
        have h1201 : MA16 T H1177 rp (d 8) := (MA16_fr w1156 grp ((wfr.rf (l := [(54, 8)])).put' e1178 grp rfl) rfl (MA16_fr w1139 grp f1157 rfl (MA16_fr hW grp f1140 rfl h1118)))
        have h1202 : MA17 T H1177 rp (d 9) := (MA17_fr w1156 grp ((wfr.rf (l := [(54, 8)])).put' e1178 grp rfl) rfl (MA17_fr w1139 grp f1157 rfl (MA17_fr hW grp f1140 rfl h1119)))
        have h1203 : MA18 T H1177 rp (d 10) := (MA18_fr w1156 grp ((wfr.rf (l := [(54, 8)])).put' e1178 grp rfl) rfl (MA18_fr w1139 grp f1157 rfl (MA18_fr hW grp f1140 rfl h1120)))
        have h1204 : MA19 T H1177 rp (d 11) := (MA19_fr w1156 grp ((wfr.rf (l := [(54, 8)])).put' e1178 grp rfl) rfl (MA19_fr w1139 grp f1157 rfl (MA19_fr hW grp f1140 rfl h1121)))
        have h1205 : MA20 T H1177 rp (d 12) := (MA20_fr w1156 grp ((wfr.rf (l := [(54, 8)])).put' e1178 grp rfl) rfl (MA20_fr w1139 grp f1157 rfl (MA20_fr hW grp f1140 rfl h1122)))
        have h1206 : MA21 T H1177 rp (d 13) := (MA21_fr w1156 grp ((wfr.rf (l := [(54, 8)])).put' e1178 grp rfl) rfl (MA21_fr w1139 grp f1157 rfl (MA21_fr hW grp f1140 rfl h1123)))
        have h1207 : MA22 T H1177 rp (d 14) := (MA22_fr w1156 grp ((wfr.rf (l := [(54, 8)])).put' e1178 grp rfl) rfl (MA22_fr w1139 grp f1157 rfl (MA22_fr hW grp f1140 rfl h1124)))
        have h1208 : MA23 T H1177 rp (d 15) := (MA23_fr w1156 grp ((wfr.rf (l := [(54, 8)])).put' e1178 grp rfl) rfl (MA23_fr w1139 grp f1157 rfl (MA23_fr hW grp f1140 rfl h1125)))
        have h1209 : MA25 T H1177 rp (d 17) := (MA25_fr w1156 grp ((wfr.rf (l := [(54, 8)])).put' e1178 grp rfl) rfl (MA25_fr w1139 grp f1157 rfl (MA25_fr hW grp f1140 rfl h1126)))
        have h1210 : MA26 T H1177 rp (d 16) := (MA26_fr w1156 grp ((wfr.rf (l := [(54, 8)])).put' e1178 grp rfl) rfl (MA26_fr w1139 grp f1157 rfl (MA26_fr hW grp f1140 rfl h1127)))
        exact wp_return e193 c193_41 rfl ⟨rfl, w1179, f1180, rfl, (Or.inl ⟨by omega, by omega, by omega, h1193, DM_mk hDM_rp.1 ⟨by omega, by omega, by omega, by omega, by omega, by omega, by omega, by omega, by omega, by omega, by omega, by omega⟩ (xdP_cg hDM_rp.2.2.1 (fun i h1 h2 => by unfold xdsex; rw [wq_u_row (by omega)])) h1194 h1195 h1196 h1197 h1198 h1199 h1200 h1201 h1202 h1203 h1204 h1205 h1206 h1207 h1208 h1209 h1210 ⟨(by unfold xdsex; rw [wq_u_row (by decide)]), (by unfold xdsex; rw [wq_u_row (by decide)]), (by unfold xdsex; rw [wq_u_row (by decide)]), (by unfold xdsex; rw [wq_u_row (by decide)]), (by unfold xdsex; rw [wq_u_row (by decide)]), (by unfold xdsex; rw [wq_u_row (by decide)]), (by unfold xdsex; rw [wq_u_row (by decide)]), (by unfold xdsex; rw [wq_u_row (by decide)]), (by unfold xdsex; rw [wq_u_row (by decide)]), (by unfold xdsex; rw [wq_u_row (by decide)]), (by unfold xdsex; rw [wq_u_row (by decide)]), (by unfold xdsex; rw [wq_u_row (by decide)]), (by unfold xdsex; rw [wq_u_row (by decide)]), (by unfold xdsex; rw [wq_u_row (by decide)]), (by unfold xdsex; rw [wq_u_row (by decide)]), (by unfold xdsex; rw [wq_u_row (by decide)]), (by unfold xdsex; rw [wq_u_row (by decide)])⟩, h1182⟩)⟩
    · have f1211 := f1143.tr f1157 rfl
      show wp _ _ 193 24 [(0, .ref r0)] [vI z1158] _ H1152 _
      have u1212 := RO_k a1168
      refine wp_of e193 c193_24 (rw_istore_n (pc' := 25) (z := z1158) (L' := [(1, vI z1158), (0, .ref r0)]) rfl rfl rfl ?_)
      refine wp_of e193 c193_25 (rw_aload_n (pc' := 26) (v := .ref r0) rfl rfl rfl ?_)
      refine wp_of e193 c193_26 (xg_I (pc' := 29) lf_9_75 w1156 g0 sh_42 (by decide) (by decide) ty_42_9 rfl rfl (fun b1213 b1214 => ?_))
      refine wp_of e193 c193_29 (rw_iconst (pc' := 30) rfl ?_)
      refine wp_of e193 c193_30 (rw_icmp_eq (p1 := 41) (p2 := 33) (by decide) rfl ⟨Int.le_trans (by decide) b1213, Int.le_trans b1214 (by decide)⟩ ⟨by decide, by decide⟩ (fun c1215 => ?_) (fun c1215 => ?_))
      · have o1216 : (xl2 B n q d) = (xkn B n ((xN B n q)) d, ((xN B n q)), ((xN B n q))) := by
          unfold xl2 xsex
          repeat first | rw [xs_0 (Int.le_antisymm (by omega -splitDisjunctions) (by omega -splitDisjunctions))] | rw [xs_1 (by omega -splitDisjunctions)] | rw [if_pos (Int.le_antisymm (by omega -splitDisjunctions) (by omega -splitDisjunctions))] | rw [if_pos (by omega -splitDisjunctions)] | rw [if_pos (And.intro (by omega -splitDisjunctions) (by omega -splitDisjunctions))] | rw [if_neg (by omega -splitDisjunctions)] | rw [xs_1 (by omega)] | rw [if_neg (by omega)] | rw [xs_0 (by omega)] | rw [if_pos (by omega)]
          first | done | rfl | assumption | (exfalso; omega -splitDisjunctions) | (refine Prod.ext ?_ (Prod.ext ?_ ?_) <;> (try dsimp only) <;> omega) | (exfalso; omega)
        have o1216a : ((xl2 B n q d)).1 = xkn B n ((xN B n q)) d := by rw [o1216]
        have o1216b : ((xl2 B n q d)).2.1 = ((xN B n q)) := by rw [o1216]
        have o1216c : ((xl2 B n q d)).2.2 = ((xN B n q)) := by rw [o1216]
        have h1217 : FZ T H1152 rp N0 H0 := (FZ_fr w1139 grp f1157 rfl (FZ_fr hW grp f1140 rfl hFZ_rp))
        exact wp_return e193 c193_41 rfl ⟨rfl, w1156, f1211, rfl, (Or.inr ⟨by omega, RO_eq a1168 (by omega) (by omega), h1217⟩)⟩
      · exfalso
        omega
  · refine wp_of e193 c193_11 (rw_aload_n (pc' := 12) (v := .ref r0) rfl rfl rfl ?_)
    refine wp_of e193 c193_12 (rw_iconst (pc' := 13) rfl ?_)
    refine wp_of e193 c193_13 (xc_V (pc' := 16) (r := r0) (as := [vI 3]) (st := []) (lm_9_121) rfl rfl (Nat.le_of_ble_eq_true rfl) hW g0 sh_42 (by decide) rfl (by decide) (u_181_k (B := B) (n := n) (q := q) hW g0 ⟨by decide, by decide⟩ (by omega) hRC_r0) (fun R1218 T1219 H1220 p1221 => ?_))
    obtain ⟨e1222, w1224, f1225, e1223, p1226⟩ := p1221
    subst e1222
    subst e1223
    have f1228 := f0.tr f1225 rfl
    show wp _ _ 193 16 [(0, .ref r0)] [] _ H1220 _
    have u1229 := RO_k p1226
    refine wp_of e193 c193_16 (rw_aload_n (pc' := 17) (v := .ref r0) rfl rfl rfl ?_)
    refine wp_of e193 c193_17 (xc_V (pc' := 20) (r := r0) (as := []) (st := []) (lm_9_118) rfl rfl (Nat.le_of_ble_eq_true rfl) w1224 g0 sh_42 (by decide) rfl (by decide) (u_172_o (fo := 3) (po := q) w1224 g0 p1226) (fun R1230 T1231 H1232 p1233 => ?_))
    obtain ⟨e1234, e1236, e1235, p1237⟩ := p1233
    subst e1234
    subst e1235
    subst e1236
    show wp _ _ 193 20 [(0, .ref r0)] [] _ H1220 _
    have u1239 := RO_k p1237
    refine wp_of e193 c193_20 (rw_aload_n (pc' := 21) (v := .ref r0) rfl rfl rfl ?_)
    have k1240 : H1220 r0 4 = H r0 4 := (f1225 r0 4 _ g0 rfl)
    have q1241 : H1220 r0 4 = (rp : Int) := k1240.trans qrp
    have k1242 : H1220 r0 5 = H r0 5 := (f1225 r0 5 _ g0 rfl)
    have q1243 : H1220 r0 5 = (rb : Int) := k1242.trans qrb
    refine wp_of e193 c193_21 (xc_V (pc' := 24) (r := r0) (as := []) (st := []) (lm_9_273) rfl rfl (Nat.le_of_ble_eq_true rfl) w1224 g0 sh_42 (by decide) rfl (by decide) (u_194_o (fo := 3) (po := q) w1224 g0 q1241 grp q1243 grb p1237) (fun R1244 T1245 H1246 p1247 => ?_))
    obtain ⟨e1248, e1250, z1251, e1249, b1252, p1253⟩ := p1247
    subst e1248
    subst e1249
    subst e1250
    obtain ⟨a1254, a1255⟩ := p1253
    show wp _ _ 193 24 [(0, .ref r0)] [vI z1251] _ H1220 _
    have u1256 := RO_k a1255
    refine wp_of e193 c193_24 (rw_istore_n (pc' := 25) (z := z1251) (L' := [(1, vI z1251), (0, .ref r0)]) rfl rfl rfl ?_)
    refine wp_of e193 c193_25 (rw_aload_n (pc' := 26) (v := .ref r0) rfl rfl rfl ?_)
    refine wp_of e193 c193_26 (xg_I (pc' := 29) lf_9_75 w1224 g0 sh_42 (by decide) (by decide) ty_42_9 rfl rfl (fun b1257 b1258 => ?_))
    refine wp_of e193 c193_29 (rw_iconst (pc' := 30) rfl ?_)
    refine wp_of e193 c193_30 (rw_icmp_eq (p1 := 41) (p2 := 33) (by decide) rfl ⟨Int.le_trans (by decide) b1257, Int.le_trans b1258 (by decide)⟩ ⟨by decide, by decide⟩ (fun c1259 => ?_) (fun c1259 => ?_))
    · have o1260 : (xl2 B n q d) = (3, q, q) := by
        unfold xl2 xsex
        repeat first | rw [xs_0 (Int.le_antisymm (by omega -splitDisjunctions) (by omega -splitDisjunctions))] | rw [xs_1 (by omega -splitDisjunctions)] | rw [if_pos (Int.le_antisymm (by omega -splitDisjunctions) (by omega -splitDisjunctions))] | rw [if_pos (by omega -splitDisjunctions)] | rw [if_pos (And.intro (by omega -splitDisjunctions) (by omega -splitDisjunctions))] | rw [if_neg (by omega -splitDisjunctions)] | rw [xs_1 (by omega)] | rw [if_neg (by omega)] | rw [xs_0 (by omega)] | rw [if_pos (by omega)]
        first | done | rfl | assumption | (exfalso; omega -splitDisjunctions) | (refine Prod.ext ?_ (Prod.ext ?_ ?_) <;> (try dsimp only) <;> omega) | (exfalso; omega)
      have o1260a : ((xl2 B n q d)).1 = 3 := by rw [o1260]
      have o1260b : ((xl2 B n q d)).2.1 = q := by rw [o1260]
      have o1260c : ((xl2 B n q d)).2.2 = q := by rw [o1260]
      have h1261 : FZ T H1220 rp N0 H0 := (FZ_fr hW grp f1225 rfl hFZ_rp)
      exact wp_return e193 c193_41 rfl ⟨rfl, w1224, f1228, rfl, (Or.inr ⟨by omega, RO_eq a1255 (by omega) (by omega), h1261⟩)⟩
    · exfalso
      omega
/-! StrikeAwakeModel.readBorn()V k -/
abbrev uq_198_k (r0 : Nat) (rp : Nat) (rb : Nat) (B : Nat → Int) (n : Int) (q : Int) (d : xD) (N0 : Nat) (H0 : wq_H) (T : wq_T) (H : wq_H) : Option Value → wq_T → wq_H → Prop := fun r T' H' => T = T' ∧ WT T H' ∧ wfr [(54, 5), (42, 8), (42, 9), (42, 10), (42, 11), (42, 12), (42, 13), (42, 14), (42, 15), (66, 999)] T H H' ∧ none = r ∧ ((((xl4 B n q d).1 = 0) ∧ ((xl4 B n q d).2.2 = (xN B n (xN B n q))) ∧ (q ≤ (xN B n (xN B n q))) ∧ RC T H' r0 B n (xN B n (xN B n q)) ∧ DM T H' rp r0 (xdbo B n (xN B n q) d) ∧ FZ T H' rp N0 H0) ∨ (((xl4 B n q d).1 ≠ 0) ∧ RO T H' r0 ((xl4 B n q d).1) ((xl4 B n q d).2.1) ∧ FZ T H' rp N0 H0))
set_option maxHeartbeats 4000000 in
theorem u_198_k {kt : Nat → Option mc_E} {T : wq_T} {H : wq_H} {r0 : Nat} {rp : Nat} {rb : Nat} {B : Nat → Int} {n : Int} {q : Int} {d : xD} {N0 : Nat} {H0 : wq_H} (hW : WT T H) (g0 : T.2.2.2 r0 = some 42) (qrp : H r0 4 = (rp : Int)) (grp : T.2.2.2 rp = some 54) (qrb : H r0 5 = (rb : Int)) (grb : T.2.2.2 rb = some 43) (p0 : xK B n q = 1) (hRC_r0 : RC T H r0 B n q) (hDM_rp : DM T H rp r0 d) (hFZ_rp : FZ T H rp N0 H0) : wpc kt 4 198 [.ref r0] T H (uq_198_k r0 rp rb B n q d N0 H0 T H) := by
  refine wp_enter e198 (Nat.le_of_ble_eq_true rfl) rfl ?_
  have f0 : wfr [(54, 5), (42, 8), (42, 9), (42, 10), (42, 11), (42, 12), (42, 13), (42, 14), (42, 15), (66, 999)] T H H := wfr.rf
  show wp _ _ 198 0 [(0, .ref r0)] [] _ H _
  have u1102 := RC_k hRC_r0
  have u1103 := DM_k hDM_rp
  have h1104 : MA9 T H rp (d 1) := hDM_rp.2.2.2.1
  have h1105 : MA10 T H rp (d 2) := hDM_rp.2.2.2.2.1
  have h1106 : MA11 T H rp (d 3) := hDM_rp.2.2.2.2.2.1
  have h1107 : MA12 T H rp (d 4) := hDM_rp.2.2.2.2.2.2.1
  have h1108 : MA13 T H rp (d 5) := hDM_rp.2.2.2.2.2.2.2.1
  have h1109 : MA14 T H rp (d 6) := hDM_rp.2.2.2.2.2.2.2.2.1
  have h1110 : MA15 T H rp (d 7) := hDM_rp.2.2.2.2.2.2.2.2.2.1
  have h1111 : MA16 T H rp (d 8) := hDM_rp.2.2.2.2.2.2.2.2.2.2.1
  have h1112 : MA17 T H rp (d 9) := hDM_rp.2.2.2.2.2.2.2.2.2.2.2.1
  have h1113 : MA18 T H rp (d 10) := hDM_rp.2.2.2.2.2.2.2.2.2.2.2.2.1
  have h1114 : MA19 T H rp (d 11) := hDM_rp.2.2.2.2.2.2.2.2.2.2.2.2.2.1
  have h1115 : MA20 T H rp (d 12) := hDM_rp.2.2.2.2.2.2.2.2.2.2.2.2.2.2.1
  have h1116 : MA21 T H rp (d 13) := hDM_rp.2.2.2.2.2.2.2.2.2.2.2.2.2.2.2.1
  have h1117 : MA22 T H rp (d 14) := hDM_rp.2.2.2.2.2.2.2.2.2.2.2.2.2.2.2.2.1
  have h1118 : MA23 T H rp (d 15) := hDM_rp.2.2.2.2.2.2.2.2.2.2.2.2.2.2.2.2.2.1
  have h1119 : MA25 T H rp (d 17) := hDM_rp.2.2.2.2.2.2.2.2.2.2.2.2.2.2.2.2.2.2.1
  have h1120 : MA26 T H rp (d 16) := hDM_rp.2.2.2.2.2.2.2.2.2.2.2.2.2.2.2.2.2.2.2
  refine wp_of e198 c198_0 (rw_aload_n (pc' := 1) (v := .ref r0) rfl rfl rfl ?_)
  refine wp_of e198 c198_1 (rw_aload_n (pc' := 2) (v := .ref r0) rfl rfl rfl ?_)
  refine wp_of e198 c198_2 (xg_K (pc' := 5) lf_9_166 hW g0 sh_42 (by decide) (by decide) rfl qrp rfl ?_)
  refine wp_of e198 c198_5 (xg_I (pc' := 8) lf_9_288 hW grp sh_54 (by decide) (by decide) ty_54_5 rfl rfl (fun b1121 b1122 => ?_))
  refine wp_of e198 c198_8 (rw_iconst (pc' := 9) rfl ?_)
  refine wp_of e198 c198_9 (xc_V (pc' := 12) (r := r0) (as := [vI (H rp 5), vI 3]) (st := []) (lm_9_228) rfl rfl (Nat.le_of_ble_eq_true rfl) hW g0 sh_42 (by decide) rfl (by decide) (u_188_k (B := B) (n := n) (q := q) hW g0 ⟨Int.le_trans (by decide) b1121, Int.le_trans b1122 (by decide)⟩ ⟨by decide, by decide⟩ qrb grb (by omega) hRC_r0) (fun R1123 T1124 H1125 p1126 => ?_))
  obtain ⟨e1127, w1129, f1130, e1128, p1131⟩ := p1126
  subst e1127
  subst e1128
  rcases p1131 with ⟨a1132, a1133⟩ | ⟨a1134, a1135⟩
  · have f1136 := f0.tr f1130 rfl
    show wp _ _ 198 12 [(0, .ref r0)] [] _ H1125 _
    have u1137 := RC_k a1133
    refine wp_of e198 c198_12 (rw_aload_n (pc' := 13) (v := .ref r0) rfl rfl rfl ?_)
    refine wp_of e198 c198_13 (rw_iconst (pc' := 14) rfl ?_)
    refine wp_of e198 c198_14 (rw_bipush (pc' := 16) (z := 23) rfl (by decide) ?_)
    have k1138 : H1125 r0 5 = H r0 5 := (f1130 r0 5 _ g0 rfl)
    have q1139 : H1125 r0 5 = (rb : Int) := k1138.trans qrb
    refine wp_of e198 c198_16 (xc_V (pc' := 19) (r := r0) (as := [vI 0, vI 23]) (st := []) (lm_9_137) rfl rfl (Nat.le_of_ble_eq_true rfl) w1129 g0 sh_42 (by decide) rfl (by decide) (u_184_k (B := B) (n := n) (q := ((xN B n q))) (lo := 0) (hi := 23) w1129 g0 ⟨by decide, by decide⟩ ⟨by decide, by decide⟩ q1139 grb (by omega) (by omega) a1133) (fun R1140 T1141 H1142 p1143 => ?_))
    obtain ⟨e1144, w1146, f1147, z1148, e1145, b1149, p1150⟩ := p1143
    subst e1144
    subst e1145
    rcases p1150 with ⟨a1151, a1152, a1153, a1154⟩ | ⟨a1155, a1156, a1157⟩
    · have f1158 := f1136.tr f1147 rfl
      show wp _ _ 198 19 [(0, .ref r0)] [vI z1148] _ H1142 _
      have u1159 := RC_k a1154
      refine wp_of e198 c198_19 (rw_istore_n (pc' := 20) (z := z1148) (L' := [(1, vI z1148), (0, .ref r0)]) rfl rfl rfl ?_)
      refine wp_of e198 c198_20 (rw_aload_n (pc' := 21) (v := .ref r0) rfl rfl rfl ?_)
      refine wp_of e198 c198_21 (xg_I (pc' := 24) lf_9_75 w1146 g0 sh_42 (by decide) (by decide) ty_42_9 rfl rfl (fun b1160 b1161 => ?_))
      refine wp_of e198 c198_24 (rw_iconst (pc' := 25) rfl ?_)
      refine wp_of e198 c198_25 (rw_icmp_ne (p1 := 29) (p2 := 28) (by decide) rfl ⟨Int.le_trans (by decide) b1160, Int.le_trans b1161 (by decide)⟩ ⟨by decide, by decide⟩ (fun c1162 => ?_) (fun c1162 => ?_))
      · refine wp_of e198 c198_29 (rw_aload_n (pc' := 30) (v := .ref r0) rfl rfl rfl ?_)
        have k1163 : H1142 r0 4 = H r0 4 := ((f1147 r0 4 _ g0 rfl).trans (f1130 r0 4 _ g0 rfl))
        have q1164 : H1142 r0 4 = (rp : Int) := k1163.trans qrp
        refine wp_of e198 c198_30 (xg_K (pc' := 33) lf_9_166 w1146 g0 sh_42 (by decide) (by decide) rfl q1164 rfl ?_)
        refine wp_of e198 c198_33 (xg_R (pc' := 36) lf_9_291 w1146 grp sh_54 (by decide) (by decide) ty_54_20 rfl rfl (fun r1165 q1166 g1167 => ?_))
        refine wp_of e198 c198_36 (rw_aload_n (pc' := 37) (v := .ref r0) rfl rfl rfl ?_)
        refine wp_of e198 c198_37 (xg_K (pc' := 40) lf_9_166 w1146 g0 sh_42 (by decide) (by decide) rfl q1164 rfl ?_)
        have k1168 : H1142 rp 5 = H rp 5 := ((f1147 rp 5 _ grp rfl).trans (f1130 rp 5 _ grp rfl))
        refine wp_of e198 c198_40 (xg_I (pc' := 43) lf_9_288 w1146 grp sh_54 (by decide) (by decide) ty_54_5 rfl rfl (fun b1169 b1170 => ?_))
        refine wp_of e198 c198_43 (rw_iload_n (pc' := 44) (z := z1148) rfl rfl ?_)
        have h1171 : MA20 T H1142 rp (d 12) := (MA20_fr w1129 grp f1147 rfl (MA20_fr hW grp f1130 rfl h1115))
        have h1172 : FZ T H1142 rp N0 H0 := (FZ_fr w1129 grp f1147 rfl (FZ_fr hW grp f1130 rfl hFZ_rp))
        refine wp_of e198 c198_44 (xs_I (pc' := 45) w1146 g1167 (by decide) sh_66 (by decide) (ty_66 _) (Int.le_trans (by decide) b1149.1) (Int.le_trans b1149.2 (by decide)) ⟨Int.le_trans (by decide) b1149.1, Int.le_trans b1149.2 (by decide)⟩ (b1169) (by omega) rfl (fun H1173 e1174 w1175 => ?_))
        have f1176 := f1158.put' e1174 g1167 rfl
        have h1177 : MA20 T H1173 rp (xdbo B n (xN B n q) d 12) := MA_put h1171 q1166 grp g1167 (by decide) e1174 ((xdbo_c (k := ((H1142 rp 5).toNat)) (by omega)).1.trans (by omega)) (xdbo_c (k := ((H1142 rp 5).toNat)) (by omega)).2
        have h1178 : FZ T H1173 rp N0 H0 := FZ_st h1172 q1166 (by decide) (by decide) grp g1167 (by decide) e1174
        refine wp_of e198 c198_45 (rw_aload_n (pc' := 46) (v := .ref r0) rfl rfl rfl ?_)
        have k1179 : H1173 r0 4 = H1142 r0 4 := (wq_u_t e1174 g1167 g0 rfl 4)
        have q1180 : H1173 r0 4 = (rp : Int) := k1179.trans q1164
        refine wp_of e198 c198_46 (xg_K (pc' := 49) lf_9_166 w1175 g0 sh_42 (by decide) (by decide) rfl q1180 rfl ?_)
        refine wp_of e198 c198_49 (rw_dup (pc' := 50) rfl rfl ?_)
        have k1181 : H1173 rp 5 = H1142 rp 5 := (wq_u_t e1174 g1167 grp rfl 5)
        refine wp_of e198 c198_50 (xg_I (pc' := 53) lf_9_288 w1175 grp sh_54 (by decide) (by decide) ty_54_5 rfl rfl (fun b1182 b1183 => ?_))
        refine wp_of e198 c198_53 (rw_iconst (pc' := 54) rfl ?_)
        refine wp_of e198 c198_54 (rw_iadd (pc' := 55) rfl ?_)
        refine wp_of e198 c198_55 (xp_I (pc' := 58) lf_9_288 w1175 grp sh_54 (by decide) (by decide) ty_54_5 rfl rfl (by omega) (by omega) ⟨by omega, by omega⟩ rfl (fun H1184 e1185 w1186 => ?_))
        have f1187 := f1176.put' e1185 grp rfl
        have k1188 : H1184 rp 5 = (H1173 rp 5) + 1 := wq_u_s e1185
        have h1189 : FZ T H1184 rp N0 H0 := FZ_put h1178 (by decide) e1185
        have k1190 : H1184 rp 0 = H rp 0 := ((wq_u_j e1185 rfl).trans ((wq_u_t e1174 g1167 grp rfl 0).trans ((f1147 rp 0 _ grp rfl).trans (f1130 rp 0 _ grp rfl))))
        have k1191 : H1184 rp 1 = H rp 1 := ((wq_u_j e1185 rfl).trans ((wq_u_t e1174 g1167 grp rfl 1).trans ((f1147 rp 1 _ grp rfl).trans (f1130 rp 1 _ grp rfl))))
        have k1192 : H1184 rp 2 = H rp 2 := ((wq_u_j e1185 rfl).trans ((wq_u_t e1174 g1167 grp rfl 2).trans ((f1147 rp 2 _ grp rfl).trans (f1130 rp 2 _ grp rfl))))
        have k1193 : H1184 rp 3 = H rp 3 := ((wq_u_j e1185 rfl).trans ((wq_u_t e1174 g1167 grp rfl 3).trans ((f1147 rp 3 _ grp rfl).trans (f1130 rp 3 _ grp rfl))))
        have k1194 : H1184 rp 4 = H rp 4 := ((wq_u_j e1185 rfl).trans ((wq_u_t e1174 g1167 grp rfl 4).trans ((f1147 rp 4 _ grp rfl).trans (f1130 rp 4 _ grp rfl))))
        have k1195 : H1184 rp 6 = H rp 6 := ((wq_u_j e1185 rfl).trans ((wq_u_t e1174 g1167 grp rfl 6).trans ((f1147 rp 6 _ grp rfl).trans (f1130 rp 6 _ grp rfl))))
        have k1196 : H1184 rp 7 = H rp 7 := ((wq_u_j e1185 rfl).trans ((wq_u_t e1174 g1167 grp rfl 7).trans ((f1147 rp 7 _ grp rfl).trans (f1130 rp 7 _ grp rfl))))
        have k1197 : H1184 rp 8 = H rp 8 := ((wq_u_j e1185 rfl).trans ((wq_u_t e1174 g1167 grp rfl 8).trans ((f1147 rp 8 _ grp rfl).trans (f1130 rp 8 _ grp rfl))))
        have k1198 : H1184 r0 16 = H r0 16 := ((wq_u_t e1185 grp g0 rfl 16).trans ((wq_u_t e1174 g1167 g0 rfl 16).trans ((f1147 r0 16 _ g0 rfl).trans (f1130 r0 16 _ g0 rfl))))
        have o1199 : (xl4 B n q d) = (0, (xN B n q), (xN B n ((xN B n q)))) := by
          unfold xl4 xbo
          repeat first | rw [xs_0 (Int.le_antisymm (by omega -splitDisjunctions) (by omega -splitDisjunctions))] | rw [xs_1 (by omega -splitDisjunctions)] | rw [if_pos (Int.le_antisymm (by omega -splitDisjunctions) (by omega -splitDisjunctions))] | rw [if_pos (by omega -splitDisjunctions)] | rw [if_pos (And.intro (by omega -splitDisjunctions) (by omega -splitDisjunctions))] | rw [if_neg (by omega -splitDisjunctions)] | rw [xs_1 (by omega)] | rw [if_neg (by omega)] | rw [xs_0 (by omega)] | rw [if_pos (by omega)]
          first | done | rfl | assumption | (exfalso; omega -splitDisjunctions) | (refine Prod.ext ?_ (Prod.ext ?_ ?_) <;> (try dsimp only) <;> omega) | (exfalso; omega)
        have o1199a : ((xl4 B n q d)).1 = 0 := by rw [o1199]
        have o1199b : ((xl4 B n q d)).2.1 = (xN B n q) := by rw [o1199]
        have o1199c : ((xl4 B n q d)).2.2 = (xN B n ((xN B n q))) := by rw [o1199]
        have _l := @xdbo_v B n (xN B n q) d
        have h1200 : RC T H1184 r0 B n (xN B n ((xN B n q))) := (RC_fr w1175 g0 ((wfr.rf (l := [(54, 5)])).put' e1185 grp rfl) rfl (RC_fr w1146 g0 ((wfr.rf (l := [(66, 999)])).put' e1174 g1167 rfl) rfl a1154))
        have h1201 : MA9 T H1184 rp (d 1) := (MA9_fr w1175 grp ((wfr.rf (l := [(54, 5)])).put' e1185 grp rfl) rfl (MA9_fr w1146 grp ((wfr.rf (l := [(66, 999)])).put' e1174 g1167 rfl) rfl (MA9_fr w1129 grp f1147 rfl (MA9_fr hW grp f1130 rfl h1104))))
        have h1202 : MA10 T H1184 rp (d 2) := (MA10_fr w1175 grp ((wfr.rf (l := [(54, 5)])).put' e1185 grp rfl) rfl (MA10_fr w1146 grp ((wfr.rf (l := [(66, 999)])).put' e1174 g1167 rfl) rfl (MA10_fr w1129 grp f1147 rfl (MA10_fr hW grp f1130 rfl h1105))))
        have h1203 : MA11 T H1184 rp (d 3) := (MA11_fr w1175 grp ((wfr.rf (l := [(54, 5)])).put' e1185 grp rfl) rfl (MA11_fr w1146 grp ((wfr.rf (l := [(66, 999)])).put' e1174 g1167 rfl) rfl (MA11_fr w1129 grp f1147 rfl (MA11_fr hW grp f1130 rfl h1106))))
        have h1204 : MA12 T H1184 rp (d 4) := (MA12_fr w1175 grp ((wfr.rf (l := [(54, 5)])).put' e1185 grp rfl) rfl (MA12_fr w1146 grp ((wfr.rf (l := [(66, 999)])).put' e1174 g1167 rfl) rfl (MA12_fr w1129 grp f1147 rfl (MA12_fr hW grp f1130 rfl h1107))))
        have h1205 : MA13 T H1184 rp (d 5) := (MA13_fr w1175 grp ((wfr.rf (l := [(54, 5)])).put' e1185 grp rfl) rfl (MA13_fr w1146 grp ((wfr.rf (l := [(66, 999)])).put' e1174 g1167 rfl) rfl (MA13_fr w1129 grp f1147 rfl (MA13_fr hW grp f1130 rfl h1108))))
        have h1206 : MA14 T H1184 rp (d 6) := (MA14_fr w1175 grp ((wfr.rf (l := [(54, 5)])).put' e1185 grp rfl) rfl (MA14_fr w1146 grp ((wfr.rf (l := [(66, 999)])).put' e1174 g1167 rfl) rfl (MA14_fr w1129 grp f1147 rfl (MA14_fr hW grp f1130 rfl h1109))))
        have h1207 : MA15 T H1184 rp (d 7) := (MA15_fr w1175 grp ((wfr.rf (l := [(54, 5)])).put' e1185 grp rfl) rfl (MA15_fr w1146 grp ((wfr.rf (l := [(66, 999)])).put' e1174 g1167 rfl) rfl (MA15_fr w1129 grp f1147 rfl (MA15_fr hW grp f1130 rfl h1110))))
        have h1208 : MA16 T H1184 rp (d 8) := (MA16_fr w1175 grp ((wfr.rf (l := [(54, 5)])).put' e1185 grp rfl) rfl (MA16_fr w1146 grp ((wfr.rf (l := [(66, 999)])).put' e1174 g1167 rfl) rfl (MA16_fr w1129 grp f1147 rfl (MA16_fr hW grp f1130 rfl h1111))))
        have h1209 : MA17 T H1184 rp (d 9) := (MA17_fr w1175 grp ((wfr.rf (l := [(54, 5)])).put' e1185 grp rfl) rfl (MA17_fr w1146 grp ((wfr.rf (l := [(66, 999)])).put' e1174 g1167 rfl) rfl (MA17_fr w1129 grp f1147 rfl (MA17_fr hW grp f1130 rfl h1112))))
        have h1210 : MA18 T H1184 rp (d 10) := (MA18_fr w1175 grp ((wfr.rf (l := [(54, 5)])).put' e1185 grp rfl) rfl (MA18_fr w1146 grp ((wfr.rf (l := [(66, 999)])).put' e1174 g1167 rfl) rfl (MA18_fr w1129 grp f1147 rfl (MA18_fr hW grp f1130 rfl h1113))))
        have h1211 : MA19 T H1184 rp (d 11) := (MA19_fr w1175 grp ((wfr.rf (l := [(54, 5)])).put' e1185 grp rfl) rfl (MA19_fr w1146 grp ((wfr.rf (l := [(66, 999)])).put' e1174 g1167 rfl) rfl (MA19_fr w1129 grp f1147 rfl (MA19_fr hW grp f1130 rfl h1114))))
        have h1212 : MA20 T H1184 rp (xdbo B n (xN B n q) d 12) := (MA20_fr w1175 grp ((wfr.rf (l := [(54, 5)])).put' e1185 grp rfl) rfl h1177)
        have h1213 : MA21 T H1184 rp (d 13) := (MA21_fr w1175 grp ((wfr.rf (l := [(54, 5)])).put' e1185 grp rfl) rfl (MA21_fr w1146 grp ((wfr.rf (l := [(66, 999)])).put' e1174 g1167 rfl) rfl (MA21_fr w1129 grp f1147 rfl (MA21_fr hW grp f1130 rfl h1116))))
        have h1214 : MA22 T H1184 rp (d 14) := (MA22_fr w1175 grp ((wfr.rf (l := [(54, 5)])).put' e1185 grp rfl) rfl (MA22_fr w1146 grp ((wfr.rf (l := [(66, 999)])).put' e1174 g1167 rfl) rfl (MA22_fr w1129 grp f1147 rfl (MA22_fr hW grp f1130 rfl h1117))))
        have h1215 : MA23 T H1184 rp (d 15) := (MA23_fr w1175 grp ((wfr.rf (l := [(54, 5)])).put' e1185 grp rfl) rfl (MA23_fr w1146 grp ((wfr.rf (l := [(66, 999)])).put' e1174 g1167 rfl) rfl (MA23_fr w1129 grp f1147 rfl (MA23_fr hW grp f1130 rfl h1118))))
        have h1216 : MA25 T H1184 rp (d 17) := (MA25_fr w1175 grp ((wfr.rf (l := [(54, 5)])).put' e1185 grp rfl) rfl (MA25_fr w1146 grp ((wfr.rf (l := [(66, 999)])).put' e1174 g1167 rfl) rfl (MA25_fr w1129 grp f1147 rfl (MA25_fr hW grp f1130 rfl h1119))))
        have h1217 : MA26 T H1184 rp (d 16) := (MA26_fr w1175 grp ((wfr.rf (l := [(54, 5)])).put' e1185 grp rfl) rfl (MA26_fr w1146 grp ((wfr.rf (l := [(66, 999)])).put' e1174 g1167 rfl) rfl (MA26_fr w1129 grp f1147 rfl (MA26_fr hW grp f1130 rfl h1120))))
        exact wp_return e198 c198_58 rfl ⟨rfl, w1186, f1187, rfl, (Or.inl ⟨by omega, by omega, by omega, h1200, DM_mk hDM_rp.1 ⟨by omega, by omega, by omega, by omega, by omega, by omega, by omega, by omega, by omega, by omega, by omega, by omega⟩ (xdP_cg hDM_rp.2.2.1 (fun i h1 h2 => by unfold xdbo; rw [wq_u_row (by omega), wq_u_row (by omega)])) h1201 h1202 h1203 h1204 h1205 h1206 h1207 h1208 h1209 h1210 h1211 h1212 h1213 h1214 h1215 h1216 h1217 ⟨(by unfold xdbo; rw [wq_u_row (by decide), wq_u_row (by decide)]), (by unfold xdbo; rw [wq_u_row (by decide), wq_u_row (by decide)]), (by unfold xdbo; rw [wq_u_row (by decide), wq_u_row (by decide)]), (by unfold xdbo; rw [wq_u_row (by decide), wq_u_row (by decide)]), (by unfold xdbo; rw [wq_u_row (by decide), wq_u_row (by decide)]), (by unfold xdbo; rw [wq_u_row (by decide), wq_u_row (by decide)]), (by unfold xdbo; rw [wq_u_row (by decide), wq_u_row (by decide)]), (by unfold xdbo; rw [wq_u_row (by decide), wq_u_row (by decide)]), (by unfold xdbo; rw [wq_u_row (by decide), wq_u_row (by decide)]), (by unfold xdbo; rw [wq_u_row (by decide), wq_u_row (by decide)]), (by unfold xdbo; rw [wq_u_row (by decide), wq_u_row (by decide)]), rfl, (by unfold xdbo; rw [wq_u_row (by decide), wq_u_row (by decide)]), (by unfold xdbo; rw [wq_u_row (by decide), wq_u_row (by decide)]), (by unfold xdbo; rw [wq_u_row (by decide), wq_u_row (by decide)]), (by unfold xdbo; rw [wq_u_row (by decide), wq_u_row (by decide)]), (by unfold xdbo; rw [wq_u_row (by decide), wq_u_row (by decide)])⟩, h1189⟩)⟩
      · exfalso
        omega
    · have f1218 := f1136.tr f1147 rfl
      show wp _ _ 198 19 [(0, .ref r0)] [vI z1148] _ H1142 _
      have u1219 := RO_k a1157
      refine wp_of e198 c198_19 (rw_istore_n (pc' := 20) (z := z1148) (L' := [(1, vI z1148), (0, .ref r0)]) rfl rfl rfl ?_)
      refine wp_of e198 c198_20 (rw_aload_n (pc' := 21) (v := .ref r0) rfl rfl rfl ?_)
      refine wp_of e198 c198_21 (xg_I (pc' := 24) lf_9_75 w1146 g0 sh_42 (by decide) (by decide) ty_42_9 rfl rfl (fun b1220 b1221 => ?_))
      refine wp_of e198 c198_24 (rw_iconst (pc' := 25) rfl ?_)
      refine wp_of e198 c198_25 (rw_icmp_ne (p1 := 29) (p2 := 28) (by decide) rfl ⟨Int.le_trans (by decide) b1220, Int.le_trans b1221 (by decide)⟩ ⟨by decide, by decide⟩ (fun c1222 => ?_) (fun c1222 => ?_))
      · exfalso
        omega
      · have o1223 : (xl4 B n q d) = (xh B n ((xN B n q)) 0 23, ((xN B n q)), ((xN B n q))) := by
          unfold xl4 xbo
          repeat first | rw [xs_0 (Int.le_antisymm (by omega -splitDisjunctions) (by omega -splitDisjunctions))] | rw [xs_1 (by omega -splitDisjunctions)] | rw [if_pos (Int.le_antisymm (by omega -splitDisjunctions) (by omega -splitDisjunctions))] | rw [if_pos (by omega -splitDisjunctions)] | rw [if_pos (And.intro (by omega -splitDisjunctions) (by omega -splitDisjunctions))] | rw [if_neg (by omega -splitDisjunctions)] | rw [xs_1 (by omega)] | rw [if_neg (by omega)] | rw [xs_0 (by omega)] | rw [if_pos (by omega)]
          first | done | rfl | assumption | (exfalso; omega -splitDisjunctions) | (refine Prod.ext ?_ (Prod.ext ?_ ?_) <;> (try dsimp only) <;> omega) | (exfalso; omega)
        have o1223a : ((xl4 B n q d)).1 = xh B n ((xN B n q)) 0 23 := by rw [o1223]
        have o1223b : ((xl4 B n q d)).2.1 = ((xN B n q)) := by rw [o1223]
        have o1223c : ((xl4 B n q d)).2.2 = ((xN B n q)) := by rw [o1223]
        have h1224 : FZ T H1142 rp N0 H0 := (FZ_fr w1129 grp f1147 rfl (FZ_fr hW grp f1130 rfl hFZ_rp))
        exact wp_return e198 c198_28 rfl ⟨rfl, w1146, f1218, rfl, (Or.inr ⟨by omega, RO_eq a1157 (by omega) (by omega), h1224⟩)⟩
  · have f1225 := f0.tr f1130 rfl
    show wp _ _ 198 12 [(0, .ref r0)] [] _ H1125 _
    have u1226 := RO_k a1135
    refine wp_of e198 c198_12 (rw_aload_n (pc' := 13) (v := .ref r0) rfl rfl rfl ?_)
    refine wp_of e198 c198_13 (rw_iconst (pc' := 14) rfl ?_)
    refine wp_of e198 c198_14 (rw_bipush (pc' := 16) (z := 23) rfl (by decide) ?_)
    have k1227 : H1125 r0 5 = H r0 5 := (f1130 r0 5 _ g0 rfl)
    have q1228 : H1125 r0 5 = (rb : Int) := k1227.trans qrb
    refine wp_of e198 c198_16 (xc_V (pc' := 19) (r := r0) (as := [vI 0, vI 23]) (st := []) (lm_9_137) rfl rfl (Nat.le_of_ble_eq_true rfl) w1129 g0 sh_42 (by decide) rfl (by decide) (u_184_o (fo := 5) (po := q) w1129 g0 ⟨by decide, by decide⟩ ⟨by decide, by decide⟩ q1228 grb a1135) (fun R1229 T1230 H1231 p1232 => ?_))
    obtain ⟨e1233, e1235, z1236, e1234, b1237, p1238⟩ := p1232
    subst e1233
    subst e1234
    subst e1235
    obtain ⟨a1239, a1240⟩ := p1238
    show wp _ _ 198 19 [(0, .ref r0)] [vI z1236] _ H1125 _
    have u1241 := RO_k a1240
    refine wp_of e198 c198_19 (rw_istore_n (pc' := 20) (z := z1236) (L' := [(1, vI z1236), (0, .ref r0)]) rfl rfl rfl ?_)
    refine wp_of e198 c198_20 (rw_aload_n (pc' := 21) (v := .ref r0) rfl rfl rfl ?_)
    refine wp_of e198 c198_21 (xg_I (pc' := 24) lf_9_75 w1129 g0 sh_42 (by decide) (by decide) ty_42_9 rfl rfl (fun b1242 b1243 => ?_))
    refine wp_of e198 c198_24 (rw_iconst (pc' := 25) rfl ?_)
    refine wp_of e198 c198_25 (rw_icmp_ne (p1 := 29) (p2 := 28) (by decide) rfl ⟨Int.le_trans (by decide) b1242, Int.le_trans b1243 (by decide)⟩ ⟨by decide, by decide⟩ (fun c1244 => ?_) (fun c1244 => ?_))
    · exfalso
      omega
    · have o1245 : (xl4 B n q d) = (5, q, q) := by
        unfold xl4 xbo
        repeat first | rw [xs_0 (Int.le_antisymm (by omega -splitDisjunctions) (by omega -splitDisjunctions))] | rw [xs_1 (by omega -splitDisjunctions)] | rw [if_pos (Int.le_antisymm (by omega -splitDisjunctions) (by omega -splitDisjunctions))] | rw [if_pos (by omega -splitDisjunctions)] | rw [if_pos (And.intro (by omega -splitDisjunctions) (by omega -splitDisjunctions))] | rw [if_neg (by omega -splitDisjunctions)] | rw [xs_1 (by omega)] | rw [if_neg (by omega)] | rw [xs_0 (by omega)] | rw [if_pos (by omega)]
        first | done | rfl | assumption | (exfalso; omega -splitDisjunctions) | (refine Prod.ext ?_ (Prod.ext ?_ ?_) <;> (try dsimp only) <;> omega) | (exfalso; omega)
      have o1245a : ((xl4 B n q d)).1 = 5 := by rw [o1245]
      have o1245b : ((xl4 B n q d)).2.1 = q := by rw [o1245]
      have o1245c : ((xl4 B n q d)).2.2 = q := by rw [o1245]
      have h1246 : FZ T H1125 rp N0 H0 := (FZ_fr hW grp f1130 rfl hFZ_rp)
      exact wp_return e198 c198_28 rfl ⟨rfl, w1129, f1225, rfl, (Or.inr ⟨by omega, RO_eq a1240 (by omega) (by omega), h1246⟩)⟩
/-! StrikeAwakeModel.readHours()I k -/
abbrev uq_201_k (r0 : Nat) (rp : Nat) (rb : Nat) (B : Nat → Int) (n : Int) (q : Int) (d : xD) (T : wq_T) (H : wq_H) : Option Value → wq_T → wq_H → Prop := fun r T' H' => T = T' ∧ WT T H' ∧ wfr [(42, 8), (42, 9), (42, 10), (42, 11), (42, 12), (42, 13), (42, 14), (42, 15), (42, 17), (42, 18)] T H H' ∧ ∃ z : Int, some (vI z) = r ∧ (0 ≤ z ∧ z ≤ 5) ∧ (((0 ≤ z ∧ z ≤ 5) ∧ ((xtl B n q d).1 = 0) ∧ (xtl B n q d = (0, q, (xN B n (xN B n (xN B n (xN B n q)))))) ∧ (z = xwho B n q d) ∧ (z < d 0 3) ∧ (H' r0 17 = xV B n (xN B n q)) ∧ (H' r0 18 = xV B n (xN B n (xN B n (xN B n q)))) ∧ (0 ≤ xV B n (xN B n q) ∧ xV B n (xN B n q) ≤ 23) ∧ (xV B n (xN B n q) + 1 ≤ xV B n (xN B n (xN B n (xN B n q))) ∧ xV B n (xN B n (xN B n (xN B n q))) ≤ 24) ∧ (q ≤ (xN B n (xN B n (xN B n (xN B n q))))) ∧ RC T H' r0 B n (xN B n (xN B n (xN B n (xN B n q))))) ∨ ((0 ≤ z ∧ z ≤ 5) ∧ ((xtl B n q d).1 ≠ 0) ∧ RO T H' r0 ((xtl B n q d).1) ((xtl B n q d).2.1)))
set_option maxHeartbeats 4000000 in
theorem u_201_k {kt : Nat → Option mc_E} {T : wq_T} {H : wq_H} {r0 : Nat} {rp : Nat} {rb : Nat} {B : Nat → Int} {n : Int} {q : Int} {d : xD} (hW : WT T H) (g0 : T.2.2.2 r0 = some 42) (qrp : H r0 4 = (rp : Int)) (grp : T.2.2.2 rp = some 54) (qrb : H r0 5 = (rb : Int)) (grb : T.2.2.2 rb = some 43) (hRC_r0 : RC T H r0 B n q) (hDM_rp : DM T H rp r0 d) : wpc kt 6 201 [.ref r0] T H (uq_201_k r0 rp rb B n q d T H) := by
  refine wp_enter e201 (Nat.le_of_ble_eq_true rfl) rfl ?_
  have f0 : wfr [(42, 8), (42, 9), (42, 10), (42, 11), (42, 12), (42, 13), (42, 14), (42, 15), (42, 17), (42, 18)] T H H := wfr.rf
  show wp _ _ 201 0 [(0, .ref r0)] [] _ H _
  have u1161 := RC_k hRC_r0
  have u1162 := DM_k hDM_rp
  refine wp_of e201 c201_0 (rw_aload_n (pc' := 1) (v := .ref r0) rfl rfl rfl ?_)
  refine wp_of e201 c201_1 (xc_V (pc' := 4) (r := r0) (as := []) (st := []) (lm_9_273) rfl rfl (Nat.le_of_ble_eq_true rfl) hW g0 sh_42 (by decide) rfl (by decide) (u_194_k (B := B) (n := n) (q := q) (d := d) hW g0 qrp grp qrb grb hRC_r0 hDM_rp) (fun R1163 T1164 H1165 p1166 => ?_))
  obtain ⟨e1167, w1169, f1170, z1171, e1168, b1172, p1173⟩ := p1166
  subst e1167
  subst e1168
  rcases p1173 with ⟨a1174, a1175, a1176, a1177, a1178⟩ | ⟨a1179, a1180, a1181⟩
  · have f1182 := f0.tr f1170 rfl
    show wp _ _ 201 4 [(0, .ref r0)] [vI z1171] _ H1165 _
    have u1183 := RC_k a1178
    refine wp_of e201 c201_4 (rw_istore_n (pc' := 5) (z := z1171) (L' := [(1, vI z1171), (0, .ref r0)]) rfl rfl rfl ?_)
    refine wp_of e201 c201_5 (rw_aload_n (pc' := 6) (v := .ref r0) rfl rfl rfl ?_)
    refine wp_of e201 c201_6 (rw_aload_n (pc' := 7) (v := .ref r0) rfl rfl rfl ?_)
    refine wp_of e201 c201_7 (rw_iconst (pc' := 8) rfl ?_)
    refine wp_of e201 c201_8 (rw_bipush (pc' := 10) (z := 23) rfl (by decide) ?_)
    have k1184 : H1165 r0 5 = H r0 5 := (f1170 r0 5 _ g0 rfl)
    have q1185 : H1165 r0 5 = (rb : Int) := k1184.trans qrb
    refine wp_of e201 c201_10 (xc_V (pc' := 13) (r := r0) (as := [vI 0, vI 23]) (st := [.ref r0]) (lm_9_137) rfl rfl (Nat.le_of_ble_eq_true rfl) w1169 g0 sh_42 (by decide) rfl (by decide) (u_184_k (B := B) (n := n) (q := ((xN B n q))) (lo := 0) (hi := 23) w1169 g0 ⟨by decide, by decide⟩ ⟨by decide, by decide⟩ q1185 grb (by omega) (by omega) a1178) (fun R1186 T1187 H1188 p1189 => ?_))
    obtain ⟨e1190, w1192, f1193, z1194, e1191, b1195, p1196⟩ := p1189
    subst e1190
    subst e1191
    rcases p1196 with ⟨a1197, a1198, a1199, a1200⟩ | ⟨a1201, a1202, a1203⟩
    · have f1204 := f1182.tr f1193 rfl
      show wp _ _ 201 13 [(1, vI z1171), (0, .ref r0)] [vI z1194, .ref r0] _ H1188 _
      have u1205 := RC_k a1200
      refine wp_of e201 c201_13 (xp_I (pc' := 16) lf_9_300 w1192 g0 sh_42 (by decide) (by decide) ty_42_17 rfl rfl (Int.le_trans (by decide) b1195.1) (Int.le_trans b1195.2 (by decide)) ⟨Int.le_trans (by decide) b1195.1, Int.le_trans b1195.2 (by decide)⟩ rfl (fun H1206 e1207 w1208 => ?_))
      have f1209 := f1204.put' e1207 g0 rfl
      have k1210 : H1206 r0 17 = z1194 := wq_u_s e1207
      refine wp_of e201 c201_16 (rw_aload_n (pc' := 17) (v := .ref r0) rfl rfl rfl ?_)
      refine wp_of e201 c201_17 (rw_aload_n (pc' := 18) (v := .ref r0) rfl rfl rfl ?_)
      refine wp_of e201 c201_18 (rw_ldcS (pc' := 20) (k := 87) rfl rfl rfl rfl ?_)
      refine wp_of e201 c201_20 (rw_aload_n (pc' := 21) (v := .ref r0) rfl rfl rfl ?_)
      refine wp_of e201 c201_21 (xg_I (pc' := 24) lf_9_300 w1208 g0 sh_42 (by decide) (by decide) ty_42_17 rfl rfl (fun b1211 b1212 => ?_))
      refine wp_of e201 c201_24 (rw_iconst (pc' := 25) rfl ?_)
      refine wp_of e201 c201_25 (rw_iadd (pc' := 26) rfl ?_)
      refine wp_of e201 c201_26 (rw_bipush (pc' := 28) (z := 24) rfl (by decide) ?_)
      have k1213 : H1206 r0 5 = H1165 r0 5 := ((wq_u_j e1207 rfl).trans (f1193 r0 5 _ g0 rfl))
      have q1214 : H1206 r0 5 = (rb : Int) := k1213.trans q1185
      have h1215 : RC T H1206 r0 B n (xN B n ((xN B n q))) := (RC_fr w1192 g0 ((wfr.rf (l := [(42, 17)])).put' e1207 g0 rfl) rfl a1200)
      refine wp_of e201 c201_28 (xc_V (pc' := 31) (r := r0) (as := [.ref 87, vI ((H1206 r0 17) + 1), vI 24]) (st := [.ref r0]) (lm_9_216) rfl rfl (Nat.le_of_ble_eq_true rfl) w1208 g0 sh_42 (by decide) rfl (by decide) (u_182_k (B := B) (n := n) (q := ((xN B n ((xN B n q))))) (kk := 655) (lo := (xV B n (xN B n q) + 1)) (hi := (min (xV B n (xN B n q) + 24) 24)) w1208 g0 rfl ⟨by omega, by omega⟩ ⟨by decide, by decide⟩ q1214 grb (by decide +kernel) (by omega) (by omega) h1215) (fun R1216 T1217 H1218 p1219 => ?_))
      obtain ⟨e1220, w1222, f1223, z1224, e1221, b1225, p1226⟩ := p1219
      subst e1220
      subst e1221
      rcases p1226 with ⟨a1227, a1228, a1229, a1230, a1231, a1232⟩ | ⟨a1233, a1234, a1235⟩ | ⟨a1236, a1237, a1238, a1239⟩
      · have f1240 := f1209.tr f1223 rfl
        show wp _ _ 201 31 [(1, vI z1171), (0, .ref r0)] [vI z1224, .ref r0] _ H1218 _
        have u1241 := RC_k a1232
        refine wp_of e201 c201_31 (xp_I (pc' := 34) lf_9_303 w1222 g0 sh_42 (by decide) (by decide) ty_42_18 rfl rfl (Int.le_trans (by decide) b1225.1) (Int.le_trans b1225.2 (by decide)) ⟨Int.le_trans (by decide) b1225.1, Int.le_trans b1225.2 (by decide)⟩ rfl (fun H1242 e1243 w1244 => ?_))
        have f1245 := f1240.put' e1243 g0 rfl
        have k1246 : H1242 r0 18 = z1224 := wq_u_s e1243
        refine wp_of e201 c201_34 (rw_iload_n (pc' := 35) (z := z1171) rfl rfl ?_)
        have k1247 : H1242 r0 17 = H1206 r0 17 := ((wq_u_j e1243 rfl).trans (f1223 r0 17 _ g0 rfl))
        have o1248 : (xtl B n q d) = (0, q, (xN B n (xN B n ((xN B n ((xN B n q))))))) := by
          unfold xtl xrg
          try simp only [xs_xs, xs_z]
          repeat first | rw [xs_0 (Int.le_antisymm (by omega -splitDisjunctions) (by omega -splitDisjunctions))] | rw [xs_1 (by omega -splitDisjunctions)] | rw [if_pos (Int.le_antisymm (by omega -splitDisjunctions) (by omega -splitDisjunctions))] | rw [if_pos (by omega -splitDisjunctions)] | rw [if_pos (And.intro (by omega -splitDisjunctions) (by omega -splitDisjunctions))] | rw [if_neg (by omega -splitDisjunctions)] | rw [xs_1 (by omega)] | rw [if_neg (by omega)] | rw [xs_0 (by omega)] | rw [if_pos (by omega)]
          first | done | rfl | assumption | (exfalso; omega -splitDisjunctions) | (refine Prod.ext ?_ (Prod.ext ?_ ?_) <;> (try dsimp only) <;> omega) | (exfalso; omega)
        have o1248a : ((xtl B n q d)).1 = 0 := by rw [o1248]
        have o1248b : ((xtl B n q d)).2.1 = q := by rw [o1248]
        have o1248c : ((xtl B n q d)).2.2 = (xN B n (xN B n ((xN B n ((xN B n q)))))) := by rw [o1248]
        have h1249 : RC T H1242 r0 B n (xN B n (xN B n ((xN B n ((xN B n q)))))) := (RC_fr w1222 g0 ((wfr.rf (l := [(42, 18)])).put' e1243 g0 rfl) rfl a1232)
        exact wp_ireturn e201 c201_35 rfl ⟨rfl, w1244, f1245, z1171, rfl, ⟨b1172.1, b1172.2⟩, (Or.inl ⟨by omega, by omega, o1248, by omega, by omega, by omega, by omega, by omega, by omega, by omega, h1249⟩)⟩
      · have f1250 := f1209.tr f1223 rfl
        show wp _ _ 201 31 [(1, vI z1171), (0, .ref r0)] [vI z1224, .ref r0] _ H1218 _
        have u1251 := RO_k a1235
        refine wp_of e201 c201_31 (xp_I (pc' := 34) lf_9_303 w1222 g0 sh_42 (by decide) (by decide) ty_42_18 rfl rfl (Int.le_trans (by decide) b1225.1) (Int.le_trans b1225.2 (by decide)) ⟨Int.le_trans (by decide) b1225.1, Int.le_trans b1225.2 (by decide)⟩ rfl (fun H1252 e1253 w1254 => ?_))
        have f1255 := f1250.put' e1253 g0 rfl
        have k1256 : H1252 r0 18 = z1224 := wq_u_s e1253
        refine wp_of e201 c201_34 (rw_iload_n (pc' := 35) (z := z1171) rfl rfl ?_)
        have o1257 : (xtl B n q d) = (xw B n ((xN B n ((xN B n q)))) 655, ((xN B n ((xN B n q)))), ((xN B n ((xN B n q))))) := by
          unfold xtl xrg
          try simp only [xs_xs, xs_z]
          repeat first | rw [xs_0 (Int.le_antisymm (by omega -splitDisjunctions) (by omega -splitDisjunctions))] | rw [xs_1 (by omega -splitDisjunctions)] | rw [if_pos (Int.le_antisymm (by omega -splitDisjunctions) (by omega -splitDisjunctions))] | rw [if_pos (by omega -splitDisjunctions)] | rw [if_pos (And.intro (by omega -splitDisjunctions) (by omega -splitDisjunctions))] | rw [if_neg (by omega -splitDisjunctions)] | rw [xs_1 (by omega)] | rw [if_neg (by omega)] | rw [xs_0 (by omega)] | rw [if_pos (by omega)]
          first | done | rfl | assumption | (exfalso; omega -splitDisjunctions) | (refine Prod.ext ?_ (Prod.ext ?_ ?_) <;> (try dsimp only) <;> omega) | (exfalso; omega)
        have o1257a : ((xtl B n q d)).1 = xw B n ((xN B n ((xN B n q)))) 655 := by rw [o1257]
        have o1257b : ((xtl B n q d)).2.1 = ((xN B n ((xN B n q)))) := by rw [o1257]
        have o1257c : ((xtl B n q d)).2.2 = ((xN B n ((xN B n q)))) := by rw [o1257]
        have h1258 : RO T H1252 r0 (xw B n ((xN B n ((xN B n q)))) 655) ((xN B n ((xN B n q)))) := (RO_fr w1222 g0 ((wfr.rf (l := [(42, 18)])).put' e1253 g0 rfl) rfl a1235)
        exact wp_ireturn e201 c201_35 rfl ⟨rfl, w1254, f1255, z1171, rfl, ⟨b1172.1, b1172.2⟩, (Or.inr ⟨by omega, by omega, RO_eq h1258 (by omega) (by omega)⟩)⟩
      · have f1259 := f1209.tr f1223 rfl
        show wp _ _ 201 31 [(1, vI z1171), (0, .ref r0)] [vI z1224, .ref r0] _ H1218 _
        have u1260 := RO_k a1239
        refine wp_of e201 c201_31 (xp_I (pc' := 34) lf_9_303 w1222 g0 sh_42 (by decide) (by decide) ty_42_18 rfl rfl (Int.le_trans (by decide) b1225.1) (Int.le_trans b1225.2 (by decide)) ⟨Int.le_trans (by decide) b1225.1, Int.le_trans b1225.2 (by decide)⟩ rfl (fun H1261 e1262 w1263 => ?_))
        have f1264 := f1259.put' e1262 g0 rfl
        have k1265 : H1261 r0 18 = z1224 := wq_u_s e1262
        refine wp_of e201 c201_34 (rw_iload_n (pc' := 35) (z := z1171) rfl rfl ?_)
        have o1266 : (xtl B n q d) = (xh B n (xN B n ((xN B n ((xN B n q))))) (xV B n (xN B n q) + 1) (min (xV B n (xN B n q) + 24) 24), (xN B n ((xN B n ((xN B n q))))), (xN B n ((xN B n ((xN B n q)))))) := by
          unfold xtl xrg
          try simp only [xs_xs, xs_z]
          repeat first | rw [xs_0 (Int.le_antisymm (by omega -splitDisjunctions) (by omega -splitDisjunctions))] | rw [xs_1 (by omega -splitDisjunctions)] | rw [if_pos (Int.le_antisymm (by omega -splitDisjunctions) (by omega -splitDisjunctions))] | rw [if_pos (by omega -splitDisjunctions)] | rw [if_pos (And.intro (by omega -splitDisjunctions) (by omega -splitDisjunctions))] | rw [if_neg (by omega -splitDisjunctions)] | rw [xs_1 (by omega)] | rw [if_neg (by omega)] | rw [xs_0 (by omega)] | rw [if_pos (by omega)]
          first | done | rfl | assumption | (exfalso; omega -splitDisjunctions) | (refine Prod.ext ?_ (Prod.ext ?_ ?_) <;> (try dsimp only) <;> omega) | (exfalso; omega)
        have o1266a : ((xtl B n q d)).1 = xh B n (xN B n ((xN B n ((xN B n q))))) (xV B n (xN B n q) + 1) (min (xV B n (xN B n q) + 24) 24) := by rw [o1266]
        have o1266b : ((xtl B n q d)).2.1 = (xN B n ((xN B n ((xN B n q))))) := by rw [o1266]
        have o1266c : ((xtl B n q d)).2.2 = (xN B n ((xN B n ((xN B n q))))) := by rw [o1266]
        have h1267 : RO T H1261 r0 (xh B n (xN B n ((xN B n ((xN B n q))))) (xV B n (xN B n q) + 1) (min (xV B n (xN B n q) + 24) 24)) (xN B n ((xN B n ((xN B n q))))) := (RO_fr w1222 g0 ((wfr.rf (l := [(42, 18)])).put' e1262 g0 rfl) rfl a1239)
        exact wp_ireturn e201 c201_35 rfl ⟨rfl, w1263, f1264, z1171, rfl, ⟨b1172.1, b1172.2⟩, (Or.inr ⟨by omega, by omega, RO_eq h1267 (by omega) (by omega)⟩)⟩
    · have f1268 := f1182.tr f1193 rfl
      show wp _ _ 201 13 [(1, vI z1171), (0, .ref r0)] [vI z1194, .ref r0] _ H1188 _
      have u1269 := RO_k a1203
      refine wp_of e201 c201_13 (xp_I (pc' := 16) lf_9_300 w1192 g0 sh_42 (by decide) (by decide) ty_42_17 rfl rfl (Int.le_trans (by decide) b1195.1) (Int.le_trans b1195.2 (by decide)) ⟨Int.le_trans (by decide) b1195.1, Int.le_trans b1195.2 (by decide)⟩ rfl (fun H1270 e1271 w1272 => ?_))
      have f1273 := f1268.put' e1271 g0 rfl
      have k1274 : H1270 r0 17 = z1194 := wq_u_s e1271
      refine wp_of e201 c201_16 (rw_aload_n (pc' := 17) (v := .ref r0) rfl rfl rfl ?_)
      refine wp_of e201 c201_17 (rw_aload_n (pc' := 18) (v := .ref r0) rfl rfl rfl ?_)
      refine wp_of e201 c201_18 (rw_ldcS (pc' := 20) (k := 87) rfl rfl rfl rfl ?_)
      refine wp_of e201 c201_20 (rw_aload_n (pc' := 21) (v := .ref r0) rfl rfl rfl ?_)
      refine wp_of e201 c201_21 (xg_I (pc' := 24) lf_9_300 w1272 g0 sh_42 (by decide) (by decide) ty_42_17 rfl rfl (fun b1275 b1276 => ?_))
      refine wp_of e201 c201_24 (rw_iconst (pc' := 25) rfl ?_)
      refine wp_of e201 c201_25 (rw_iadd (pc' := 26) rfl ?_)
      refine wp_of e201 c201_26 (rw_bipush (pc' := 28) (z := 24) rfl (by decide) ?_)
      have k1277 : H1270 r0 5 = H1165 r0 5 := ((wq_u_j e1271 rfl).trans (f1193 r0 5 _ g0 rfl))
      have q1278 : H1270 r0 5 = (rb : Int) := k1277.trans q1185
      have h1279 : RO T H1270 r0 (xh B n ((xN B n q)) 0 23) ((xN B n q)) := (RO_fr w1192 g0 ((wfr.rf (l := [(42, 17)])).put' e1271 g0 rfl) rfl a1203)
      refine wp_of e201 c201_28 (xc_V (pc' := 31) (r := r0) (as := [.ref 87, vI ((H1270 r0 17) + 1), vI 24]) (st := [.ref r0]) (lm_9_216) rfl rfl (Nat.le_of_ble_eq_true rfl) w1272 g0 sh_42 (by decide) rfl (by decide) (u_182_o (fo := (xh B n ((xN B n q)) 0 23)) (po := (((xN B n q)))) (kk := 655) w1272 g0 rfl ⟨by omega, by omega⟩ ⟨by decide, by decide⟩ q1278 grb (by decide +kernel) h1279) (fun R1280 T1281 H1282 p1283 => ?_))
      obtain ⟨e1284, e1286, z1287, e1285, b1288, p1289⟩ := p1283
      subst e1284
      subst e1285
      subst e1286
      obtain ⟨a1290, a1291⟩ := p1289
      show wp _ _ 201 31 [(1, vI z1171), (0, .ref r0)] [vI z1287, .ref r0] _ H1270 _
      have u1292 := RO_k a1291
      refine wp_of e201 c201_31 (xp_I (pc' := 34) lf_9_303 w1272 g0 sh_42 (by decide) (by decide) ty_42_18 rfl rfl (Int.le_trans (by decide) b1288.1) (Int.le_trans b1288.2 (by decide)) ⟨Int.le_trans (by decide) b1288.1, Int.le_trans b1288.2 (by decide)⟩ rfl (fun H1293 e1294 w1295 => ?_))
      have f1296 := f1273.put' e1294 g0 rfl
      have k1297 : H1293 r0 18 = z1287 := wq_u_s e1294
      refine wp_of e201 c201_34 (rw_iload_n (pc' := 35) (z := z1171) rfl rfl ?_)
      have o1298 : (xtl B n q d) = (xh B n ((xN B n q)) 0 23, ((xN B n q)), ((xN B n q))) := by
        unfold xtl xrg
        try simp only [xs_xs, xs_z]
        repeat first | rw [xs_0 (Int.le_antisymm (by omega -splitDisjunctions) (by omega -splitDisjunctions))] | rw [xs_1 (by omega -splitDisjunctions)] | rw [if_pos (Int.le_antisymm (by omega -splitDisjunctions) (by omega -splitDisjunctions))] | rw [if_pos (by omega -splitDisjunctions)] | rw [if_pos (And.intro (by omega -splitDisjunctions) (by omega -splitDisjunctions))] | rw [if_neg (by omega -splitDisjunctions)] | rw [xs_1 (by omega)] | rw [if_neg (by omega)] | rw [xs_0 (by omega)] | rw [if_pos (by omega)]
        first | done | rfl | assumption | (exfalso; omega -splitDisjunctions) | (refine Prod.ext ?_ (Prod.ext ?_ ?_) <;> (try dsimp only) <;> omega) | (exfalso; omega)
      have o1298a : ((xtl B n q d)).1 = xh B n ((xN B n q)) 0 23 := by rw [o1298]
      have o1298b : ((xtl B n q d)).2.1 = ((xN B n q)) := by rw [o1298]
      have o1298c : ((xtl B n q d)).2.2 = ((xN B n q)) := by rw [o1298]
      have h1299 : RO T H1293 r0 (xh B n ((xN B n q)) 0 23) (((xN B n q))) := (RO_fr w1272 g0 ((wfr.rf (l := [(42, 18)])).put' e1294 g0 rfl) rfl a1291)
      exact wp_ireturn e201 c201_35 rfl ⟨rfl, w1295, f1296, z1171, rfl, ⟨b1172.1, b1172.2⟩, (Or.inr ⟨by omega, by omega, RO_eq h1299 (by omega) (by omega)⟩)⟩
  · have f1300 := f0.tr f1170 rfl
    show wp _ _ 201 4 [(0, .ref r0)] [vI z1171] _ H1165 _
    have u1301 := RO_k a1181
    refine wp_of e201 c201_4 (rw_istore_n (pc' := 5) (z := z1171) (L' := [(1, vI z1171), (0, .ref r0)]) rfl rfl rfl ?_)
    refine wp_of e201 c201_5 (rw_aload_n (pc' := 6) (v := .ref r0) rfl rfl rfl ?_)
    refine wp_of e201 c201_6 (rw_aload_n (pc' := 7) (v := .ref r0) rfl rfl rfl ?_)
    refine wp_of e201 c201_7 (rw_iconst (pc' := 8) rfl ?_)
    refine wp_of e201 c201_8 (rw_bipush (pc' := 10) (z := 23) rfl (by decide) ?_)
    have k1302 : H1165 r0 5 = H r0 5 := (f1170 r0 5 _ g0 rfl)
    have q1303 : H1165 r0 5 = (rb : Int) := k1302.trans qrb
    refine wp_of e201 c201_10 (xc_V (pc' := 13) (r := r0) (as := [vI 0, vI 23]) (st := [.ref r0]) (lm_9_137) rfl rfl (Nat.le_of_ble_eq_true rfl) w1169 g0 sh_42 (by decide) rfl (by decide) (u_184_o (fo := (xkn B n q d)) (po := q) w1169 g0 ⟨by decide, by decide⟩ ⟨by decide, by decide⟩ q1303 grb a1181) (fun R1304 T1305 H1306 p1307 => ?_))
    obtain ⟨e1308, e1310, z1311, e1309, b1312, p1313⟩ := p1307
    subst e1308
    subst e1309
    subst e1310
    obtain ⟨a1314, a1315⟩ := p1313
    show wp _ _ 201 13 [(1, vI z1171), (0, .ref r0)] [vI z1311, .ref r0] _ H1165 _
    have u1316 := RO_k a1315
    refine wp_of e201 c201_13 (xp_I (pc' := 16) lf_9_300 w1169 g0 sh_42 (by decide) (by decide) ty_42_17 rfl rfl (Int.le_trans (by decide) b1312.1) (Int.le_trans b1312.2 (by decide)) ⟨Int.le_trans (by decide) b1312.1, Int.le_trans b1312.2 (by decide)⟩ rfl (fun H1317 e1318 w1319 => ?_))
    have f1320 := f1300.put' e1318 g0 rfl
    have k1321 : H1317 r0 17 = z1311 := wq_u_s e1318
    refine wp_of e201 c201_16 (rw_aload_n (pc' := 17) (v := .ref r0) rfl rfl rfl ?_)
    refine wp_of e201 c201_17 (rw_aload_n (pc' := 18) (v := .ref r0) rfl rfl rfl ?_)
    refine wp_of e201 c201_18 (rw_ldcS (pc' := 20) (k := 87) rfl rfl rfl rfl ?_)
    refine wp_of e201 c201_20 (rw_aload_n (pc' := 21) (v := .ref r0) rfl rfl rfl ?_)
    refine wp_of e201 c201_21 (xg_I (pc' := 24) lf_9_300 w1319 g0 sh_42 (by decide) (by decide) ty_42_17 rfl rfl (fun b1322 b1323 => ?_))
    refine wp_of e201 c201_24 (rw_iconst (pc' := 25) rfl ?_)
    refine wp_of e201 c201_25 (rw_iadd (pc' := 26) rfl ?_)
    refine wp_of e201 c201_26 (rw_bipush (pc' := 28) (z := 24) rfl (by decide) ?_)
    have k1324 : H1317 r0 5 = H1165 r0 5 := (wq_u_j e1318 rfl)
    have q1325 : H1317 r0 5 = (rb : Int) := k1324.trans q1303
    have h1326 : RO T H1317 r0 (xkn B n q d) q := (RO_fr w1169 g0 ((wfr.rf (l := [(42, 17)])).put' e1318 g0 rfl) rfl a1315)
    refine wp_of e201 c201_28 (xc_V (pc' := 31) (r := r0) (as := [.ref 87, vI ((H1317 r0 17) + 1), vI 24]) (st := [.ref r0]) (lm_9_216) rfl rfl (Nat.le_of_ble_eq_true rfl) w1319 g0 sh_42 (by decide) rfl (by decide) (u_182_o (fo := (xkn B n q d)) (po := q) (kk := 655) w1319 g0 rfl ⟨by omega, by omega⟩ ⟨by decide, by decide⟩ q1325 grb (by decide +kernel) h1326) (fun R1327 T1328 H1329 p1330 => ?_))
    obtain ⟨e1331, e1333, z1334, e1332, b1335, p1336⟩ := p1330
    subst e1331
    subst e1332
    subst e1333
    obtain ⟨a1337, a1338⟩ := p1336
    show wp _ _ 201 31 [(1, vI z1171), (0, .ref r0)] [vI z1334, .ref r0] _ H1317 _
    have u1339 := RO_k a1338
    refine wp_of e201 c201_31 (xp_I (pc' := 34) lf_9_303 w1319 g0 sh_42 (by decide) (by decide) ty_42_18 rfl rfl (Int.le_trans (by decide) b1335.1) (Int.le_trans b1335.2 (by decide)) ⟨Int.le_trans (by decide) b1335.1, Int.le_trans b1335.2 (by decide)⟩ rfl (fun H1340 e1341 w1342 => ?_))
    have f1343 := f1320.put' e1341 g0 rfl
    have k1344 : H1340 r0 18 = z1334 := wq_u_s e1341
    refine wp_of e201 c201_34 (rw_iload_n (pc' := 35) (z := z1171) rfl rfl ?_)
    have o1345 : (xtl B n q d) = (xkn B n q d, q, q) := by
      unfold xtl xrg
      try simp only [xs_xs, xs_z]
      repeat first | rw [xs_0 (Int.le_antisymm (by omega -splitDisjunctions) (by omega -splitDisjunctions))] | rw [xs_1 (by omega -splitDisjunctions)] | rw [if_pos (Int.le_antisymm (by omega -splitDisjunctions) (by omega -splitDisjunctions))] | rw [if_pos (by omega -splitDisjunctions)] | rw [if_pos (And.intro (by omega -splitDisjunctions) (by omega -splitDisjunctions))] | rw [if_neg (by omega -splitDisjunctions)] | rw [xs_1 (by omega)] | rw [if_neg (by omega)] | rw [xs_0 (by omega)] | rw [if_pos (by omega)]
      first | done | rfl | assumption | (exfalso; omega -splitDisjunctions) | (refine Prod.ext ?_ (Prod.ext ?_ ?_) <;> (try dsimp only) <;> omega) | (exfalso; omega)
    have o1345a : ((xtl B n q d)).1 = xkn B n q d := by rw [o1345]
    have o1345b : ((xtl B n q d)).2.1 = q := by rw [o1345]
    have o1345c : ((xtl B n q d)).2.2 = q := by rw [o1345]
    have h1346 : RO T H1340 r0 (xkn B n q d) q := (RO_fr w1319 g0 ((wfr.rf (l := [(42, 18)])).put' e1341 g0 rfl) rfl a1338)
    exact wp_ireturn e201 c201_35 rfl ⟨rfl, w1342, f1343, z1171, rfl, ⟨b1172.1, b1172.2⟩, (Or.inr ⟨by omega, by omega, RO_eq h1346 (by omega) (by omega)⟩)⟩
/-! StrikeAwakeModel.readHours()I o -/
abbrev uq_201_o (r0 : Nat) (rp : Nat) (rb : Nat) (fo : Int) (po : Int) (T : wq_T) (H : wq_H) : Option Value → wq_T → wq_H → Prop := fun r T' H' => T = T' ∧ WT T H' ∧ wfr [(42, 17), (42, 18)] T H H' ∧ ∃ z : Int, some (vI z) = r ∧ (0 ≤ z ∧ z ≤ 5) ∧ (((0 ≤ z ∧ z ≤ 5) ∧ RO T H' r0 fo po))
set_option maxHeartbeats 4000000 in
theorem u_201_o {kt : Nat → Option mc_E} {T : wq_T} {H : wq_H} {r0 : Nat} {rp : Nat} {rb : Nat} {fo : Int} {po : Int} (hW : WT T H) (g0 : T.2.2.2 r0 = some 42) (qrp : H r0 4 = (rp : Int)) (grp : T.2.2.2 rp = some 54) (qrb : H r0 5 = (rb : Int)) (grb : T.2.2.2 rb = some 43) (hRO_r0 : RO T H r0 fo po) : wpc kt 6 201 [.ref r0] T H (uq_201_o r0 rp rb fo po T H) := by
  refine wp_enter e201 (Nat.le_of_ble_eq_true rfl) rfl ?_
  have f0 : wfr [(42, 17), (42, 18)] T H H := wfr.rf
  show wp _ _ 201 0 [(0, .ref r0)] [] _ H _
  have u1051 := RO_k hRO_r0
  refine wp_of e201 c201_0 (rw_aload_n (pc' := 1) (v := .ref r0) rfl rfl rfl ?_)
  refine wp_of e201 c201_1 (xc_V (pc' := 4) (r := r0) (as := []) (st := []) (lm_9_273) rfl rfl (Nat.le_of_ble_eq_true rfl) hW g0 sh_42 (by decide) rfl (by decide) (u_194_o (fo := fo) (po := po) hW g0 qrp grp qrb grb hRO_r0) (fun R1052 T1053 H1054 p1055 => ?_))
  obtain ⟨e1056, e1058, z1059, e1057, b1060, p1061⟩ := p1055
  subst e1056
  subst e1057
  subst e1058
  obtain ⟨a1062, a1063⟩ := p1061
  show wp _ _ 201 4 [(0, .ref r0)] [vI z1059] _ H _
  have u1064 := RO_k a1063
  refine wp_of e201 c201_4 (rw_istore_n (pc' := 5) (z := z1059) (L' := [(1, vI z1059), (0, .ref r0)]) rfl rfl rfl ?_)
  refine wp_of e201 c201_5 (rw_aload_n (pc' := 6) (v := .ref r0) rfl rfl rfl ?_)
  refine wp_of e201 c201_6 (rw_aload_n (pc' := 7) (v := .ref r0) rfl rfl rfl ?_)
  refine wp_of e201 c201_7 (rw_iconst (pc' := 8) rfl ?_)
  refine wp_of e201 c201_8 (rw_bipush (pc' := 10) (z := 23) rfl (by decide) ?_)
  refine wp_of e201 c201_10 (xc_V (pc' := 13) (r := r0) (as := [vI 0, vI 23]) (st := [.ref r0]) (lm_9_137) rfl rfl (Nat.le_of_ble_eq_true rfl) hW g0 sh_42 (by decide) rfl (by decide) (u_184_o (fo := fo) (po := po) hW g0 ⟨by decide, by decide⟩ ⟨by decide, by decide⟩ qrb grb a1063) (fun R1065 T1066 H1067 p1068 => ?_))
  obtain ⟨e1069, e1071, z1072, e1070, b1073, p1074⟩ := p1068
  subst e1069
  subst e1070
  subst e1071
  obtain ⟨a1075, a1076⟩ := p1074
  show wp _ _ 201 13 [(1, vI z1059), (0, .ref r0)] [vI z1072, .ref r0] _ H _
  have u1077 := RO_k a1076
  refine wp_of e201 c201_13 (xp_I (pc' := 16) lf_9_300 hW g0 sh_42 (by decide) (by decide) ty_42_17 rfl rfl (Int.le_trans (by decide) b1073.1) (Int.le_trans b1073.2 (by decide)) ⟨Int.le_trans (by decide) b1073.1, Int.le_trans b1073.2 (by decide)⟩ rfl (fun H1078 e1079 w1080 => ?_))
  have f1081 := f0.put' e1079 g0 rfl
  have k1082 : H1078 r0 17 = z1072 := wq_u_s e1079
  refine wp_of e201 c201_16 (rw_aload_n (pc' := 17) (v := .ref r0) rfl rfl rfl ?_)
  refine wp_of e201 c201_17 (rw_aload_n (pc' := 18) (v := .ref r0) rfl rfl rfl ?_)
  refine wp_of e201 c201_18 (rw_ldcS (pc' := 20) (k := 87) rfl rfl rfl rfl ?_)
  refine wp_of e201 c201_20 (rw_aload_n (pc' := 21) (v := .ref r0) rfl rfl rfl ?_)
  refine wp_of e201 c201_21 (xg_I (pc' := 24) lf_9_300 w1080 g0 sh_42 (by decide) (by decide) ty_42_17 rfl rfl (fun b1083 b1084 => ?_))
  refine wp_of e201 c201_24 (rw_iconst (pc' := 25) rfl ?_)
  refine wp_of e201 c201_25 (rw_iadd (pc' := 26) rfl ?_)
  refine wp_of e201 c201_26 (rw_bipush (pc' := 28) (z := 24) rfl (by decide) ?_)
  have k1085 : H1078 r0 5 = H r0 5 := (wq_u_j e1079 rfl)
  have q1086 : H1078 r0 5 = (rb : Int) := k1085.trans qrb
  have h1087 : RO T H1078 r0 fo po := (RO_fr hW g0 ((wfr.rf (l := [(42, 17)])).put' e1079 g0 rfl) rfl a1076)
  refine wp_of e201 c201_28 (xc_V (pc' := 31) (r := r0) (as := [.ref 87, vI ((H1078 r0 17) + 1), vI 24]) (st := [.ref r0]) (lm_9_216) rfl rfl (Nat.le_of_ble_eq_true rfl) w1080 g0 sh_42 (by decide) rfl (by decide) (u_182_o (fo := fo) (po := po) (kk := 655) w1080 g0 rfl ⟨by omega, by omega⟩ ⟨by decide, by decide⟩ q1086 grb (by decide +kernel) h1087) (fun R1088 T1089 H1090 p1091 => ?_))
  obtain ⟨e1092, e1094, z1095, e1093, b1096, p1097⟩ := p1091
  subst e1092
  subst e1093
  subst e1094
  obtain ⟨a1098, a1099⟩ := p1097
  show wp _ _ 201 31 [(1, vI z1059), (0, .ref r0)] [vI z1095, .ref r0] _ H1078 _
  have u1100 := RO_k a1099
  refine wp_of e201 c201_31 (xp_I (pc' := 34) lf_9_303 w1080 g0 sh_42 (by decide) (by decide) ty_42_18 rfl rfl (Int.le_trans (by decide) b1096.1) (Int.le_trans b1096.2 (by decide)) ⟨Int.le_trans (by decide) b1096.1, Int.le_trans b1096.2 (by decide)⟩ rfl (fun H1101 e1102 w1103 => ?_))
  have f1104 := f1081.put' e1102 g0 rfl
  have k1105 : H1101 r0 18 = z1095 := wq_u_s e1102
  refine wp_of e201 c201_34 (rw_iload_n (pc' := 35) (z := z1059) rfl rfl ?_)
  have h1106 : RO T H1101 r0 fo po := (RO_fr w1080 g0 ((wfr.rf (l := [(42, 18)])).put' e1102 g0 rfl) rfl a1099)
  exact wp_ireturn e201 c201_35 rfl ⟨rfl, w1103, f1104, z1059, rfl, ⟨b1060.1, b1060.2⟩, ⟨by omega, h1106⟩⟩
/-! StrikeAwakeModel.readTold()V k -/
abbrev uq_200_k (r0 : Nat) (rp : Nat) (rb : Nat) (B : Nat → Int) (n : Int) (q : Int) (d : xD) (N0 : Nat) (H0 : wq_H) (T : wq_T) (H : wq_H) : Option Value → wq_T → wq_H → Prop := fun r T' H' => T = T' ∧ WT T H' ∧ wfr [(54, 6), (42, 8), (42, 9), (42, 10), (42, 11), (42, 12), (42, 13), (42, 14), (42, 15), (42, 17), (42, 18), (68, 999), (69, 999)] T H H' ∧ none = r ∧ ((((xl6 B n q d).1 = 0) ∧ ((xl6 B n q d).2.2 = (xN B n (xN B n (xN B n (xN B n (xN B n q)))))) ∧ (q ≤ (xN B n (xN B n (xN B n (xN B n (xN B n q)))))) ∧ RC T H' r0 B n (xN B n (xN B n (xN B n (xN B n (xN B n q))))) ∧ DM T H' rp r0 (xdtl B n (xN B n q) d) ∧ FZ T H' rp N0 H0) ∨ (((xl6 B n q d).1 ≠ 0) ∧ RO T H' r0 ((xl6 B n q d).1) ((xl6 B n q d).2.1) ∧ FZ T H' rp N0 H0))
set_option maxHeartbeats 4000000 in
theorem u_200_k {kt : Nat → Option mc_E} {T : wq_T} {H : wq_H} {r0 : Nat} {rp : Nat} {rb : Nat} {B : Nat → Int} {n : Int} {q : Int} {d : xD} {N0 : Nat} {H0 : wq_H} (hW : WT T H) (g0 : T.2.2.2 r0 = some 42) (qrp : H r0 4 = (rp : Int)) (grp : T.2.2.2 rp = some 54) (qrb : H r0 5 = (rb : Int)) (grb : T.2.2.2 rb = some 43) (p0 : xK B n q = 1) (hRC_r0 : RC T H r0 B n q) (hDM_rp : DM T H rp r0 d) (hFZ_rp : FZ T H rp N0 H0) : wpc kt 7 200 [.ref r0] T H (uq_200_k r0 rp rb B n q d N0 H0 T H) := by
  refine wp_enter e200 (Nat.le_of_ble_eq_true rfl) rfl ?_
  have f0 : wfr [(54, 6), (42, 8), (42, 9), (42, 10), (42, 11), (42, 12), (42, 13), (42, 14), (42, 15), (42, 17), (42, 18), (68, 999), (69, 999)] T H H := wfr.rf
  show wp _ _ 200 0 [(0, .ref r0)] [] _ H _
  have u1144 := RC_k hRC_r0
  have u1145 := DM_k hDM_rp
  have h1146 : MA9 T H rp (d 1) := hDM_rp.2.2.2.1
  have h1147 : MA10 T H rp (d 2) := hDM_rp.2.2.2.2.1
  have h1148 : MA11 T H rp (d 3) := hDM_rp.2.2.2.2.2.1
  have h1149 : MA12 T H rp (d 4) := hDM_rp.2.2.2.2.2.2.1
  have h1150 : MA13 T H rp (d 5) := hDM_rp.2.2.2.2.2.2.2.1
  have h1151 : MA14 T H rp (d 6) := hDM_rp.2.2.2.2.2.2.2.2.1
  have h1152 : MA15 T H rp (d 7) := hDM_rp.2.2.2.2.2.2.2.2.2.1
  have h1153 : MA16 T H rp (d 8) := hDM_rp.2.2.2.2.2.2.2.2.2.2.1
  have h1154 : MA17 T H rp (d 9) := hDM_rp.2.2.2.2.2.2.2.2.2.2.2.1
  have h1155 : MA18 T H rp (d 10) := hDM_rp.2.2.2.2.2.2.2.2.2.2.2.2.1
  have h1156 : MA19 T H rp (d 11) := hDM_rp.2.2.2.2.2.2.2.2.2.2.2.2.2.1
  have h1157 : MA20 T H rp (d 12) := hDM_rp.2.2.2.2.2.2.2.2.2.2.2.2.2.2.1
  have h1158 : MA21 T H rp (d 13) := hDM_rp.2.2.2.2.2.2.2.2.2.2.2.2.2.2.2.1
  have h1159 : MA22 T H rp (d 14) := hDM_rp.2.2.2.2.2.2.2.2.2.2.2.2.2.2.2.2.1
  have h1160 : MA23 T H rp (d 15) := hDM_rp.2.2.2.2.2.2.2.2.2.2.2.2.2.2.2.2.2.1
  have h1161 : MA25 T H rp (d 17) := hDM_rp.2.2.2.2.2.2.2.2.2.2.2.2.2.2.2.2.2.2.1
  have h1162 : MA26 T H rp (d 16) := hDM_rp.2.2.2.2.2.2.2.2.2.2.2.2.2.2.2.2.2.2.2
  refine wp_of e200 c200_0 (rw_aload_n (pc' := 1) (v := .ref r0) rfl rfl rfl ?_)
  refine wp_of e200 c200_1 (rw_aload_n (pc' := 2) (v := .ref r0) rfl rfl rfl ?_)
  refine wp_of e200 c200_2 (xg_K (pc' := 5) lf_9_166 hW g0 sh_42 (by decide) (by decide) rfl qrp rfl ?_)
  refine wp_of e200 c200_5 (xg_I (pc' := 8) lf_9_306 hW grp sh_54 (by decide) (by decide) ty_54_6 rfl rfl (fun b1163 b1164 => ?_))
  refine wp_of e200 c200_8 (rw_iconst (pc' := 9) rfl ?_)
  refine wp_of e200 c200_9 (xc_V (pc' := 12) (r := r0) (as := [vI (H rp 6), vI 4]) (st := []) (lm_9_228) rfl rfl (Nat.le_of_ble_eq_true rfl) hW g0 sh_42 (by decide) rfl (by decide) (u_188_k (B := B) (n := n) (q := q) hW g0 ⟨Int.le_trans (by decide) b1163, Int.le_trans b1164 (by decide)⟩ ⟨by decide, by decide⟩ qrb grb (by omega) hRC_r0) (fun R1165 T1166 H1167 p1168 => ?_))
  obtain ⟨e1169, w1171, f1172, e1170, p1173⟩ := p1168
  subst e1169
  subst e1170
  rcases p1173 with ⟨a1174, a1175⟩ | ⟨a1176, a1177⟩
  · have f1178 := f0.tr f1172 rfl
    show wp _ _ 200 12 [(0, .ref r0)] [] _ H1167 _
    have u1179 := RC_k a1175
    refine wp_of e200 c200_12 (rw_aload_n (pc' := 13) (v := .ref r0) rfl rfl rfl ?_)
    have k1180 : H1167 r0 4 = H r0 4 := (f1172 r0 4 _ g0 rfl)
    have q1181 : H1167 r0 4 = (rp : Int) := k1180.trans qrp
    have k1182 : H1167 r0 5 = H r0 5 := (f1172 r0 5 _ g0 rfl)
    have q1183 : H1167 r0 5 = (rb : Int) := k1182.trans qrb
    have h1184 : DM T H1167 rp r0 d := (DM_fr hW grp f1172 rfl hDM_rp)
    refine wp_of e200 c200_13 (xc_V (pc' := 16) (r := r0) (as := []) (st := []) (lm_9_309) rfl rfl (Nat.le_of_ble_eq_true rfl) w1171 g0 sh_42 (by decide) rfl (by decide) (u_201_k (B := B) (n := n) (q := ((xN B n q))) (d := d) w1171 g0 q1181 grp q1183 grb a1175 h1184) (fun R1185 T1186 H1187 p1188 => ?_))
    obtain ⟨e1189, w1191, f1192, z1193, e1190, b1194, p1195⟩ := p1188
    subst e1189
    subst e1190
    rcases p1195 with ⟨a1196, a1197, a1198, a1199, a1200, a1201, a1202, a1203, a1204, a1205, a1206⟩ | ⟨a1207, a1208, a1209⟩
    · have f1210 := f1178.tr f1192 rfl
      show wp _ _ 200 16 [(0, .ref r0)] [vI z1193] _ H1187 _
      have u1211 := RC_k a1206
      refine wp_of e200 c200_16 (rw_istore_n (pc' := 17) (z := z1193) (L' := [(1, vI z1193), (0, .ref r0)]) rfl rfl rfl ?_)
      refine wp_of e200 c200_17 (rw_aload_n (pc' := 18) (v := .ref r0) rfl rfl rfl ?_)
      refine wp_of e200 c200_18 (xg_I (pc' := 21) lf_9_75 w1191 g0 sh_42 (by decide) (by decide) ty_42_9 rfl rfl (fun b1212 b1213 => ?_))
      refine wp_of e200 c200_21 (rw_iconst (pc' := 22) rfl ?_)
      refine wp_of e200 c200_22 (rw_icmp_ne (p1 := 26) (p2 := 25) (by decide) rfl ⟨Int.le_trans (by decide) b1212, Int.le_trans b1213 (by decide)⟩ ⟨by decide, by decide⟩ (fun c1214 => ?_) (fun c1214 => ?_))
      · refine wp_of e200 c200_26 (rw_aload_n (pc' := 27) (v := .ref r0) rfl rfl rfl ?_)
        have k1215 : H1187 r0 4 = H1167 r0 4 := (f1192 r0 4 _ g0 rfl)
        have q1216 : H1187 r0 4 = (rp : Int) := k1215.trans q1181
        refine wp_of e200 c200_27 (xg_K (pc' := 30) lf_9_166 w1191 g0 sh_42 (by decide) (by decide) rfl q1216 rfl ?_)
        refine wp_of e200 c200_30 (xg_R (pc' := 33) lf_9_312 w1191 grp sh_54 (by decide) (by decide) ty_54_22 rfl rfl (fun r1217 q1218 g1219 => ?_))
        refine wp_of e200 c200_33 (rw_aload_n (pc' := 34) (v := .ref r0) rfl rfl rfl ?_)
        refine wp_of e200 c200_34 (xg_K (pc' := 37) lf_9_166 w1191 g0 sh_42 (by decide) (by decide) rfl q1216 rfl ?_)
        have k1220 : H1187 rp 6 = H rp 6 := ((f1192 rp 6 _ grp rfl).trans (f1172 rp 6 _ grp rfl))
        refine wp_of e200 c200_37 (xg_I (pc' := 40) lf_9_306 w1191 grp sh_54 (by decide) (by decide) ty_54_6 rfl rfl (fun b1221 b1222 => ?_))
        refine wp_of e200 c200_40 (rw_iload_n (pc' := 41) (z := z1193) rfl rfl ?_)
        have h1223 : MA22 T H1187 rp (d 14) := (MA22_fr w1171 grp f1192 rfl (MA22_fr hW grp f1172 rfl h1159))
        have h1224 : FZ T H1187 rp N0 H0 := (FZ_fr w1171 grp f1192 rfl (FZ_fr hW grp f1172 rfl hFZ_rp))
        refine wp_of e200 c200_41 (xs_I (pc' := 42) w1191 g1219 (by decide) sh_68 (by decide) (ty_68 _) (b1194.1) (b1194.2) ⟨Int.le_trans (by decide) b1194.1, Int.le_trans b1194.2 (by decide)⟩ (b1221) (by omega) rfl (fun H1225 e1226 w1227 => ?_))
        have f1228 := f1210.put' e1226 g1219 rfl
        have h1229 : MA22 T H1225 rp (xdtl B n (xN B n q) d 14) := MA_put h1223 q1218 grp g1219 (by decide) e1226 ((xdtl_c (k := ((H1187 rp 6).toNat)) (by omega)).1.trans (by omega)) (xdtl_c (k := ((H1187 rp 6).toNat)) (by omega)).2
        have h1230 : FZ T H1225 rp N0 H0 := FZ_st h1224 q1218 (by decide) (by decide) grp g1219 (by decide) e1226
        refine wp_of e200 c200_42 (rw_aload_n (pc' := 43) (v := .ref r0) rfl rfl rfl ?_)
        have k1231 : H1225 r0 4 = H1187 r0 4 := (wq_u_t e1226 g1219 g0 rfl 4)
        have q1232 : H1225 r0 4 = (rp : Int) := k1231.trans q1216
        refine wp_of e200 c200_43 (xg_K (pc' := 46) lf_9_166 w1227 g0 sh_42 (by decide) (by decide) rfl q1232 rfl ?_)
        refine wp_of e200 c200_46 (xg_R (pc' := 49) lf_9_315 w1227 grp sh_54 (by decide) (by decide) ty_54_23 rfl rfl (fun r1233 q1234 g1235 => ?_))
        refine wp_of e200 c200_49 (rw_aload_n (pc' := 50) (v := .ref r0) rfl rfl rfl ?_)
        refine wp_of e200 c200_50 (xg_K (pc' := 53) lf_9_166 w1227 g0 sh_42 (by decide) (by decide) rfl q1232 rfl ?_)
        have k1236 : H1225 rp 6 = H1187 rp 6 := (wq_u_t e1226 g1219 grp rfl 6)
        refine wp_of e200 c200_53 (xg_I (pc' := 56) lf_9_306 w1227 grp sh_54 (by decide) (by decide) ty_54_6 rfl rfl (fun b1237 b1238 => ?_))
        refine wp_of e200 c200_56 (rw_aload_n (pc' := 57) (v := .ref r0) rfl rfl rfl ?_)
        have k1239 : H1225 r0 17 = H1187 r0 17 := (wq_u_t e1226 g1219 g0 rfl 17)
        refine wp_of e200 c200_57 (xg_I (pc' := 60) lf_9_300 w1227 g0 sh_42 (by decide) (by decide) ty_42_17 rfl rfl (fun b1240 b1241 => ?_))
        refine wp_of e200 c200_60 (rw_aload_n (pc' := 61) (v := .ref r0) rfl rfl rfl ?_)
        have k1242 : H1225 r0 18 = H1187 r0 18 := (wq_u_t e1226 g1219 g0 rfl 18)
        refine wp_of e200 c200_61 (xg_I (pc' := 64) lf_9_303 w1227 g0 sh_42 (by decide) (by decide) ty_42_18 rfl rfl (fun b1243 b1244 => ?_))
        refine wp_of e200 c200_64 (xc_S (pc' := 67) (as := [vI (H1225 r0 17), vI (H1225 r0 18)]) (st := [vI (H1225 rp 6), .ref r1233]) (lm_9_318) rfl rfl (Nat.le_of_ble_eq_true rfl) rfl (by decide) (u_202 (lo := (xV B n (xN B n (xN B n q)))) (hi := (xV B n (xN B n (xN B n (xN B n (xN B n q)))))) w1227 ⟨by omega, by omega⟩ ⟨by omega, by omega⟩ (by omega) (by omega) (by omega)) (fun R1245 T1246 H1247 p1248 => ?_))
        obtain ⟨e1249, e1251, z1252, e1250, b1253, p1254⟩ := p1248
        subst e1249
        subst e1250
        subst e1251
        show wp _ _ 200 67 [(1, vI z1193), (0, .ref r0)] [vI z1252, vI (H1225 rp 6), .ref r1233] _ H1225 _
        have h1256 : MA23 T H1225 rp (d 15) := (MA23_fr w1191 grp ((wfr.rf (l := [(68, 999)])).put' e1226 g1219 rfl) rfl (MA23_fr w1171 grp f1192 rfl (MA23_fr hW grp f1172 rfl h1160)))
        refine wp_of e200 c200_67 (xs_I (pc' := 68) w1227 g1235 (by decide) sh_69 (by decide) (ty_69 _) (b1253.1) (b1253.2) ⟨b1253.1, b1253.2⟩ (b1237) (by omega) rfl (fun H1257 e1258 w1259 => ?_))
        have f1260 := f1228.put' e1258 g1235 rfl
        have h1261 : MA23 T H1257 rp (xdtl B n (xN B n q) d 15) := MA_put h1256 q1234 grp g1235 (by decide) e1258 ((xdtl_e (k := ((H1225 rp 6).toNat)) (by omega)).1.trans (by omega)) (xdtl_e (k := ((H1225 rp 6).toNat)) (by omega)).2
        have h1262 : FZ T H1257 rp N0 H0 := FZ_st h1230 q1234 (by decide) (by decide) grp g1235 (by decide) e1258
        refine wp_of e200 c200_68 (rw_aload_n (pc' := 69) (v := .ref r0) rfl rfl rfl ?_)
        have k1263 : H1257 r0 4 = H1225 r0 4 := (wq_u_t e1258 g1235 g0 rfl 4)
        have q1264 : H1257 r0 4 = (rp : Int) := k1263.trans q1232
        refine wp_of e200 c200_69 (xg_K (pc' := 72) lf_9_166 w1259 g0 sh_42 (by decide) (by decide) rfl q1264 rfl ?_)
        refine wp_of e200 c200_72 (rw_dup (pc' := 73) rfl rfl ?_)
        have k1265 : H1257 rp 6 = H1225 rp 6 := (wq_u_t e1258 g1235 grp rfl 6)
        refine wp_of e200 c200_73 (xg_I (pc' := 76) lf_9_306 w1259 grp sh_54 (by decide) (by decide) ty_54_6 rfl rfl (fun b1266 b1267 => ?_))
        refine wp_of e200 c200_76 (rw_iconst (pc' := 77) rfl ?_)
        refine wp_of e200 c200_77 (rw_iadd (pc' := 78) rfl ?_)
        refine wp_of e200 c200_78 (xp_I (pc' := 81) lf_9_306 w1259 grp sh_54 (by decide) (by decide) ty_54_6 rfl rfl (by omega) (by omega) ⟨by omega, by omega⟩ rfl (fun H1268 e1269 w1270 => ?_))
        have f1271 := f1260.put' e1269 grp rfl
        have k1272 : H1268 rp 6 = (H1257 rp 6) + 1 := wq_u_s e1269
        have h1273 : FZ T H1268 rp N0 H0 := FZ_put h1262 (by decide) e1269
        have k1274 : H1268 rp 0 = H rp 0 := ((wq_u_j e1269 rfl).trans ((wq_u_t e1258 g1235 grp rfl 0).trans ((wq_u_t e1226 g1219 grp rfl 0).trans ((f1192 rp 0 _ grp rfl).trans (f1172 rp 0 _ grp rfl)))))
        have k1275 : H1268 rp 1 = H rp 1 := ((wq_u_j e1269 rfl).trans ((wq_u_t e1258 g1235 grp rfl 1).trans ((wq_u_t e1226 g1219 grp rfl 1).trans ((f1192 rp 1 _ grp rfl).trans (f1172 rp 1 _ grp rfl)))))
        have k1276 : H1268 rp 2 = H rp 2 := ((wq_u_j e1269 rfl).trans ((wq_u_t e1258 g1235 grp rfl 2).trans ((wq_u_t e1226 g1219 grp rfl 2).trans ((f1192 rp 2 _ grp rfl).trans (f1172 rp 2 _ grp rfl)))))
        have k1277 : H1268 rp 3 = H rp 3 := ((wq_u_j e1269 rfl).trans ((wq_u_t e1258 g1235 grp rfl 3).trans ((wq_u_t e1226 g1219 grp rfl 3).trans ((f1192 rp 3 _ grp rfl).trans (f1172 rp 3 _ grp rfl)))))
        have k1278 : H1268 rp 4 = H rp 4 := ((wq_u_j e1269 rfl).trans ((wq_u_t e1258 g1235 grp rfl 4).trans ((wq_u_t e1226 g1219 grp rfl 4).trans ((f1192 rp 4 _ grp rfl).trans (f1172 rp 4 _ grp rfl)))))
        have k1279 : H1268 rp 5 = H rp 5 := ((wq_u_j e1269 rfl).trans ((wq_u_t e1258 g1235 grp rfl 5).trans ((wq_u_t e1226 g1219 grp rfl 5).trans ((f1192 rp 5 _ grp rfl).trans (f1172 rp 5 _ grp rfl)))))
        have k1280 : H1268 rp 7 = H rp 7 := ((wq_u_j e1269 rfl).trans ((wq_u_t e1258 g1235 grp rfl 7).trans ((wq_u_t e1226 g1219 grp rfl 7).trans ((f1192 rp 7 _ grp rfl).trans (f1172 rp 7 _ grp rfl)))))
        have k1281 : H1268 rp 8 = H rp 8 := ((wq_u_j e1269 rfl).trans ((wq_u_t e1258 g1235 grp rfl 8).trans ((wq_u_t e1226 g1219 grp rfl 8).trans ((f1192 rp 8 _ grp rfl).trans (f1172 rp 8 _ grp rfl)))))
        have k1282 : H1268 r0 16 = H r0 16 := ((wq_u_t e1269 grp g0 rfl 16).trans ((wq_u_t e1258 g1235 g0 rfl 16).trans ((wq_u_t e1226 g1219 g0 rfl 16).trans ((f1192 r0 16 _ g0 rfl).trans (f1172 r0 16 _ g0 rfl)))))
        have o1283 : (xl6 B n q d) = (0, ((xN B n q)), (xN B n (xN B n (xN B n (xN B n ((xN B n q))))))) := by
          unfold xl6
          repeat first | rw [xs_0 (Int.le_antisymm (by omega -splitDisjunctions) (by omega -splitDisjunctions))] | rw [xs_1 (by omega -splitDisjunctions)] | rw [if_pos (Int.le_antisymm (by omega -splitDisjunctions) (by omega -splitDisjunctions))] | rw [if_pos (by omega -splitDisjunctions)] | rw [if_pos (And.intro (by omega -splitDisjunctions) (by omega -splitDisjunctions))] | rw [if_neg (by omega -splitDisjunctions)] | rw [xs_1 (by omega)] | rw [if_neg (by omega)] | rw [xs_0 (by omega)] | rw [if_pos (by omega)]
          first | done | rfl | assumption | (exfalso; omega -splitDisjunctions) | (refine Prod.ext ?_ (Prod.ext ?_ ?_) <;> (try dsimp only) <;> omega) | (exfalso; omega)
        have o1283a : ((xl6 B n q d)).1 = 0 := by rw [o1283]
        have o1283b : ((xl6 B n q d)).2.1 = ((xN B n q)) := by rw [o1283]
        have o1283c : ((xl6 B n q d)).2.2 = (xN B n (xN B n (xN B n (xN B n ((xN B n q)))))) := by rw [o1283]
        have _l := @xdtl_v B n (xN B n q) d
        have h1284 : RC T H1268 r0 B n (xN B n (xN B n (xN B n (xN B n ((xN B n q)))))) := (RC_fr w1259 g0 ((wfr.rf (l := [(54, 6)])).put' e1269 grp rfl) rfl (RC_fr w1227 g0 ((wfr.rf (l := [(69, 999)])).put' e1258 g1235 rfl) rfl (RC_fr w1191 g0 ((wfr.rf (l := [(68, 999)])).put' e1226 g1219 rfl) rfl a1206)))
        have h1285 : MA9 T H1268 rp (d 1) := (MA9_fr w1259 grp ((wfr.rf (l := [(54, 6)])).put' e1269 grp rfl) rfl (MA9_fr w1227 grp ((wfr.rf (l := [(69, 999)])).put' e1258 g1235 rfl) rfl (MA9_fr w1191 grp ((wfr.rf (l := [(68, 999)])).put' e1226 g1219 rfl) rfl (MA9_fr w1171 grp f1192 rfl (MA9_fr hW grp f1172 rfl h1146)))))
        have h1286 : MA10 T H1268 rp (d 2) := (MA10_fr w1259 grp ((wfr.rf (l := [(54, 6)])).put' e1269 grp rfl) rfl (MA10_fr w1227 grp ((wfr.rf (l := [(69, 999)])).put' e1258 g1235 rfl) rfl (MA10_fr w1191 grp ((wfr.rf (l := [(68, 999)])).put' e1226 g1219 rfl) rfl (MA10_fr w1171 grp f1192 rfl (MA10_fr hW grp f1172 rfl h1147)))))
        have h1287 : MA11 T H1268 rp (d 3) := (MA11_fr w1259 grp ((wfr.rf (l := [(54, 6)])).put' e1269 grp rfl) rfl (MA11_fr w1227 grp ((wfr.rf (l := [(69, 999)])).put' e1258 g1235 rfl) rfl (MA11_fr w1191 grp ((wfr.rf (l := [(68, 999)])).put' e1226 g1219 rfl) rfl (MA11_fr w1171 grp f1192 rfl (MA11_fr hW grp f1172 rfl h1148)))))
        have h1288 : MA12 T H1268 rp (d 4) := (MA12_fr w1259 grp ((wfr.rf (l := [(54, 6)])).put' e1269 grp rfl) rfl (MA12_fr w1227 grp ((wfr.rf (l := [(69, 999)])).put' e1258 g1235 rfl) rfl (MA12_fr w1191 grp ((wfr.rf (l := [(68, 999)])).put' e1226 g1219 rfl) rfl (MA12_fr w1171 grp f1192 rfl (MA12_fr hW grp f1172 rfl h1149)))))
        have h1289 : MA13 T H1268 rp (d 5) := (MA13_fr w1259 grp ((wfr.rf (l := [(54, 6)])).put' e1269 grp rfl) rfl (MA13_fr w1227 grp ((wfr.rf (l := [(69, 999)])).put' e1258 g1235 rfl) rfl (MA13_fr w1191 grp ((wfr.rf (l := [(68, 999)])).put' e1226 g1219 rfl) rfl (MA13_fr w1171 grp f1192 rfl (MA13_fr hW grp f1172 rfl h1150)))))
        have h1290 : MA14 T H1268 rp (d 6) := (MA14_fr w1259 grp ((wfr.rf (l := [(54, 6)])).put' e1269 grp rfl) rfl (MA14_fr w1227 grp ((wfr.rf (l := [(69, 999)])).put' e1258 g1235 rfl) rfl (MA14_fr w1191 grp ((wfr.rf (l := [(68, 999)])).put' e1226 g1219 rfl) rfl (MA14_fr w1171 grp f1192 rfl (MA14_fr hW grp f1172 rfl h1151)))))
        have h1291 : MA15 T H1268 rp (d 7) := (MA15_fr w1259 grp ((wfr.rf (l := [(54, 6)])).put' e1269 grp rfl) rfl (MA15_fr w1227 grp ((wfr.rf (l := [(69, 999)])).put' e1258 g1235 rfl) rfl (MA15_fr w1191 grp ((wfr.rf (l := [(68, 999)])).put' e1226 g1219 rfl) rfl (MA15_fr w1171 grp f1192 rfl (MA15_fr hW grp f1172 rfl h1152)))))
        have h1292 : MA16 T H1268 rp (d 8) := (MA16_fr w1259 grp ((wfr.rf (l := [(54, 6)])).put' e1269 grp rfl) rfl (MA16_fr w1227 grp ((wfr.rf (l := [(69, 999)])).put' e1258 g1235 rfl) rfl (MA16_fr w1191 grp ((wfr.rf (l := [(68, 999)])).put' e1226 g1219 rfl) rfl (MA16_fr w1171 grp f1192 rfl (MA16_fr hW grp f1172 rfl h1153)))))
        have h1293 : MA17 T H1268 rp (d 9) := (MA17_fr w1259 grp ((wfr.rf (l := [(54, 6)])).put' e1269 grp rfl) rfl (MA17_fr w1227 grp ((wfr.rf (l := [(69, 999)])).put' e1258 g1235 rfl) rfl (MA17_fr w1191 grp ((wfr.rf (l := [(68, 999)])).put' e1226 g1219 rfl) rfl (MA17_fr w1171 grp f1192 rfl (MA17_fr hW grp f1172 rfl h1154)))))
        have h1294 : MA18 T H1268 rp (d 10) := (MA18_fr w1259 grp ((wfr.rf (l := [(54, 6)])).put' e1269 grp rfl) rfl (MA18_fr w1227 grp ((wfr.rf (l := [(69, 999)])).put' e1258 g1235 rfl) rfl (MA18_fr w1191 grp ((wfr.rf (l := [(68, 999)])).put' e1226 g1219 rfl) rfl (MA18_fr w1171 grp f1192 rfl (MA18_fr hW grp f1172 rfl h1155)))))
        have h1295 : MA19 T H1268 rp (d 11) := (MA19_fr w1259 grp ((wfr.rf (l := [(54, 6)])).put' e1269 grp rfl) rfl (MA19_fr w1227 grp ((wfr.rf (l := [(69, 999)])).put' e1258 g1235 rfl) rfl (MA19_fr w1191 grp ((wfr.rf (l := [(68, 999)])).put' e1226 g1219 rfl) rfl (MA19_fr w1171 grp f1192 rfl (MA19_fr hW grp f1172 rfl h1156)))))
        have h1296 : MA20 T H1268 rp (d 12) := (MA20_fr w1259 grp ((wfr.rf (l := [(54, 6)])).put' e1269 grp rfl) rfl (MA20_fr w1227 grp ((wfr.rf (l := [(69, 999)])).put' e1258 g1235 rfl) rfl (MA20_fr w1191 grp ((wfr.rf (l := [(68, 999)])).put' e1226 g1219 rfl) rfl (MA20_fr w1171 grp f1192 rfl (MA20_fr hW grp f1172 rfl h1157)))))
        have h1297 : MA21 T H1268 rp (d 13) := (MA21_fr w1259 grp ((wfr.rf (l := [(54, 6)])).put' e1269 grp rfl) rfl (MA21_fr w1227 grp ((wfr.rf (l := [(69, 999)])).put' e1258 g1235 rfl) rfl (MA21_fr w1191 grp ((wfr.rf (l := [(68, 999)])).put' e1226 g1219 rfl) rfl (MA21_fr w1171 grp f1192 rfl (MA21_fr hW grp f1172 rfl h1158)))))
        have h1298 : MA22 T H1268 rp (xdtl B n (xN B n q) d 14) := (MA22_fr w1259 grp ((wfr.rf (l := [(54, 6)])).put' e1269 grp rfl) rfl (MA22_fr w1227 grp ((wfr.rf (l := [(69, 999)])).put' e1258 g1235 rfl) rfl h1229))
        have h1299 : MA23 T H1268 rp (xdtl B n (xN B n q) d 15) := (MA23_fr w1259 grp ((wfr.rf (l := [(54, 6)])).put' e1269 grp rfl) rfl h1261)
        have h1300 : MA25 T H1268 rp (d 17) := (MA25_fr w1259 grp ((wfr.rf (l := [(54, 6)])).put' e1269 grp rfl) rfl (MA25_fr w1227 grp ((wfr.rf (l := [(69, 999)])).put' e1258 g1235 rfl) rfl (MA25_fr w1191 grp ((wfr.rf (l := [(68, 999)])).put' e1226 g1219 rfl) rfl (MA25_fr w1171 grp f1192 rfl (MA25_fr hW grp f1172 rfl h1161)))))
        have h1301 : MA26 T H1268 rp (d 16) := (MA26_fr w1259 grp ((wfr.rf (l := [(54, 6)])).put' e1269 grp rfl) rfl (MA26_fr w1227 grp ((wfr.rf (l := [(69, 999)])).put' e1258 g1235 rfl) rfl (MA26_fr w1191 grp ((wfr.rf (l := [(68, 999)])).put' e1226 g1219 rfl) rfl (MA26_fr w1171 grp f1192 rfl (MA26_fr hW grp f1172 rfl h1162)))))
        exact wp_return e200 c200_81 rfl ⟨rfl, w1270, f1271, rfl, (Or.inl ⟨by omega, by omega, by omega, h1284, DM_mk hDM_rp.1 ⟨by omega, by omega, by omega, by omega, by omega, by omega, by omega, by omega, by omega, by omega, by omega, by omega⟩ (xdP_cg hDM_rp.2.2.1 (fun i h1 h2 => by unfold xdtl; rw [wq_u_row (by omega), wq_u_row (by omega), wq_u_row (by omega)])) h1285 h1286 h1287 h1288 h1289 h1290 h1291 h1292 h1293 h1294 h1295 h1296 h1297 h1298 h1299 h1300 h1301 ⟨(by unfold xdtl; rw [wq_u_row (by decide), wq_u_row (by decide), wq_u_row (by decide)]), (by unfold xdtl; rw [wq_u_row (by decide), wq_u_row (by decide), wq_u_row (by decide)]), (by unfold xdtl; rw [wq_u_row (by decide), wq_u_row (by decide), wq_u_row (by decide)]), (by unfold xdtl; rw [wq_u_row (by decide), wq_u_row (by decide), wq_u_row (by decide)]), (by unfold xdtl; rw [wq_u_row (by decide), wq_u_row (by decide), wq_u_row (by decide)]), (by unfold xdtl; rw [wq_u_row (by decide), wq_u_row (by decide), wq_u_row (by decide)]), (by unfold xdtl; rw [wq_u_row (by decide), wq_u_row (by decide), wq_u_row (by decide)]), (by unfold xdtl; rw [wq_u_row (by decide), wq_u_row (by decide), wq_u_row (by decide)]), (by unfold xdtl; rw [wq_u_row (by decide), wq_u_row (by decide), wq_u_row (by decide)]), (by unfold xdtl; rw [wq_u_row (by decide), wq_u_row (by decide), wq_u_row (by decide)]), (by unfold xdtl; rw [wq_u_row (by decide), wq_u_row (by decide), wq_u_row (by decide)]), (by unfold xdtl; rw [wq_u_row (by decide), wq_u_row (by decide), wq_u_row (by decide)]), (by unfold xdtl; rw [wq_u_row (by decide), wq_u_row (by decide), wq_u_row (by decide)]), rfl, rfl, (by unfold xdtl; rw [wq_u_row (by decide), wq_u_row (by decide), wq_u_row (by decide)]), (by unfold xdtl; rw [wq_u_row (by decide), wq_u_row (by decide), wq_u_row (by decide)])⟩, h1273⟩)⟩
      · exfalso
        omega
    · have f1302 := f1178.tr f1192 rfl
      show wp _ _ 200 16 [(0, .ref r0)] [vI z1193] _ H1187 _
      have u1303 := RO_k a1209
      refine wp_of e200 c200_16 (rw_istore_n (pc' := 17) (z := z1193) (L' := [(1, vI z1193), (0, .ref r0)]) rfl rfl rfl ?_)
      refine wp_of e200 c200_17 (rw_aload_n (pc' := 18) (v := .ref r0) rfl rfl rfl ?_)
      refine wp_of e200 c200_18 (xg_I (pc' := 21) lf_9_75 w1191 g0 sh_42 (by decide) (by decide) ty_42_9 rfl rfl (fun b1304 b1305 => ?_))
      refine wp_of e200 c200_21 (rw_iconst (pc' := 22) rfl ?_)
      refine wp_of e200 c200_22 (rw_icmp_ne (p1 := 26) (p2 := 25) (by decide) rfl ⟨Int.le_trans (by decide) b1304, Int.le_trans b1305 (by decide)⟩ ⟨by decide, by decide⟩ (fun c1306 => ?_) (fun c1306 => ?_))
      · exfalso
        omega
      · have o1307 : (xl6 B n q d) = ((xtl B n ((xN B n q)) d).1, (xtl B n ((xN B n q)) d).2.1, (xtl B n ((xN B n q)) d).2.2) := by
          unfold xl6
          repeat first | rw [xs_0 (Int.le_antisymm (by omega -splitDisjunctions) (by omega -splitDisjunctions))] | rw [xs_1 (by omega -splitDisjunctions)] | rw [if_pos (Int.le_antisymm (by omega -splitDisjunctions) (by omega -splitDisjunctions))] | rw [if_pos (by omega -splitDisjunctions)] | rw [if_pos (And.intro (by omega -splitDisjunctions) (by omega -splitDisjunctions))] | rw [if_neg (by omega -splitDisjunctions)] | rw [xs_1 (by omega)] | rw [if_neg (by omega)] | rw [xs_0 (by omega)] | rw [if_pos (by omega)]
          first | done | rfl | assumption | (exfalso; omega -splitDisjunctions) | (refine Prod.ext ?_ (Prod.ext ?_ ?_) <;> (try dsimp only) <;> omega) | (exfalso; omega)
        have o1307a : ((xl6 B n q d)).1 = (xtl B n ((xN B n q)) d).1 := by rw [o1307]
        have o1307b : ((xl6 B n q d)).2.1 = (xtl B n ((xN B n q)) d).2.1 := by rw [o1307]
        have o1307c : ((xl6 B n q d)).2.2 = (xtl B n ((xN B n q)) d).2.2 := by rw [o1307]
        have h1308 : FZ T H1187 rp N0 H0 := (FZ_fr w1171 grp f1192 rfl (FZ_fr hW grp f1172 rfl hFZ_rp))
        exact wp_return e200 c200_25 rfl ⟨rfl, w1191, f1302, rfl, (Or.inr ⟨by omega, RO_eq a1209 (by omega) (by omega), h1308⟩)⟩
  · have f1309 := f0.tr f1172 rfl
    show wp _ _ 200 12 [(0, .ref r0)] [] _ H1167 _
    have u1310 := RO_k a1177
    refine wp_of e200 c200_12 (rw_aload_n (pc' := 13) (v := .ref r0) rfl rfl rfl ?_)
    have k1311 : H1167 r0 4 = H r0 4 := (f1172 r0 4 _ g0 rfl)
    have q1312 : H1167 r0 4 = (rp : Int) := k1311.trans qrp
    have k1313 : H1167 r0 5 = H r0 5 := (f1172 r0 5 _ g0 rfl)
    have q1314 : H1167 r0 5 = (rb : Int) := k1313.trans qrb
    refine wp_of e200 c200_13 (xc_V (pc' := 16) (r := r0) (as := []) (st := []) (lm_9_309) rfl rfl (Nat.le_of_ble_eq_true rfl) w1171 g0 sh_42 (by decide) rfl (by decide) (u_201_o (fo := 5) (po := q) w1171 g0 q1312 grp q1314 grb a1177) (fun R1315 T1316 H1317 p1318 => ?_))
    obtain ⟨e1319, w1321, f1322, z1323, e1320, b1324, p1325⟩ := p1318
    subst e1319
    subst e1320
    obtain ⟨a1326, a1327⟩ := p1325
    have f1328 := f1309.tr f1322 rfl
    show wp _ _ 200 16 [(0, .ref r0)] [vI z1323] _ H1317 _
    have u1329 := RO_k a1327
    refine wp_of e200 c200_16 (rw_istore_n (pc' := 17) (z := z1323) (L' := [(1, vI z1323), (0, .ref r0)]) rfl rfl rfl ?_)
    refine wp_of e200 c200_17 (rw_aload_n (pc' := 18) (v := .ref r0) rfl rfl rfl ?_)
    refine wp_of e200 c200_18 (xg_I (pc' := 21) lf_9_75 w1321 g0 sh_42 (by decide) (by decide) ty_42_9 rfl rfl (fun b1330 b1331 => ?_))
    refine wp_of e200 c200_21 (rw_iconst (pc' := 22) rfl ?_)
    refine wp_of e200 c200_22 (rw_icmp_ne (p1 := 26) (p2 := 25) (by decide) rfl ⟨Int.le_trans (by decide) b1330, Int.le_trans b1331 (by decide)⟩ ⟨by decide, by decide⟩ (fun c1332 => ?_) (fun c1332 => ?_))
    · exfalso
      omega
    · have o1333 : (xl6 B n q d) = (5, q, q) := by
        unfold xl6
        repeat first | rw [xs_0 (Int.le_antisymm (by omega -splitDisjunctions) (by omega -splitDisjunctions))] | rw [xs_1 (by omega -splitDisjunctions)] | rw [if_pos (Int.le_antisymm (by omega -splitDisjunctions) (by omega -splitDisjunctions))] | rw [if_pos (by omega -splitDisjunctions)] | rw [if_pos (And.intro (by omega -splitDisjunctions) (by omega -splitDisjunctions))] | rw [if_neg (by omega -splitDisjunctions)] | rw [xs_1 (by omega)] | rw [if_neg (by omega)] | rw [xs_0 (by omega)] | rw [if_pos (by omega)]
        first | done | rfl | assumption | (exfalso; omega -splitDisjunctions) | (refine Prod.ext ?_ (Prod.ext ?_ ?_) <;> (try dsimp only) <;> omega) | (exfalso; omega)
      have o1333a : ((xl6 B n q d)).1 = 5 := by rw [o1333]
      have o1333b : ((xl6 B n q d)).2.1 = q := by rw [o1333]
      have o1333c : ((xl6 B n q d)).2.2 = q := by rw [o1333]
      have h1334 : FZ T H1317 rp N0 H0 := (FZ_fr w1171 grp f1322 rfl (FZ_fr hW grp f1172 rfl hFZ_rp))
      exact wp_return e200 c200_25 rfl ⟨rfl, w1321, f1328, rfl, (Or.inr ⟨by omega, RO_eq a1327 (by omega) (by omega), h1334⟩)⟩
/-! StrikeAwakeModel.readOffer()V k -/
abbrev uq_203_k (r0 : Nat) (rp : Nat) (rb : Nat) (B : Nat → Int) (n : Int) (q : Int) (d : xD) (N0 : Nat) (H0 : wq_H) (T : wq_T) (H : wq_H) : Option Value → wq_T → wq_H → Prop := fun r T' H' => T = T' ∧ WT T H' ∧ wfr [(54, 7), (42, 8), (42, 9), (42, 10), (42, 11), (42, 12), (42, 13), (42, 14), (42, 15), (42, 17), (42, 18), (72, 999), (71, 999)] T H H' ∧ none = r ∧ ((((xl7 B n q d).1 = 0) ∧ ((xl7 B n q d).2.2 = (xN B n (xN B n (xN B n (xN B n (xN B n q)))))) ∧ (q ≤ (xN B n (xN B n (xN B n (xN B n (xN B n q)))))) ∧ RC T H' r0 B n (xN B n (xN B n (xN B n (xN B n (xN B n q))))) ∧ DM T H' rp r0 (xdof B n (xN B n q) d) ∧ FZ T H' rp N0 H0) ∨ (((xl7 B n q d).1 ≠ 0) ∧ RO T H' r0 ((xl7 B n q d).1) ((xl7 B n q d).2.1) ∧ FZ T H' rp N0 H0))
set_option maxHeartbeats 4000000 in
theorem u_203_k {kt : Nat → Option mc_E} {T : wq_T} {H : wq_H} {r0 : Nat} {rp : Nat} {rb : Nat} {B : Nat → Int} {n : Int} {q : Int} {d : xD} {N0 : Nat} {H0 : wq_H} (hW : WT T H) (g0 : T.2.2.2 r0 = some 42) (qrp : H r0 4 = (rp : Int)) (grp : T.2.2.2 rp = some 54) (qrb : H r0 5 = (rb : Int)) (grb : T.2.2.2 rb = some 43) (p0 : xK B n q = 1) (hRC_r0 : RC T H r0 B n q) (hDM_rp : DM T H rp r0 d) (hFZ_rp : FZ T H rp N0 H0) : wpc kt 7 203 [.ref r0] T H (uq_203_k r0 rp rb B n q d N0 H0 T H) := by
  refine wp_enter e203 (Nat.le_of_ble_eq_true rfl) rfl ?_
  have f0 : wfr [(54, 7), (42, 8), (42, 9), (42, 10), (42, 11), (42, 12), (42, 13), (42, 14), (42, 15), (42, 17), (42, 18), (72, 999), (71, 999)] T H H := wfr.rf
  show wp _ _ 203 0 [(0, .ref r0)] [] _ H _
  have u1144 := RC_k hRC_r0
  have u1145 := DM_k hDM_rp
  have h1146 : MA9 T H rp (d 1) := hDM_rp.2.2.2.1
  have h1147 : MA10 T H rp (d 2) := hDM_rp.2.2.2.2.1
  have h1148 : MA11 T H rp (d 3) := hDM_rp.2.2.2.2.2.1
  have h1149 : MA12 T H rp (d 4) := hDM_rp.2.2.2.2.2.2.1
  have h1150 : MA13 T H rp (d 5) := hDM_rp.2.2.2.2.2.2.2.1
  have h1151 : MA14 T H rp (d 6) := hDM_rp.2.2.2.2.2.2.2.2.1
  have h1152 : MA15 T H rp (d 7) := hDM_rp.2.2.2.2.2.2.2.2.2.1
  have h1153 : MA16 T H rp (d 8) := hDM_rp.2.2.2.2.2.2.2.2.2.2.1
  have h1154 : MA17 T H rp (d 9) := hDM_rp.2.2.2.2.2.2.2.2.2.2.2.1
  have h1155 : MA18 T H rp (d 10) := hDM_rp.2.2.2.2.2.2.2.2.2.2.2.2.1
  have h1156 : MA19 T H rp (d 11) := hDM_rp.2.2.2.2.2.2.2.2.2.2.2.2.2.1
  have h1157 : MA20 T H rp (d 12) := hDM_rp.2.2.2.2.2.2.2.2.2.2.2.2.2.2.1
  have h1158 : MA21 T H rp (d 13) := hDM_rp.2.2.2.2.2.2.2.2.2.2.2.2.2.2.2.1
  have h1159 : MA22 T H rp (d 14) := hDM_rp.2.2.2.2.2.2.2.2.2.2.2.2.2.2.2.2.1
  have h1160 : MA23 T H rp (d 15) := hDM_rp.2.2.2.2.2.2.2.2.2.2.2.2.2.2.2.2.2.1
  have h1161 : MA25 T H rp (d 17) := hDM_rp.2.2.2.2.2.2.2.2.2.2.2.2.2.2.2.2.2.2.1
  have h1162 : MA26 T H rp (d 16) := hDM_rp.2.2.2.2.2.2.2.2.2.2.2.2.2.2.2.2.2.2.2
  refine wp_of e203 c203_0 (rw_aload_n (pc' := 1) (v := .ref r0) rfl rfl rfl ?_)
  refine wp_of e203 c203_1 (rw_aload_n (pc' := 2) (v := .ref r0) rfl rfl rfl ?_)
  refine wp_of e203 c203_2 (xg_K (pc' := 5) lf_9_166 hW g0 sh_42 (by decide) (by decide) rfl qrp rfl ?_)
  refine wp_of e203 c203_5 (xg_I (pc' := 8) lf_9_321 hW grp sh_54 (by decide) (by decide) ty_54_7 rfl rfl (fun b1163 b1164 => ?_))
  refine wp_of e203 c203_8 (rw_bipush (pc' := 10) (z := 6) rfl (by decide) ?_)
  refine wp_of e203 c203_10 (xc_V (pc' := 13) (r := r0) (as := [vI (H rp 7), vI 6]) (st := []) (lm_9_228) rfl rfl (Nat.le_of_ble_eq_true rfl) hW g0 sh_42 (by decide) rfl (by decide) (u_188_k (B := B) (n := n) (q := q) hW g0 ⟨Int.le_trans (by decide) b1163, Int.le_trans b1164 (by decide)⟩ ⟨by decide, by decide⟩ qrb grb (by omega) hRC_r0) (fun R1165 T1166 H1167 p1168 => ?_))
  obtain ⟨e1169, w1171, f1172, e1170, p1173⟩ := p1168
  subst e1169
  subst e1170
  rcases p1173 with ⟨a1174, a1175⟩ | ⟨a1176, a1177⟩
  · have f1178 := f0.tr f1172 rfl
    show wp _ _ 203 13 [(0, .ref r0)] [] _ H1167 _
    have u1179 := RC_k a1175
    refine wp_of e203 c203_13 (rw_aload_n (pc' := 14) (v := .ref r0) rfl rfl rfl ?_)
    have k1180 : H1167 r0 4 = H r0 4 := (f1172 r0 4 _ g0 rfl)
    have q1181 : H1167 r0 4 = (rp : Int) := k1180.trans qrp
    have k1182 : H1167 r0 5 = H r0 5 := (f1172 r0 5 _ g0 rfl)
    have q1183 : H1167 r0 5 = (rb : Int) := k1182.trans qrb
    have h1184 : DM T H1167 rp r0 d := (DM_fr hW grp f1172 rfl hDM_rp)
    refine wp_of e203 c203_14 (xc_V (pc' := 17) (r := r0) (as := []) (st := []) (lm_9_309) rfl rfl (Nat.le_of_ble_eq_true rfl) w1171 g0 sh_42 (by decide) rfl (by decide) (u_201_k (B := B) (n := n) (q := ((xN B n q))) (d := d) w1171 g0 q1181 grp q1183 grb a1175 h1184) (fun R1185 T1186 H1187 p1188 => ?_))
    obtain ⟨e1189, w1191, f1192, z1193, e1190, b1194, p1195⟩ := p1188
    subst e1189
    subst e1190
    rcases p1195 with ⟨a1196, a1197, a1198, a1199, a1200, a1201, a1202, a1203, a1204, a1205, a1206⟩ | ⟨a1207, a1208, a1209⟩
    · have f1210 := f1178.tr f1192 rfl
      show wp _ _ 203 17 [(0, .ref r0)] [vI z1193] _ H1187 _
      have u1211 := RC_k a1206
      refine wp_of e203 c203_17 (rw_istore_n (pc' := 18) (z := z1193) (L' := [(1, vI z1193), (0, .ref r0)]) rfl rfl rfl ?_)
      refine wp_of e203 c203_18 (rw_aload_n (pc' := 19) (v := .ref r0) rfl rfl rfl ?_)
      refine wp_of e203 c203_19 (xg_I (pc' := 22) lf_9_75 w1191 g0 sh_42 (by decide) (by decide) ty_42_9 rfl rfl (fun b1212 b1213 => ?_))
      refine wp_of e203 c203_22 (rw_iconst (pc' := 23) rfl ?_)
      refine wp_of e203 c203_23 (rw_icmp_ne (p1 := 27) (p2 := 26) (by decide) rfl ⟨Int.le_trans (by decide) b1212, Int.le_trans b1213 (by decide)⟩ ⟨by decide, by decide⟩ (fun c1214 => ?_) (fun c1214 => ?_))
      · refine wp_of e203 c203_27 (rw_aload_n (pc' := 28) (v := .ref r0) rfl rfl rfl ?_)
        have k1215 : H1187 r0 4 = H1167 r0 4 := (f1192 r0 4 _ g0 rfl)
        have q1216 : H1187 r0 4 = (rp : Int) := k1215.trans q1181
        refine wp_of e203 c203_28 (xg_K (pc' := 31) lf_9_166 w1191 g0 sh_42 (by decide) (by decide) rfl q1216 rfl ?_)
        refine wp_of e203 c203_31 (xg_R (pc' := 34) lf_9_324 w1191 grp sh_54 (by decide) (by decide) ty_54_25 rfl rfl (fun r1217 q1218 g1219 => ?_))
        refine wp_of e203 c203_34 (rw_aload_n (pc' := 35) (v := .ref r0) rfl rfl rfl ?_)
        refine wp_of e203 c203_35 (xg_K (pc' := 38) lf_9_166 w1191 g0 sh_42 (by decide) (by decide) rfl q1216 rfl ?_)
        have k1220 : H1187 rp 7 = H rp 7 := ((f1192 rp 7 _ grp rfl).trans (f1172 rp 7 _ grp rfl))
        refine wp_of e203 c203_38 (xg_I (pc' := 41) lf_9_321 w1191 grp sh_54 (by decide) (by decide) ty_54_7 rfl rfl (fun b1221 b1222 => ?_))
        refine wp_of e203 c203_41 (rw_iload_n (pc' := 42) (z := z1193) rfl rfl ?_)
        have h1223 : MA25 T H1187 rp (d 17) := (MA25_fr w1171 grp f1192 rfl (MA25_fr hW grp f1172 rfl h1161))
        have h1224 : FZ T H1187 rp N0 H0 := (FZ_fr w1171 grp f1192 rfl (FZ_fr hW grp f1172 rfl hFZ_rp))
        refine wp_of e203 c203_42 (xs_I (pc' := 43) w1191 g1219 (by decide) sh_71 (by decide) (ty_71 _) (b1194.1) (b1194.2) ⟨Int.le_trans (by decide) b1194.1, Int.le_trans b1194.2 (by decide)⟩ (b1221) (by omega) rfl (fun H1225 e1226 w1227 => ?_))
        have f1228 := f1210.put' e1226 g1219 rfl
        have h1229 : MA25 T H1225 rp (xdof B n (xN B n q) d 17) := MA_put h1223 q1218 grp g1219 (by decide) e1226 ((xdof_e (k := ((H1187 rp 7).toNat)) (by omega)).1.trans (by omega)) (xdof_e (k := ((H1187 rp 7).toNat)) (by omega)).2
        have h1230 : FZ T H1225 rp N0 H0 := FZ_st h1224 q1218 (by decide) (by decide) grp g1219 (by decide) e1226
        refine wp_of e203 c203_43 (rw_aload_n (pc' := 44) (v := .ref r0) rfl rfl rfl ?_)
        have k1231 : H1225 r0 4 = H1187 r0 4 := (wq_u_t e1226 g1219 g0 rfl 4)
        have q1232 : H1225 r0 4 = (rp : Int) := k1231.trans q1216
        refine wp_of e203 c203_44 (xg_K (pc' := 47) lf_9_166 w1227 g0 sh_42 (by decide) (by decide) rfl q1232 rfl ?_)
        refine wp_of e203 c203_47 (xg_R (pc' := 50) lf_9_327 w1227 grp sh_54 (by decide) (by decide) ty_54_26 rfl rfl (fun r1233 q1234 g1235 => ?_))
        refine wp_of e203 c203_50 (rw_aload_n (pc' := 51) (v := .ref r0) rfl rfl rfl ?_)
        refine wp_of e203 c203_51 (xg_K (pc' := 54) lf_9_166 w1227 g0 sh_42 (by decide) (by decide) rfl q1232 rfl ?_)
        have k1236 : H1225 rp 7 = H1187 rp 7 := (wq_u_t e1226 g1219 grp rfl 7)
        refine wp_of e203 c203_54 (xg_I (pc' := 57) lf_9_321 w1227 grp sh_54 (by decide) (by decide) ty_54_7 rfl rfl (fun b1237 b1238 => ?_))
        refine wp_of e203 c203_57 (rw_aload_n (pc' := 58) (v := .ref r0) rfl rfl rfl ?_)
        have k1239 : H1225 r0 17 = H1187 r0 17 := (wq_u_t e1226 g1219 g0 rfl 17)
        refine wp_of e203 c203_58 (xg_I (pc' := 61) lf_9_300 w1227 g0 sh_42 (by decide) (by decide) ty_42_17 rfl rfl (fun b1240 b1241 => ?_))
        refine wp_of e203 c203_61 (rw_aload_n (pc' := 62) (v := .ref r0) rfl rfl rfl ?_)
        have k1242 : H1225 r0 18 = H1187 r0 18 := (wq_u_t e1226 g1219 g0 rfl 18)
        refine wp_of e203 c203_62 (xg_I (pc' := 65) lf_9_303 w1227 g0 sh_42 (by decide) (by decide) ty_42_18 rfl rfl (fun b1243 b1244 => ?_))
        refine wp_of e203 c203_65 (xc_S (pc' := 68) (as := [vI (H1225 r0 17), vI (H1225 r0 18)]) (st := [vI (H1225 rp 7), .ref r1233]) (lm_9_318) rfl rfl (Nat.le_of_ble_eq_true rfl) rfl (by decide) (u_202 (lo := (xV B n (xN B n (xN B n q)))) (hi := (xV B n (xN B n (xN B n (xN B n (xN B n q)))))) w1227 ⟨by omega, by omega⟩ ⟨by omega, by omega⟩ (by omega) (by omega) (by omega)) (fun R1245 T1246 H1247 p1248 => ?_))
        obtain ⟨e1249, e1251, z1252, e1250, b1253, p1254⟩ := p1248
        subst e1249
        subst e1250
        subst e1251
        show wp _ _ 203 68 [(1, vI z1193), (0, .ref r0)] [vI z1252, vI (H1225 rp 7), .ref r1233] _ H1225 _
        have h1256 : MA26 T H1225 rp (d 16) := (MA26_fr w1191 grp ((wfr.rf (l := [(71, 999)])).put' e1226 g1219 rfl) rfl (MA26_fr w1171 grp f1192 rfl (MA26_fr hW grp f1172 rfl h1162)))
        refine wp_of e203 c203_68 (xs_I (pc' := 69) w1227 g1235 (by decide) sh_72 (by decide) (ty_72 _) (b1253.1) (b1253.2) ⟨b1253.1, b1253.2⟩ (b1237) (by omega) rfl (fun H1257 e1258 w1259 => ?_))
        have f1260 := f1228.put' e1258 g1235 rfl
        have h1261 : MA26 T H1257 rp (xdof B n (xN B n q) d 16) := MA_put h1256 q1234 grp g1235 (by decide) e1258 ((xdof_c (k := ((H1225 rp 7).toNat)) (by omega)).1.trans (by omega)) (xdof_c (k := ((H1225 rp 7).toNat)) (by omega)).2
        have h1262 : FZ T H1257 rp N0 H0 := FZ_st h1230 q1234 (by decide) (by decide) grp g1235 (by decide) e1258
        refine wp_of e203 c203_69 (rw_aload_n (pc' := 70) (v := .ref r0) rfl rfl rfl ?_)
        have k1263 : H1257 r0 4 = H1225 r0 4 := (wq_u_t e1258 g1235 g0 rfl 4)
        have q1264 : H1257 r0 4 = (rp : Int) := k1263.trans q1232
        refine wp_of e203 c203_70 (xg_K (pc' := 73) lf_9_166 w1259 g0 sh_42 (by decide) (by decide) rfl q1264 rfl ?_)
        refine wp_of e203 c203_73 (rw_dup (pc' := 74) rfl rfl ?_)
        have k1265 : H1257 rp 7 = H1225 rp 7 := (wq_u_t e1258 g1235 grp rfl 7)
        refine wp_of e203 c203_74 (xg_I (pc' := 77) lf_9_321 w1259 grp sh_54 (by decide) (by decide) ty_54_7 rfl rfl (fun b1266 b1267 => ?_))
        refine wp_of e203 c203_77 (rw_iconst (pc' := 78) rfl ?_)
        refine wp_of e203 c203_78 (rw_iadd (pc' := 79) rfl ?_)
        refine wp_of e203 c203_79 (xp_I (pc' := 82) lf_9_321 w1259 grp sh_54 (by decide) (by decide) ty_54_7 rfl rfl (by omega) (by omega) ⟨by omega, by omega⟩ rfl (fun H1268 e1269 w1270 => ?_))
        have f1271 := f1260.put' e1269 grp rfl
        have k1272 : H1268 rp 7 = (H1257 rp 7) + 1 := wq_u_s e1269
        have h1273 : FZ T H1268 rp N0 H0 := FZ_put h1262 (by decide) e1269
        have k1274 : H1268 rp 0 = H rp 0 := ((wq_u_j e1269 rfl).trans ((wq_u_t e1258 g1235 grp rfl 0).trans ((wq_u_t e1226 g1219 grp rfl 0).trans ((f1192 rp 0 _ grp rfl).trans (f1172 rp 0 _ grp rfl)))))
        have k1275 : H1268 rp 1 = H rp 1 := ((wq_u_j e1269 rfl).trans ((wq_u_t e1258 g1235 grp rfl 1).trans ((wq_u_t e1226 g1219 grp rfl 1).trans ((f1192 rp 1 _ grp rfl).trans (f1172 rp 1 _ grp rfl)))))
        have k1276 : H1268 rp 2 = H rp 2 := ((wq_u_j e1269 rfl).trans ((wq_u_t e1258 g1235 grp rfl 2).trans ((wq_u_t e1226 g1219 grp rfl 2).trans ((f1192 rp 2 _ grp rfl).trans (f1172 rp 2 _ grp rfl)))))
        have k1277 : H1268 rp 3 = H rp 3 := ((wq_u_j e1269 rfl).trans ((wq_u_t e1258 g1235 grp rfl 3).trans ((wq_u_t e1226 g1219 grp rfl 3).trans ((f1192 rp 3 _ grp rfl).trans (f1172 rp 3 _ grp rfl)))))
        have k1278 : H1268 rp 4 = H rp 4 := ((wq_u_j e1269 rfl).trans ((wq_u_t e1258 g1235 grp rfl 4).trans ((wq_u_t e1226 g1219 grp rfl 4).trans ((f1192 rp 4 _ grp rfl).trans (f1172 rp 4 _ grp rfl)))))
        have k1279 : H1268 rp 5 = H rp 5 := ((wq_u_j e1269 rfl).trans ((wq_u_t e1258 g1235 grp rfl 5).trans ((wq_u_t e1226 g1219 grp rfl 5).trans ((f1192 rp 5 _ grp rfl).trans (f1172 rp 5 _ grp rfl)))))
        have k1280 : H1268 rp 6 = H rp 6 := ((wq_u_j e1269 rfl).trans ((wq_u_t e1258 g1235 grp rfl 6).trans ((wq_u_t e1226 g1219 grp rfl 6).trans ((f1192 rp 6 _ grp rfl).trans (f1172 rp 6 _ grp rfl)))))
        have k1281 : H1268 rp 8 = H rp 8 := ((wq_u_j e1269 rfl).trans ((wq_u_t e1258 g1235 grp rfl 8).trans ((wq_u_t e1226 g1219 grp rfl 8).trans ((f1192 rp 8 _ grp rfl).trans (f1172 rp 8 _ grp rfl)))))
        have k1282 : H1268 r0 16 = H r0 16 := ((wq_u_t e1269 grp g0 rfl 16).trans ((wq_u_t e1258 g1235 g0 rfl 16).trans ((wq_u_t e1226 g1219 g0 rfl 16).trans ((f1192 r0 16 _ g0 rfl).trans (f1172 r0 16 _ g0 rfl)))))
        have o1283 : (xl7 B n q d) = (0, ((xN B n q)), (xN B n (xN B n (xN B n (xN B n ((xN B n q))))))) := by
          unfold xl7
          repeat first | rw [xs_0 (Int.le_antisymm (by omega -splitDisjunctions) (by omega -splitDisjunctions))] | rw [xs_1 (by omega -splitDisjunctions)] | rw [if_pos (Int.le_antisymm (by omega -splitDisjunctions) (by omega -splitDisjunctions))] | rw [if_pos (by omega -splitDisjunctions)] | rw [if_pos (And.intro (by omega -splitDisjunctions) (by omega -splitDisjunctions))] | rw [if_neg (by omega -splitDisjunctions)] | rw [xs_1 (by omega)] | rw [if_neg (by omega)] | rw [xs_0 (by omega)] | rw [if_pos (by omega)]
          first | done | rfl | assumption | (exfalso; omega -splitDisjunctions) | (refine Prod.ext ?_ (Prod.ext ?_ ?_) <;> (try dsimp only) <;> omega) | (exfalso; omega)
        have o1283a : ((xl7 B n q d)).1 = 0 := by rw [o1283]
        have o1283b : ((xl7 B n q d)).2.1 = ((xN B n q)) := by rw [o1283]
        have o1283c : ((xl7 B n q d)).2.2 = (xN B n (xN B n (xN B n (xN B n ((xN B n q)))))) := by rw [o1283]
        have _l := @xdof_v B n (xN B n q) d
        have h1284 : RC T H1268 r0 B n (xN B n (xN B n (xN B n (xN B n ((xN B n q)))))) := (RC_fr w1259 g0 ((wfr.rf (l := [(54, 7)])).put' e1269 grp rfl) rfl (RC_fr w1227 g0 ((wfr.rf (l := [(72, 999)])).put' e1258 g1235 rfl) rfl (RC_fr w1191 g0 ((wfr.rf (l := [(71, 999)])).put' e1226 g1219 rfl) rfl a1206)))
        have h1285 : MA9 T H1268 rp (d 1) := (MA9_fr w1259 grp ((wfr.rf (l := [(54, 7)])).put' e1269 grp rfl) rfl (MA9_fr w1227 grp ((wfr.rf (l := [(72, 999)])).put' e1258 g1235 rfl) rfl (MA9_fr w1191 grp ((wfr.rf (l := [(71, 999)])).put' e1226 g1219 rfl) rfl (MA9_fr w1171 grp f1192 rfl (MA9_fr hW grp f1172 rfl h1146)))))
        have h1286 : MA10 T H1268 rp (d 2) := (MA10_fr w1259 grp ((wfr.rf (l := [(54, 7)])).put' e1269 grp rfl) rfl (MA10_fr w1227 grp ((wfr.rf (l := [(72, 999)])).put' e1258 g1235 rfl) rfl (MA10_fr w1191 grp ((wfr.rf (l := [(71, 999)])).put' e1226 g1219 rfl) rfl (MA10_fr w1171 grp f1192 rfl (MA10_fr hW grp f1172 rfl h1147)))))
        have h1287 : MA11 T H1268 rp (d 3) := (MA11_fr w1259 grp ((wfr.rf (l := [(54, 7)])).put' e1269 grp rfl) rfl (MA11_fr w1227 grp ((wfr.rf (l := [(72, 999)])).put' e1258 g1235 rfl) rfl (MA11_fr w1191 grp ((wfr.rf (l := [(71, 999)])).put' e1226 g1219 rfl) rfl (MA11_fr w1171 grp f1192 rfl (MA11_fr hW grp f1172 rfl h1148)))))
        have h1288 : MA12 T H1268 rp (d 4) := (MA12_fr w1259 grp ((wfr.rf (l := [(54, 7)])).put' e1269 grp rfl) rfl (MA12_fr w1227 grp ((wfr.rf (l := [(72, 999)])).put' e1258 g1235 rfl) rfl (MA12_fr w1191 grp ((wfr.rf (l := [(71, 999)])).put' e1226 g1219 rfl) rfl (MA12_fr w1171 grp f1192 rfl (MA12_fr hW grp f1172 rfl h1149)))))
        have h1289 : MA13 T H1268 rp (d 5) := (MA13_fr w1259 grp ((wfr.rf (l := [(54, 7)])).put' e1269 grp rfl) rfl (MA13_fr w1227 grp ((wfr.rf (l := [(72, 999)])).put' e1258 g1235 rfl) rfl (MA13_fr w1191 grp ((wfr.rf (l := [(71, 999)])).put' e1226 g1219 rfl) rfl (MA13_fr w1171 grp f1192 rfl (MA13_fr hW grp f1172 rfl h1150)))))
        have h1290 : MA14 T H1268 rp (d 6) := (MA14_fr w1259 grp ((wfr.rf (l := [(54, 7)])).put' e1269 grp rfl) rfl (MA14_fr w1227 grp ((wfr.rf (l := [(72, 999)])).put' e1258 g1235 rfl) rfl (MA14_fr w1191 grp ((wfr.rf (l := [(71, 999)])).put' e1226 g1219 rfl) rfl (MA14_fr w1171 grp f1192 rfl (MA14_fr hW grp f1172 rfl h1151)))))
        have h1291 : MA15 T H1268 rp (d 7) := (MA15_fr w1259 grp ((wfr.rf (l := [(54, 7)])).put' e1269 grp rfl) rfl (MA15_fr w1227 grp ((wfr.rf (l := [(72, 999)])).put' e1258 g1235 rfl) rfl (MA15_fr w1191 grp ((wfr.rf (l := [(71, 999)])).put' e1226 g1219 rfl) rfl (MA15_fr w1171 grp f1192 rfl (MA15_fr hW grp f1172 rfl h1152)))))
        have h1292 : MA16 T H1268 rp (d 8) := (MA16_fr w1259 grp ((wfr.rf (l := [(54, 7)])).put' e1269 grp rfl) rfl (MA16_fr w1227 grp ((wfr.rf (l := [(72, 999)])).put' e1258 g1235 rfl) rfl (MA16_fr w1191 grp ((wfr.rf (l := [(71, 999)])).put' e1226 g1219 rfl) rfl (MA16_fr w1171 grp f1192 rfl (MA16_fr hW grp f1172 rfl h1153)))))
        have h1293 : MA17 T H1268 rp (d 9) := (MA17_fr w1259 grp ((wfr.rf (l := [(54, 7)])).put' e1269 grp rfl) rfl (MA17_fr w1227 grp ((wfr.rf (l := [(72, 999)])).put' e1258 g1235 rfl) rfl (MA17_fr w1191 grp ((wfr.rf (l := [(71, 999)])).put' e1226 g1219 rfl) rfl (MA17_fr w1171 grp f1192 rfl (MA17_fr hW grp f1172 rfl h1154)))))
        have h1294 : MA18 T H1268 rp (d 10) := (MA18_fr w1259 grp ((wfr.rf (l := [(54, 7)])).put' e1269 grp rfl) rfl (MA18_fr w1227 grp ((wfr.rf (l := [(72, 999)])).put' e1258 g1235 rfl) rfl (MA18_fr w1191 grp ((wfr.rf (l := [(71, 999)])).put' e1226 g1219 rfl) rfl (MA18_fr w1171 grp f1192 rfl (MA18_fr hW grp f1172 rfl h1155)))))
        have h1295 : MA19 T H1268 rp (d 11) := (MA19_fr w1259 grp ((wfr.rf (l := [(54, 7)])).put' e1269 grp rfl) rfl (MA19_fr w1227 grp ((wfr.rf (l := [(72, 999)])).put' e1258 g1235 rfl) rfl (MA19_fr w1191 grp ((wfr.rf (l := [(71, 999)])).put' e1226 g1219 rfl) rfl (MA19_fr w1171 grp f1192 rfl (MA19_fr hW grp f1172 rfl h1156)))))
        have h1296 : MA20 T H1268 rp (d 12) := (MA20_fr w1259 grp ((wfr.rf (l := [(54, 7)])).put' e1269 grp rfl) rfl (MA20_fr w1227 grp ((wfr.rf (l := [(72, 999)])).put' e1258 g1235 rfl) rfl (MA20_fr w1191 grp ((wfr.rf (l := [(71, 999)])).put' e1226 g1219 rfl) rfl (MA20_fr w1171 grp f1192 rfl (MA20_fr hW grp f1172 rfl h1157)))))
        have h1297 : MA21 T H1268 rp (d 13) := (MA21_fr w1259 grp ((wfr.rf (l := [(54, 7)])).put' e1269 grp rfl) rfl (MA21_fr w1227 grp ((wfr.rf (l := [(72, 999)])).put' e1258 g1235 rfl) rfl (MA21_fr w1191 grp ((wfr.rf (l := [(71, 999)])).put' e1226 g1219 rfl) rfl (MA21_fr w1171 grp f1192 rfl (MA21_fr hW grp f1172 rfl h1158)))))
        have h1298 : MA22 T H1268 rp (d 14) := (MA22_fr w1259 grp ((wfr.rf (l := [(54, 7)])).put' e1269 grp rfl) rfl (MA22_fr w1227 grp ((wfr.rf (l := [(72, 999)])).put' e1258 g1235 rfl) rfl (MA22_fr w1191 grp ((wfr.rf (l := [(71, 999)])).put' e1226 g1219 rfl) rfl (MA22_fr w1171 grp f1192 rfl (MA22_fr hW grp f1172 rfl h1159)))))
        have h1299 : MA23 T H1268 rp (d 15) := (MA23_fr w1259 grp ((wfr.rf (l := [(54, 7)])).put' e1269 grp rfl) rfl (MA23_fr w1227 grp ((wfr.rf (l := [(72, 999)])).put' e1258 g1235 rfl) rfl (MA23_fr w1191 grp ((wfr.rf (l := [(71, 999)])).put' e1226 g1219 rfl) rfl (MA23_fr w1171 grp f1192 rfl (MA23_fr hW grp f1172 rfl h1160)))))
        have h1300 : MA25 T H1268 rp (xdof B n (xN B n q) d 17) := (MA25_fr w1259 grp ((wfr.rf (l := [(54, 7)])).put' e1269 grp rfl) rfl (MA25_fr w1227 grp ((wfr.rf (l := [(72, 999)])).put' e1258 g1235 rfl) rfl h1229))
        have h1301 : MA26 T H1268 rp (xdof B n (xN B n q) d 16) := (MA26_fr w1259 grp ((wfr.rf (l := [(54, 7)])).put' e1269 grp rfl) rfl h1261)
        exact wp_return e203 c203_82 rfl ⟨rfl, w1270, f1271, rfl, (Or.inl ⟨by omega, by omega, by omega, h1284, DM_mk hDM_rp.1 ⟨by omega, by omega, by omega, by omega, by omega, by omega, by omega, by omega, by omega, by omega, by omega, by omega⟩ (xdP_cg hDM_rp.2.2.1 (fun i h1 h2 => by unfold xdof; rw [wq_u_row (by omega), wq_u_row (by omega), wq_u_row (by omega)])) h1285 h1286 h1287 h1288 h1289 h1290 h1291 h1292 h1293 h1294 h1295 h1296 h1297 h1298 h1299 h1300 h1301 ⟨(by unfold xdof; rw [wq_u_row (by decide), wq_u_row (by decide), wq_u_row (by decide)]), (by unfold xdof; rw [wq_u_row (by decide), wq_u_row (by decide), wq_u_row (by decide)]), (by unfold xdof; rw [wq_u_row (by decide), wq_u_row (by decide), wq_u_row (by decide)]), (by unfold xdof; rw [wq_u_row (by decide), wq_u_row (by decide), wq_u_row (by decide)]), (by unfold xdof; rw [wq_u_row (by decide), wq_u_row (by decide), wq_u_row (by decide)]), (by unfold xdof; rw [wq_u_row (by decide), wq_u_row (by decide), wq_u_row (by decide)]), (by unfold xdof; rw [wq_u_row (by decide), wq_u_row (by decide), wq_u_row (by decide)]), (by unfold xdof; rw [wq_u_row (by decide), wq_u_row (by decide), wq_u_row (by decide)]), (by unfold xdof; rw [wq_u_row (by decide), wq_u_row (by decide), wq_u_row (by decide)]), (by unfold xdof; rw [wq_u_row (by decide), wq_u_row (by decide), wq_u_row (by decide)]), (by unfold xdof; rw [wq_u_row (by decide), wq_u_row (by decide), wq_u_row (by decide)]), (by unfold xdof; rw [wq_u_row (by decide), wq_u_row (by decide), wq_u_row (by decide)]), (by unfold xdof; rw [wq_u_row (by decide), wq_u_row (by decide), wq_u_row (by decide)]), (by unfold xdof; rw [wq_u_row (by decide), wq_u_row (by decide), wq_u_row (by decide)]), (by unfold xdof; rw [wq_u_row (by decide), wq_u_row (by decide), wq_u_row (by decide)]), rfl, rfl⟩, h1273⟩)⟩
      · exfalso
        omega
    · have f1302 := f1178.tr f1192 rfl
      show wp _ _ 203 17 [(0, .ref r0)] [vI z1193] _ H1187 _
      have u1303 := RO_k a1209
      refine wp_of e203 c203_17 (rw_istore_n (pc' := 18) (z := z1193) (L' := [(1, vI z1193), (0, .ref r0)]) rfl rfl rfl ?_)
      refine wp_of e203 c203_18 (rw_aload_n (pc' := 19) (v := .ref r0) rfl rfl rfl ?_)
      refine wp_of e203 c203_19 (xg_I (pc' := 22) lf_9_75 w1191 g0 sh_42 (by decide) (by decide) ty_42_9 rfl rfl (fun b1304 b1305 => ?_))
      refine wp_of e203 c203_22 (rw_iconst (pc' := 23) rfl ?_)
      refine wp_of e203 c203_23 (rw_icmp_ne (p1 := 27) (p2 := 26) (by decide) rfl ⟨Int.le_trans (by decide) b1304, Int.le_trans b1305 (by decide)⟩ ⟨by decide, by decide⟩ (fun c1306 => ?_) (fun c1306 => ?_))
      · exfalso
        omega
      · have o1307 : (xl7 B n q d) = ((xtl B n ((xN B n q)) d).1, (xtl B n ((xN B n q)) d).2.1, (xtl B n ((xN B n q)) d).2.2) := by
          unfold xl7
          repeat first | rw [xs_0 (Int.le_antisymm (by omega -splitDisjunctions) (by omega -splitDisjunctions))] | rw [xs_1 (by omega -splitDisjunctions)] | rw [if_pos (Int.le_antisymm (by omega -splitDisjunctions) (by omega -splitDisjunctions))] | rw [if_pos (by omega -splitDisjunctions)] | rw [if_pos (And.intro (by omega -splitDisjunctions) (by omega -splitDisjunctions))] | rw [if_neg (by omega -splitDisjunctions)] | rw [xs_1 (by omega)] | rw [if_neg (by omega)] | rw [xs_0 (by omega)] | rw [if_pos (by omega)]
          first | done | rfl | assumption | (exfalso; omega -splitDisjunctions) | (refine Prod.ext ?_ (Prod.ext ?_ ?_) <;> (try dsimp only) <;> omega) | (exfalso; omega)
        have o1307a : ((xl7 B n q d)).1 = (xtl B n ((xN B n q)) d).1 := by rw [o1307]
        have o1307b : ((xl7 B n q d)).2.1 = (xtl B n ((xN B n q)) d).2.1 := by rw [o1307]
        have o1307c : ((xl7 B n q d)).2.2 = (xtl B n ((xN B n q)) d).2.2 := by rw [o1307]
        have h1308 : FZ T H1187 rp N0 H0 := (FZ_fr w1171 grp f1192 rfl (FZ_fr hW grp f1172 rfl hFZ_rp))
        exact wp_return e203 c203_26 rfl ⟨rfl, w1191, f1302, rfl, (Or.inr ⟨by omega, RO_eq a1209 (by omega) (by omega), h1308⟩)⟩
  · have f1309 := f0.tr f1172 rfl
    show wp _ _ 203 13 [(0, .ref r0)] [] _ H1167 _
    have u1310 := RO_k a1177
    refine wp_of e203 c203_13 (rw_aload_n (pc' := 14) (v := .ref r0) rfl rfl rfl ?_)
    have k1311 : H1167 r0 4 = H r0 4 := (f1172 r0 4 _ g0 rfl)
    have q1312 : H1167 r0 4 = (rp : Int) := k1311.trans qrp
    have k1313 : H1167 r0 5 = H r0 5 := (f1172 r0 5 _ g0 rfl)
    have q1314 : H1167 r0 5 = (rb : Int) := k1313.trans qrb
    refine wp_of e203 c203_14 (xc_V (pc' := 17) (r := r0) (as := []) (st := []) (lm_9_309) rfl rfl (Nat.le_of_ble_eq_true rfl) w1171 g0 sh_42 (by decide) rfl (by decide) (u_201_o (fo := 5) (po := q) w1171 g0 q1312 grp q1314 grb a1177) (fun R1315 T1316 H1317 p1318 => ?_))
    obtain ⟨e1319, w1321, f1322, z1323, e1320, b1324, p1325⟩ := p1318
    subst e1319
    subst e1320
    obtain ⟨a1326, a1327⟩ := p1325
    have f1328 := f1309.tr f1322 rfl
    show wp _ _ 203 17 [(0, .ref r0)] [vI z1323] _ H1317 _
    have u1329 := RO_k a1327
    refine wp_of e203 c203_17 (rw_istore_n (pc' := 18) (z := z1323) (L' := [(1, vI z1323), (0, .ref r0)]) rfl rfl rfl ?_)
    refine wp_of e203 c203_18 (rw_aload_n (pc' := 19) (v := .ref r0) rfl rfl rfl ?_)
    refine wp_of e203 c203_19 (xg_I (pc' := 22) lf_9_75 w1321 g0 sh_42 (by decide) (by decide) ty_42_9 rfl rfl (fun b1330 b1331 => ?_))
    refine wp_of e203 c203_22 (rw_iconst (pc' := 23) rfl ?_)
    refine wp_of e203 c203_23 (rw_icmp_ne (p1 := 27) (p2 := 26) (by decide) rfl ⟨Int.le_trans (by decide) b1330, Int.le_trans b1331 (by decide)⟩ ⟨by decide, by decide⟩ (fun c1332 => ?_) (fun c1332 => ?_))
    · exfalso
      omega
    · have o1333 : (xl7 B n q d) = (5, q, q) := by
        unfold xl7
        repeat first | rw [xs_0 (Int.le_antisymm (by omega -splitDisjunctions) (by omega -splitDisjunctions))] | rw [xs_1 (by omega -splitDisjunctions)] | rw [if_pos (Int.le_antisymm (by omega -splitDisjunctions) (by omega -splitDisjunctions))] | rw [if_pos (by omega -splitDisjunctions)] | rw [if_pos (And.intro (by omega -splitDisjunctions) (by omega -splitDisjunctions))] | rw [if_neg (by omega -splitDisjunctions)] | rw [xs_1 (by omega)] | rw [if_neg (by omega)] | rw [xs_0 (by omega)] | rw [if_pos (by omega)]
        first | done | rfl | assumption | (exfalso; omega -splitDisjunctions) | (refine Prod.ext ?_ (Prod.ext ?_ ?_) <;> (try dsimp only) <;> omega) | (exfalso; omega)
      have o1333a : ((xl7 B n q d)).1 = 5 := by rw [o1333]
      have o1333b : ((xl7 B n q d)).2.1 = q := by rw [o1333]
      have o1333c : ((xl7 B n q d)).2.2 = q := by rw [o1333]
      have h1334 : FZ T H1317 rp N0 H0 := (FZ_fr w1171 grp f1322 rfl (FZ_fr hW grp f1172 rfl hFZ_rp))
      exact wp_return e203 c203_26 rfl ⟨rfl, w1321, f1328, rfl, (Or.inr ⟨by omega, RO_eq a1327 (by omega) (by omega), h1334⟩)⟩
