/-! StrikeAwake$Reader.takesRange(IIII)Z  -/
abbrev uq_29 (r0 : Nat) (a1 : Int) (a2 : Int) (a3 : Int) (a4 : Int) (tk : Nat) (rb : Nat) (B : Nat → Int) (n : Int) (q : Int) (T : wq_T) (H : wq_H) : Option Value → wq_T → wq_H → Prop := fun r T' H' => T = T' ∧ WT T H' ∧ wfr [(3, 1), (3, 2), (3, 3), (3, 4), (4, 2), (4, 3), (4, 4), (4, 5), (4, 6)] T H H' ∧ ∃ z : Int, some (vI z) = r ∧ (0 ≤ z ∧ z ≤ 1) ∧ (((z = 1) ∧ ((xrg B n q a1 a2 a3 a4).1 = 0) ∧ (q ≤ (xN B n (xN B n (xN B n q)))) ∧ (H' r0 1 = xV B n q) ∧ (H' r0 2 = xV B n (xN B n (xN B n q))) ∧ (0 ≤ xV B n q ∧ xV B n q ≤ a1) ∧ (xV B n q + a2 ≤ xV B n (xN B n (xN B n q)) ∧ xV B n (xN B n (xN B n q)) ≤ xV B n q + a3 ∧ xV B n (xN B n (xN B n q)) ≤ a4) ∧ (H' r0 3 = H r0 3) ∧ TC T H' tk B n (xN B n (xN B n (xN B n q)))) ∨ ((z = 0) ∧ ((xrg B n q a1 a2 a3 a4).1 ≠ 0) ∧ ((xrg B n q a1 a2 a3 a4).2.2 = (xrg B n q a1 a2 a3 a4).2.1) ∧ (H' r0 3 = (xrg B n q a1 a2 a3 a4).1) ∧ (H' r0 4 = (xrg B n q a1 a2 a3 a4).2.1)))
set_option maxHeartbeats 4000000 in
theorem u_29 {kt : Nat → Option mc_E} {T : wq_T} {H : wq_H} {r0 : Nat} {a1 : Int} {a2 : Int} {a3 : Int} {a4 : Int} {tk : Nat} {rb : Nat} {B : Nat → Int} {n : Int} {q : Int} (hW : WT T H) (g0 : T.2.2.2 r0 = some 3) (i1 : 0 ≤ a1 ∧ a1 ≤ 23) (i2 : 0 ≤ a2 ∧ a2 ≤ 1) (i3 : 0 ≤ a3 ∧ a3 ≤ 24) (i4 : 0 ≤ a4 ∧ a4 ≤ 24) (qtk : H r0 0 = (tk : Int)) (gtk : T.2.2.2 tk = some 4) (qrb : H tk 0 = (rb : Int)) (grb : T.2.2.2 rb = some 2) (hTC_tk : TC T H tk B n q) : wpc kt 3 29 [.ref r0, vI a1, vI a2, vI a3, vI a4] T H (uq_29 r0 a1 a2 a3 a4 tk rb B n q T H) := by
  refine wp_enter e29 (Nat.le_of_ble_eq_true rfl) rfl ?_
  have f0 : wfr [(3, 1), (3, 2), (3, 3), (3, 4), (4, 2), (4, 3), (4, 4), (4, 5), (4, 6)] T H H := wfr.rf
  show wp _ _ 29 0 [(0, .ref r0), (1, vI a1), (2, vI a2), (3, vI a3), (4, vI a4)] [] _ H _
  have u1116 := TC_k hTC_tk
  refine wp_of e29 c29_0 (rw_aload_n (pc' := 1) (v := .ref r0) rfl rfl rfl ?_)
  refine wp_of e29 c29_1 (rw_aload_n (pc' := 2) (v := .ref r0) rfl rfl rfl ?_)
  refine wp_of e29 c29_2 (rw_iconst (pc' := 3) rfl ?_)
  refine wp_of e29 c29_3 (rw_iload_n (pc' := 4) (z := a1) rfl rfl ?_)
  refine wp_of e29 c29_4 (xc_V (pc' := 7) (r := r0) (as := [vI 0, vI a1]) (st := [.ref r0]) (lm_1_119) rfl rfl (Nat.le_of_ble_eq_true rfl) hW g0 sh_3 (by decide) rfl (by decide) (u_24 (B := B) (n := n) (q := q) (lo := 0) (hi := a1) hW g0 ⟨by decide, by decide⟩ ⟨i1.1, Int.le_trans i1.2 (by decide)⟩ qtk gtk qrb grb (by omega) (by omega) hTC_tk) (fun R1117 T1118 H1119 p1120 => ?_))
  obtain ⟨e1121, w1123, f1124, z1125, e1122, b1126, p1127⟩ := p1120
  subst e1121
  subst e1122
  rcases p1127 with ⟨a1128, a1129, a1130, a1131, a1132⟩ | ⟨a1133, a1134, a1135, a1136⟩
  · have f1137 := f0.tr f1124 rfl
    show wp _ _ 29 7 [(0, .ref r0), (1, vI a1), (2, vI a2), (3, vI a3), (4, vI a4)] [vI z1125, .ref r0] _ H1119 _
    have u1138 := TC_k a1132
    refine wp_of e29 c29_7 (xp_I (pc' := 10) lf_1_158 w1123 g0 sh_3 (by decide) (by decide) ty_3_1 rfl rfl (b1126.1) (by omega) ⟨Int.le_trans (by decide) b1126.1, Int.le_trans b1126.2 (by decide)⟩ rfl (fun H1139 e1140 w1141 => ?_))
    have f1142 := f1137.put' e1140 g0 rfl
    have k1143 : H1139 r0 1 = z1125 := wq_u_s e1140
    refine wp_of e29 c29_10 (rw_aload_n (pc' := 11) (v := .ref r0) rfl rfl rfl ?_)
    refine wp_of e29 c29_11 (xg_I (pc' := 14) lf_1_158 w1141 g0 sh_3 (by decide) (by decide) ty_3_1 rfl rfl (fun b1144 b1145 => ?_))
    refine wp_of e29 c29_14 (rw_if_lt (p1 := 27) (p2 := 17) (by decide) rfl ⟨Int.le_trans (by decide) b1144, Int.le_trans b1145 (by decide)⟩ (fun c1146 => ?_) (fun c1146 => ?_))
    · exfalso
      omega
    · refine wp_of e29 c29_17 (rw_aload_n (pc' := 18) (v := .ref r0) rfl rfl rfl ?_)
      refine wp_of e29 c29_18 (rw_ldc_wS (pc' := 21) (k := 68) rfl rfl rfl rfl ?_)
      have k1147 : H1139 r0 0 = H r0 0 := ((wq_u_j e1140 rfl).trans (f1124 r0 0 _ g0 rfl))
      have q1148 : H1139 r0 0 = (tk : Int) := k1147.trans qtk
      have k1149 : H1139 tk 0 = H tk 0 := ((wq_u_t e1140 g0 gtk rfl 0).trans (f1124 tk 0 _ gtk rfl))
      have q1150 : H1139 tk 0 = (rb : Int) := k1149.trans qrb
      have k1151 : H1139 r0 3 = H1119 r0 3 := (wq_u_j e1140 rfl)
      have h1152 : TC T H1139 tk B n (xN B n q) := (TC_fr w1123 gtk ((wfr.rf (l := [(3, 1)])).put' e1140 g0 rfl) rfl a1132)
      refine wp_of e29 c29_21 (xc_V (pc' := 24) (r := r0) (as := [.ref 68]) (st := []) (lm_1_115) rfl rfl (Nat.le_of_ble_eq_true rfl) w1141 g0 sh_3 (by decide) rfl (by decide) (u_23 (B := B) (n := n) (q := ((xN B n q))) (kk := 655) w1141 g0 rfl q1148 gtk q1150 grb (by decide +kernel) h1152) (fun R1153 T1154 H1155 p1156 => ?_))
      obtain ⟨e1157, w1159, f1160, z1161, e1158, b1162, p1163⟩ := p1156
      subst e1157
      subst e1158
      rcases p1163 with ⟨a1164, a1165, a1166, a1167⟩ | ⟨a1168, a1169, a1170, a1171⟩
      · have f1172 := f1142.tr f1160 rfl
        show wp _ _ 29 24 [(0, .ref r0), (1, vI a1), (2, vI a2), (3, vI a3), (4, vI a4)] [vI z1161] _ H1155 _
        have u1173 := TC_k a1167
        refine wp_of e29 c29_24 (rw_if_ne (p1 := 29) (p2 := 27) (by decide) rfl ⟨Int.le_trans (by decide) b1162.1, Int.le_trans b1162.2 (by decide)⟩ (fun c1174 => ?_) (fun c1174 => ?_))
        · refine wp_of e29 c29_29 (rw_aload_n (pc' := 30) (v := .ref r0) rfl rfl rfl ?_)
          refine wp_of e29 c29_30 (rw_aload_n (pc' := 31) (v := .ref r0) rfl rfl rfl ?_)
          refine wp_of e29 c29_31 (rw_aload_n (pc' := 32) (v := .ref r0) rfl rfl rfl ?_)
          have k1175 : H1155 r0 1 = H1139 r0 1 := (f1160 r0 1 _ g0 rfl)
          refine wp_of e29 c29_32 (xg_I (pc' := 35) lf_1_158 w1159 g0 sh_3 (by decide) (by decide) ty_3_1 rfl rfl (fun b1176 b1177 => ?_))
          refine wp_of e29 c29_35 (rw_iload_n (pc' := 36) (z := a2) rfl rfl ?_)
          refine wp_of e29 c29_36 (rw_iadd (pc' := 37) rfl ?_)
          refine wp_of e29 c29_37 (rw_aload_n (pc' := 38) (v := .ref r0) rfl rfl rfl ?_)
          refine wp_of e29 c29_38 (xg_I (pc' := 41) lf_1_158 w1159 g0 sh_3 (by decide) (by decide) ty_3_1 rfl rfl (fun b1178 b1179 => ?_))
          refine wp_of e29 c29_41 (rw_iload_n (pc' := 42) (z := a3) rfl rfl ?_)
          refine wp_of e29 c29_42 (rw_iadd (pc' := 43) rfl ?_)
          refine wp_of e29 c29_43 (rw_iload (pc' := 45) (z := a4) rfl rfl ?_)
          refine wp_of e29 c29_45 (rw_math2 (pc' := 48) (z := min ((H1155 r0 1) + a3) a4) rfl rfl ⟨by omega, by omega⟩ ⟨by omega, by omega⟩ (Or.inl ⟨rfl, rfl⟩) (Nat.le_of_ble_eq_true rfl) rfl ?_)
          obtain ⟨v1180, e1181⟩ : ∃ x : Int, x = min ((H1155 r0 1) + a3) a4 := ⟨_, rfl⟩
          rw [← e1181]
          have b1182 : v1180 = ((H1155 r0 1) + a3) ∨ v1180 = a4 := by
            rw [e1181]
            omega
          have b1183 : v1180 ≤ ((H1155 r0 1) + a3) ∧ v1180 ≤ a4 := by
            rw [e1181]
            omega
          have k1184 : H1155 r0 0 = H1139 r0 0 := (f1160 r0 0 _ g0 rfl)
          have q1185 : H1155 r0 0 = (tk : Int) := k1184.trans q1148
          have k1186 : H1155 tk 0 = H1139 tk 0 := (f1160 tk 0 _ gtk rfl)
          have q1187 : H1155 tk 0 = (rb : Int) := k1186.trans q1150
          refine wp_of e29 c29_48 (xc_V (pc' := 51) (r := r0) (as := [vI ((H1155 r0 1) + a2), vI v1180]) (st := [.ref r0]) (lm_1_119) rfl rfl (Nat.le_of_ble_eq_true rfl) w1159 g0 sh_3 (by decide) rfl (by decide) (u_24 (B := B) (n := n) (q := ((xN B n ((xN B n q))))) (lo := (xV B n q + a2)) (hi := (min (xV B n q + a3) a4)) w1159 g0 ⟨by omega, by omega⟩ ⟨by omega, by omega⟩ q1185 gtk q1187 grb (by omega) (by omega) a1167) (fun R1188 T1189 H1190 p1191 => ?_))
          obtain ⟨e1192, w1194, f1195, z1196, e1193, b1197, p1198⟩ := p1191
          subst e1192
          subst e1193
          rcases p1198 with ⟨a1199, a1200, a1201, a1202, a1203⟩ | ⟨a1204, a1205, a1206, a1207⟩
          · have f1208 := f1172.tr f1195 rfl
            show wp _ _ 29 51 [(0, .ref r0), (1, vI a1), (2, vI a2), (3, vI a3), (4, vI a4)] [vI z1196, .ref r0] _ H1190 _
            have u1209 := TC_k a1203
            refine wp_of e29 c29_51 (xp_I (pc' := 54) lf_1_164 w1194 g0 sh_3 (by decide) (by decide) ty_3_2 rfl rfl (b1197.1) (by omega) ⟨Int.le_trans (by decide) b1197.1, Int.le_trans b1197.2 (by decide)⟩ rfl (fun H1210 e1211 w1212 => ?_))
            have f1213 := f1208.put' e1211 g0 rfl
            have k1214 : H1210 r0 2 = z1196 := wq_u_s e1211
            refine wp_of e29 c29_54 (rw_aload_n (pc' := 55) (v := .ref r0) rfl rfl rfl ?_)
            refine wp_of e29 c29_55 (xg_I (pc' := 58) lf_1_164 w1212 g0 sh_3 (by decide) (by decide) ty_3_2 rfl rfl (fun b1215 b1216 => ?_))
            refine wp_of e29 c29_58 (rw_if_lt (p1 := 65) (p2 := 61) (by decide) rfl ⟨Int.le_trans (by decide) b1215, Int.le_trans b1216 (by decide)⟩ (fun c1217 => ?_) (fun c1217 => ?_))
            · exfalso
              omega
            · refine wp_of e29 c29_61 (rw_iconst (pc' := 62) rfl ?_)
              refine wp_of e29 c29_62 (rw_goto (p1 := 66) (by decide) ?_)
              have k1218 : H1210 r0 1 = H1155 r0 1 := ((wq_u_j e1211 rfl).trans (f1195 r0 1 _ g0 rfl))
              have k1219 : H1210 r0 3 = H1190 r0 3 := (wq_u_j e1211 rfl)
              have o1220 : (xrg B n q a1 a2 a3 a4) = (0, q, (xN B n ((xN B n ((xN B n q)))))) := by
                unfold xrg
                repeat first | rw [xs_0 (by omega -splitDisjunctions)] | rw [xs_1 (by omega -splitDisjunctions)] | rw [if_pos (by omega -splitDisjunctions)] | rw [if_neg (by omega -splitDisjunctions)] | rw [xs_0 (by omega)] | rw [xs_1 (by omega)] | rw [if_pos (by omega)] | rw [if_neg (by omega)]
                first | done | rfl | assumption | (exfalso; omega -splitDisjunctions) | (refine Prod.ext ?_ (Prod.ext ?_ ?_) <;> (try dsimp only) <;> omega) | (exfalso; omega)
              have o1220a : ((xrg B n q a1 a2 a3 a4)).1 = 0 := by rw [o1220]
              have o1220b : ((xrg B n q a1 a2 a3 a4)).2.1 = q := by rw [o1220]
              have o1220c : ((xrg B n q a1 a2 a3 a4)).2.2 = (xN B n ((xN B n ((xN B n q))))) := by rw [o1220]
              have h1221 : TC T H1210 tk B n (xN B n ((xN B n ((xN B n q))))) := (TC_fr w1194 gtk ((wfr.rf (l := [(3, 2)])).put' e1211 g0 rfl) rfl a1203)
              exact wp_zreturn e29 c29_66 rfl (by omega) ⟨rfl, w1212, f1213, 1, rfl, ⟨by decide, by decide⟩, (Or.inl ⟨by omega, by omega, by omega, by omega, by omega, by omega, by omega, by omega, h1221⟩)⟩
          · have f1222 := f1172.tr f1195 rfl
            show wp _ _ 29 51 [(0, .ref r0), (1, vI a1), (2, vI a2), (3, vI a3), (4, vI a4)] [vI z1196, .ref r0] _ H1190 _
            refine wp_of e29 c29_51 (xp_I (pc' := 54) lf_1_164 w1194 g0 sh_3 (by decide) (by decide) ty_3_2 rfl rfl (b1197.1) (by omega) ⟨Int.le_trans (by decide) b1197.1, Int.le_trans b1197.2 (by decide)⟩ rfl (fun H1223 e1224 w1225 => ?_))
            have f1226 := f1222.put' e1224 g0 rfl
            have k1227 : H1223 r0 2 = z1196 := wq_u_s e1224
            refine wp_of e29 c29_54 (rw_aload_n (pc' := 55) (v := .ref r0) rfl rfl rfl ?_)
            refine wp_of e29 c29_55 (xg_I (pc' := 58) lf_1_164 w1225 g0 sh_3 (by decide) (by decide) ty_3_2 rfl rfl (fun b1228 b1229 => ?_))
            refine wp_of e29 c29_58 (rw_if_lt (p1 := 65) (p2 := 61) (by decide) rfl ⟨Int.le_trans (by decide) b1228, Int.le_trans b1229 (by decide)⟩ (fun c1230 => ?_) (fun c1230 => ?_))
            · refine wp_of e29 c29_65 (rw_iconst (pc' := 66) rfl ?_)
              have k1231 : H1223 r0 1 = H1155 r0 1 := ((wq_u_j e1224 rfl).trans (f1195 r0 1 _ g0 rfl))
              have k1232 : H1223 r0 3 = H1190 r0 3 := (wq_u_j e1224 rfl)
              have k1233 : H1223 r0 4 = H1190 r0 4 := (wq_u_j e1224 rfl)
              have o1234 : (xrg B n q a1 a2 a3 a4) = (xh B n ((xN B n ((xN B n q)))) (xV B n q + a2) (min (xV B n q + a3) a4), ((xN B n ((xN B n q)))), ((xN B n ((xN B n q))))) := by
                unfold xrg
                repeat first | rw [xs_0 (by omega -splitDisjunctions)] | rw [xs_1 (by omega -splitDisjunctions)] | rw [if_pos (by omega -splitDisjunctions)] | rw [if_neg (by omega -splitDisjunctions)] | rw [xs_0 (by omega)] | rw [xs_1 (by omega)] | rw [if_pos (by omega)] | rw [if_neg (by omega)]
                first | done | rfl | assumption | (exfalso; omega -splitDisjunctions) | (refine Prod.ext ?_ (Prod.ext ?_ ?_) <;> (try dsimp only) <;> omega) | (exfalso; omega)
              have o1234a : ((xrg B n q a1 a2 a3 a4)).1 = xh B n ((xN B n ((xN B n q)))) (xV B n q + a2) (min (xV B n q + a3) a4) := by rw [o1234]
              have o1234b : ((xrg B n q a1 a2 a3 a4)).2.1 = ((xN B n ((xN B n q)))) := by rw [o1234]
              have o1234c : ((xrg B n q a1 a2 a3 a4)).2.2 = ((xN B n ((xN B n q)))) := by rw [o1234]
              exact wp_zreturn e29 c29_66 rfl (by omega) ⟨rfl, w1225, f1226, 0, rfl, ⟨by decide, by decide⟩, (Or.inr ⟨by omega, by omega, by omega, by omega, by omega⟩)⟩
            · exfalso
              omega
        · exfalso
          omega
      · have f1235 := f1142.tr f1160 rfl
        show wp _ _ 29 24 [(0, .ref r0), (1, vI a1), (2, vI a2), (3, vI a3), (4, vI a4)] [vI z1161] _ H1155 _
        refine wp_of e29 c29_24 (rw_if_ne (p1 := 29) (p2 := 27) (by decide) rfl ⟨Int.le_trans (by decide) b1162.1, Int.le_trans b1162.2 (by decide)⟩ (fun c1236 => ?_) (fun c1236 => ?_))
        · exfalso
          omega
        · refine wp_of e29 c29_27 (rw_iconst (pc' := 28) rfl ?_)
          have k1237 : H1155 r0 1 = H1139 r0 1 := (f1160 r0 1 _ g0 rfl)
          have o1238 : (xrg B n q a1 a2 a3 a4) = (xw B n ((xN B n q)) 655, ((xN B n q)), ((xN B n q))) := by
            unfold xrg
            repeat first | rw [xs_0 (by omega -splitDisjunctions)] | rw [xs_1 (by omega -splitDisjunctions)] | rw [if_pos (by omega -splitDisjunctions)] | rw [if_neg (by omega -splitDisjunctions)] | rw [xs_0 (by omega)] | rw [xs_1 (by omega)] | rw [if_pos (by omega)] | rw [if_neg (by omega)]
            first | done | rfl | assumption | (exfalso; omega -splitDisjunctions) | (refine Prod.ext ?_ (Prod.ext ?_ ?_) <;> (try dsimp only) <;> omega) | (exfalso; omega)
          have o1238a : ((xrg B n q a1 a2 a3 a4)).1 = xw B n ((xN B n q)) 655 := by rw [o1238]
          have o1238b : ((xrg B n q a1 a2 a3 a4)).2.1 = ((xN B n q)) := by rw [o1238]
          have o1238c : ((xrg B n q a1 a2 a3 a4)).2.2 = ((xN B n q)) := by rw [o1238]
          exact wp_zreturn e29 c29_28 rfl (by omega) ⟨rfl, w1159, f1235, 0, rfl, ⟨by decide, by decide⟩, (Or.inr ⟨by omega, by omega, by omega, by omega, by omega⟩)⟩
  · have f1239 := f0.tr f1124 rfl
    show wp _ _ 29 7 [(0, .ref r0), (1, vI a1), (2, vI a2), (3, vI a3), (4, vI a4)] [vI z1125, .ref r0] _ H1119 _
    refine wp_of e29 c29_7 (xp_I (pc' := 10) lf_1_158 w1123 g0 sh_3 (by decide) (by decide) ty_3_1 rfl rfl (b1126.1) (by omega) ⟨Int.le_trans (by decide) b1126.1, Int.le_trans b1126.2 (by decide)⟩ rfl (fun H1240 e1241 w1242 => ?_))
    have f1243 := f1239.put' e1241 g0 rfl
    have k1244 : H1240 r0 1 = z1125 := wq_u_s e1241
    refine wp_of e29 c29_10 (rw_aload_n (pc' := 11) (v := .ref r0) rfl rfl rfl ?_)
    refine wp_of e29 c29_11 (xg_I (pc' := 14) lf_1_158 w1242 g0 sh_3 (by decide) (by decide) ty_3_1 rfl rfl (fun b1245 b1246 => ?_))
    refine wp_of e29 c29_14 (rw_if_lt (p1 := 27) (p2 := 17) (by decide) rfl ⟨Int.le_trans (by decide) b1245, Int.le_trans b1246 (by decide)⟩ (fun c1247 => ?_) (fun c1247 => ?_))
    · refine wp_of e29 c29_27 (rw_iconst (pc' := 28) rfl ?_)
      have k1248 : H1240 r0 3 = H1119 r0 3 := (wq_u_j e1241 rfl)
      have k1249 : H1240 r0 4 = H1119 r0 4 := (wq_u_j e1241 rfl)
      have o1250 : (xrg B n q a1 a2 a3 a4) = (xh B n q 0 a1, q, q) := by
        unfold xrg
        repeat first | rw [xs_0 (by omega -splitDisjunctions)] | rw [xs_1 (by omega -splitDisjunctions)] | rw [if_pos (by omega -splitDisjunctions)] | rw [if_neg (by omega -splitDisjunctions)] | rw [xs_0 (by omega)] | rw [xs_1 (by omega)] | rw [if_pos (by omega)] | rw [if_neg (by omega)]
        first | done | rfl | assumption | (exfalso; omega -splitDisjunctions) | (refine Prod.ext ?_ (Prod.ext ?_ ?_) <;> (try dsimp only) <;> omega) | (exfalso; omega)
      have o1250a : ((xrg B n q a1 a2 a3 a4)).1 = xh B n q 0 a1 := by rw [o1250]
      have o1250b : ((xrg B n q a1 a2 a3 a4)).2.1 = q := by rw [o1250]
      have o1250c : ((xrg B n q a1 a2 a3 a4)).2.2 = q := by rw [o1250]
      exact wp_zreturn e29 c29_28 rfl (by omega) ⟨rfl, w1242, f1243, 0, rfl, ⟨by decide, by decide⟩, (Or.inr ⟨by omega, by omega, by omega, by omega, by omega⟩)⟩
    · exfalso
      omega
