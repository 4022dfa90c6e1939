/-! what methods do (own work, written by wip/gen3/sx3.py) -/
/-! StrikeAwake$Reader.takesRange(IIII)Z  -/
abbrev uq_29 (r0 : Nat) (a1 : Int) (a2 : Int) (a3 : Int) (a4 : Int) (tk : Nat) (rb : Nat) (B : Nat → Int) (n : Int) (q : Int) (T : wq_T) (H : wq_H) : Option Value → wq_T → wq_H → Prop := fun r T' H' => T = T' ∧ WT T H' ∧ wfr [(3, 1), (3, 2), (3, 3), (3, 4), (4, 2), (4, 3), (4, 4), (4, 5), (4, 6)] T H H' ∧ ∃ z : Int, some (vI z) = r ∧ (0 ≤ z ∧ z ≤ 1) ∧ (((z = 1) ∧ ((xrg B n q a1 a2 a3 a4).1 = 0) ∧ (q ≤ (xN B n (xN B n (xN B n q)))) ∧ (H' r0 1 = xV B n q) ∧ (H' r0 2 = xV B n (xN B n (xN B n q))) ∧ (0 ≤ xV B n q ∧ xV B n q ≤ a1) ∧ (xV B n q + a2 ≤ xV B n (xN B n (xN B n q)) ∧ xV B n (xN B n (xN B n q)) ≤ xV B n q + a3 ∧ xV B n (xN B n (xN B n q)) ≤ a4) ∧ (H' r0 3 = H r0 3) ∧ TC T H' tk B n (xN B n (xN B n (xN B n q)))) ∨ ((z = 0) ∧ ((xrg B n q a1 a2 a3 a4).1 ≠ 0) ∧ ((xrg B n q a1 a2 a3 a4).2.2 = (xrg B n q a1 a2 a3 a4).2.1) ∧ (H' r0 3 = (xrg B n q a1 a2 a3 a4).1) ∧ (H' r0 4 = (xrg B n q a1 a2 a3 a4).2.1)))
set_option maxHeartbeats 4000000 in
theorem u_29 {kt : Nat → Option mc_E} {T : wq_T} {H : wq_H} {r0 : Nat} {a1 : Int} {a2 : Int} {a3 : Int} {a4 : Int} {tk : Nat} {rb : Nat} {B : Nat → Int} {n : Int} {q : Int} (hW : WT T H) (g0 : T.2.2.2 r0 = some 3) (i1 : 0 ≤ a1 ∧ a1 ≤ 23) (i2 : 0 ≤ a2 ∧ a2 ≤ 1) (i3 : 0 ≤ a3 ∧ a3 ≤ 24) (i4 : 0 ≤ a4 ∧ a4 ≤ 24) (qtk : H r0 0 = (tk : Int)) (gtk : T.2.2.2 tk = some 4) (qrb : H tk 0 = (rb : Int)) (grb : T.2.2.2 rb = some 2) (hTC_tk : TC T H tk B n q) : wpc kt 3 29 [.ref r0, vI a1, vI a2, vI a3, vI a4] T H (uq_29 r0 a1 a2 a3 a4 tk rb B n q T H) := by
  refine wp_enter e29 (Nat.le_of_ble_eq_true rfl) rfl ?_
  have f0 : wfr [(3, 1), (3, 2), (3, 3), (3, 4), (4, 2), (4, 3), (4, 4), (4, 5), (4, 6)] T H H := wfr.rf
  show wp _ _ 29 0 [(0, .ref r0), (1, vI a1), (2, vI a2), (3, vI a3), (4, vI a4)] [] _ H _
  have u1116 := TC_k hTC_tk
  refine wp_of e29 c29_0 (rw_aload_n (pc' := 1) (v := .ref r0) rfl rfl rfl ?_)
  refine wp_of e29 c29_1 (rw_aload_n (pc' := 2) (v := .ref r0) rfl rfl rfl ?_)
  refine wp_of e29 c29_2 (rw_iconst (pc' := 3) rfl ?_)
  refine wp_of e29 c29_3 (rw_iload_n (pc' := 4) (z := a1) rfl rfl ?_)
  refine wp_of e29 c29_4 (xc_V (pc' := 7) (r := r0) (as := [vI 0, vI a1]) (st := [.ref r0]) (lm_1_119) rfl rfl (Nat.le_of_ble_eq_true rfl) hW g0 sh_3 (by decide) rfl (by decide) (u_24 (B := B) (n := n) (q := q) (lo := 0) (hi := a1) hW g0 ⟨by decide, by decide⟩ ⟨i1.1, Int.le_trans i1.2 (by decide)⟩ qtk gtk qrb grb (by omega) (by omega) hTC_tk) (fun R1117 T1118 H1119 p1120 => ?_))
  obtain ⟨e1121, w1123, f1124, z1125, e1122, b1126, p1127⟩ := p1120
  subst e1121
  subst e1122
  rcases p1127 with ⟨a1128, a1129, a1130, a1131, a1132⟩ | ⟨a1133, a1134, a1135, a1136⟩
  · have f1137 := f0.tr f1124 rfl
    show wp _ _ 29 7 [(0, .ref r0), (1, vI a1), (2, vI a2), (3, vI a3), (4, vI a4)] [vI z1125, .ref r0] _ H1119 _
    have u1138 := TC_k a1132
    refine wp_of e29 c29_7 (xp_I (pc' := 10) lf_1_158 w1123 g0 sh_3 (by decide) (by decide) ty_3_1 rfl rfl (b1126.1) (by omega) ⟨Int.le_trans (by decide) b1126.1, Int.le_trans b1126.2 (by decide)⟩ rfl (fun H1139 e1140 w1141 => ?_))
    have f1142 := f1137.put' e1140 g0 rfl
    have k1143 : H1139 r0 1 = z1125 := wq_u_s e1140
    refine wp_of e29 c29_10 (rw_aload_n (pc' := 11) (v := .ref r0) rfl rfl rfl ?_)
    refine wp_of e29 c29_11 (xg_I (pc' := 14) lf_1_158 w1141 g0 sh_3 (by decide) (by decide) ty_3_1 rfl rfl (fun b1144 b1145 => ?_))
    refine wp_of e29 c29_14 (rw_if_lt (p1 := 27) (p2 := 17) (by decide) rfl ⟨Int.le_trans (by decide) b1144, Int.le_trans b1145 (by decide)⟩ (fun c1146 => ?_) (fun c1146 => ?_))
    · exfalso
      omega
    · refine wp_of e29 c29_17 (rw_aload_n (pc' := 18) (v := .ref r0) rfl rfl rfl ?_)
      refine wp_of e29 c29_18 (rw_ldc_wS (pc' := 21) (k := 68) rfl rfl rfl rfl ?_)
      have k1147 : H1139 r0 0 = H r0 0 := ((wq_u_j e1140 rfl).trans (f1124 r0 0 _ g0 rfl))
      have q1148 : H1139 r0 0 = (tk : Int) := k1147.trans qtk
      have k1149 : H1139 tk 0 = H tk 0 := ((wq_u_t e1140 g0 gtk rfl 0).trans (f1124 tk 0 _ gtk rfl))
      have q1150 : H1139 tk 0 = (rb : Int) := k1149.trans qrb
      have k1151 : H1139 r0 3 = H1119 r0 3 := (wq_u_j e1140 rfl)
      have h1152 : TC T H1139 tk B n (xN B n q) := (TC_fr w1123 gtk ((wfr.rf (l := [(3, 1)])).put' e1140 g0 rfl) rfl a1132)
      refine wp_of e29 c29_21 (xc_V (pc' := 24) (r := r0) (as := [.ref 68]) (st := []) (lm_1_115) rfl rfl (Nat.le_of_ble_eq_true rfl) w1141 g0 sh_3 (by decide) rfl (by decide) (u_23 (B := B) (n := n) (q := ((xN B n q))) (kk := 655) w1141 g0 rfl q1148 gtk q1150 grb (by decide +kernel) h1152) (fun R1153 T1154 H1155 p1156 => ?_))
      obtain ⟨e1157, w1159, f1160, z1161, e1158, b1162, p1163⟩ := p1156
      subst e1157
      subst e1158
      rcases p1163 with ⟨a1164, a1165, a1166, a1167⟩ | ⟨a1168, a1169, a1170, a1171⟩
      · have f1172 := f1142.tr f1160 rfl
        show wp _ _ 29 24 [(0, .ref r0), (1, vI a1), (2, vI a2), (3, vI a3), (4, vI a4)] [vI z1161] _ H1155 _
        have u1173 := TC_k a1167
        refine wp_of e29 c29_24 (rw_if_ne (p1 := 29) (p2 := 27) (by decide) rfl ⟨Int.le_trans (by decide) b1162.1, Int.le_trans b1162.2 (by decide)⟩ (fun c1174 => ?_) (fun c1174 => ?_))
        · refine wp_of e29 c29_29 (rw_aload_n (pc' := 30) (v := .ref r0) rfl rfl rfl ?_)
          refine wp_of e29 c29_30 (rw_aload_n (pc' := 31) (v := .ref r0) rfl rfl rfl ?_)
          refine wp_of e29 c29_31 (rw_aload_n (pc' := 32) (v := .ref r0) rfl rfl rfl ?_)
          have k1175 : H1155 r0 1 = H1139 r0 1 := (f1160 r0 1 _ g0 rfl)
          refine wp_of e29 c29_32 (xg_I (pc' := 35) lf_1_158 w1159 g0 sh_3 (by decide) (by decide) ty_3_1 rfl rfl (fun b1176 b1177 => ?_))
          refine wp_of e29 c29_35 (rw_iload_n (pc' := 36) (z := a2) rfl rfl ?_)
          refine wp_of e29 c29_36 (rw_iadd (pc' := 37) rfl ?_)
          refine wp_of e29 c29_37 (rw_aload_n (pc' := 38) (v := .ref r0) rfl rfl rfl ?_)
          refine wp_of e29 c29_38 (xg_I (pc' := 41) lf_1_158 w1159 g0 sh_3 (by decide) (by decide) ty_3_1 rfl rfl (fun b1178 b1179 => ?_))
          refine wp_of e29 c29_41 (rw_iload_n (pc' := 42) (z := a3) rfl rfl ?_)
          refine wp_of e29 c29_42 (rw_iadd (pc' := 43) rfl ?_)
          refine wp_of e29 c29_43 (rw_iload (pc' := 45) (z := a4) rfl rfl ?_)
          refine wp_of e29 c29_45 (rw_math2 (pc' := 48) (z := min ((H1155 r0 1) + a3) a4) rfl rfl ⟨by omega, by omega⟩ ⟨by omega, by omega⟩ (Or.inl ⟨rfl, rfl⟩) (Nat.le_of_ble_eq_true rfl) rfl ?_)
          obtain ⟨v1180, e1181⟩ : ∃ x : Int, x = min ((H1155 r0 1) + a3) a4 := ⟨_, rfl⟩
          rw [← e1181]
          have b1182 : v1180 = ((H1155 r0 1) + a3) ∨ v1180 = a4 := by
            rw [e1181]
            omega
          have b1183 : v1180 ≤ ((H1155 r0 1) + a3) ∧ v1180 ≤ a4 := by
            rw [e1181]
            omega
          have k1184 : H1155 r0 0 = H1139 r0 0 := (f1160 r0 0 _ g0 rfl)
          have q1185 : H1155 r0 0 = (tk : Int) := k1184.trans q1148
          have k1186 : H1155 tk 0 = H1139 tk 0 := (f1160 tk 0 _ gtk rfl)
          have q1187 : H1155 tk 0 = (rb : Int) := k1186.trans q1150
          refine wp_of e29 c29_48 (xc_V (pc' := 51) (r := r0) (as := [vI ((H1155 r0 1) + a2), vI v1180]) (st := [.ref r0]) (lm_1_119) rfl rfl (Nat.le_of_ble_eq_true rfl) w1159 g0 sh_3 (by decide) rfl (by decide) (u_24 (B := B) (n := n) (q := ((xN B n ((xN B n q))))) (lo := (xV B n q + a2)) (hi := (min (xV B n q + a3) a4)) w1159 g0 ⟨by omega, by omega⟩ ⟨by omega, by omega⟩ q1185 gtk q1187 grb (by omega) (by omega) a1167) (fun R1188 T1189 H1190 p1191 => ?_))
          obtain ⟨e1192, w1194, f1195, z1196, e1193, b1197, p1198⟩ := p1191
          subst e1192
          subst e1193
          rcases p1198 with ⟨a1199, a1200, a1201, a1202, a1203⟩ | ⟨a1204, a1205, a1206, a1207⟩
          · have f1208 := f1172.tr f1195 rfl
            show wp _ _ 29 51 [(0, .ref r0), (1, vI a1), (2, vI a2), (3, vI a3), (4, vI a4)] [vI z1196, .ref r0] _ H1190 _
            have u1209 := TC_k a1203
            refine wp_of e29 c29_51 (xp_I (pc' := 54) lf_1_164 w1194 g0 sh_3 (by decide) (by decide) ty_3_2 rfl rfl (b1197.1) (by omega) ⟨Int.le_trans (by decide) b1197.1, Int.le_trans b1197.2 (by decide)⟩ rfl (fun H1210 e1211 w1212 => ?_))
            have f1213 := f1208.put' e1211 g0 rfl
            have k1214 : H1210 r0 2 = z1196 := wq_u_s e1211
            refine wp_of e29 c29_54 (rw_aload_n (pc' := 55) (v := .ref r0) rfl rfl rfl ?_)
            refine wp_of e29 c29_55 (xg_I (pc' := 58) lf_1_164 w1212 g0 sh_3 (by decide) (by decide) ty_3_2 rfl rfl (fun b1215 b1216 => ?_))
            refine wp_of e29 c29_58 (rw_if_lt (p1 := 65) (p2 := 61) (by decide) rfl ⟨Int.le_trans (by decide) b1215, Int.le_trans b1216 (by decide)⟩ (fun c1217 => ?_) (fun c1217 => ?_))
            · exfalso
              omega
            · refine wp_of e29 c29_61 (rw_iconst (pc' := 62) rfl ?_)
              refine wp_of e29 c29_62 (rw_goto (p1 := 66) (by decide) ?_)
              have k1218 : H1210 r0 1 = H1155 r0 1 := ((wq_u_j e1211 rfl).trans (f1195 r0 1 _ g0 rfl))
              have k1219 : H1210 r0 3 = H1190 r0 3 := (wq_u_j e1211 rfl)
              have o1220 : (xrg B n q a1 a2 a3 a4) = (0, q, (xN B n ((xN B n ((xN B n q)))))) := by
                unfold xrg
                repeat first | rw [xs_0 (Int.le_antisymm (by omega -splitDisjunctions) (by omega -splitDisjunctions))] | rw [xs_1 (by omega -splitDisjunctions)] | rw [if_pos (Int.le_antisymm (by omega -splitDisjunctions) (by omega -splitDisjunctions))] | rw [if_pos (by omega -splitDisjunctions)] | rw [if_pos (And.intro (by omega -splitDisjunctions) (by omega -splitDisjunctions))] | rw [if_neg (by omega -splitDisjunctions)] | rw [xs_1 (by omega)] | rw [if_neg (by omega)] | rw [xs_0 (by omega)] | rw [if_pos (by omega)]
                first | done | rfl | assumption | (exfalso; omega -splitDisjunctions) | (refine Prod.ext ?_ (Prod.ext ?_ ?_) <;> (try dsimp only) <;> omega) | (exfalso; omega)
              have o1220a : ((xrg B n q a1 a2 a3 a4)).1 = 0 := by rw [o1220]
              have o1220b : ((xrg B n q a1 a2 a3 a4)).2.1 = q := by rw [o1220]
              have o1220c : ((xrg B n q a1 a2 a3 a4)).2.2 = (xN B n ((xN B n ((xN B n q))))) := by rw [o1220]
              have h1221 : TC T H1210 tk B n (xN B n ((xN B n ((xN B n q))))) := (TC_fr w1194 gtk ((wfr.rf (l := [(3, 2)])).put' e1211 g0 rfl) rfl a1203)
              exact wp_zreturn e29 c29_66 rfl (by omega) ⟨rfl, w1212, f1213, 1, rfl, ⟨by decide, by decide⟩, (Or.inl ⟨by omega, by omega, by omega, by omega, by omega, by omega, by omega, by omega, h1221⟩)⟩
          · have f1222 := f1172.tr f1195 rfl
            show wp _ _ 29 51 [(0, .ref r0), (1, vI a1), (2, vI a2), (3, vI a3), (4, vI a4)] [vI z1196, .ref r0] _ H1190 _
            refine wp_of e29 c29_51 (xp_I (pc' := 54) lf_1_164 w1194 g0 sh_3 (by decide) (by decide) ty_3_2 rfl rfl (b1197.1) (by omega) ⟨Int.le_trans (by decide) b1197.1, Int.le_trans b1197.2 (by decide)⟩ rfl (fun H1223 e1224 w1225 => ?_))
            have f1226 := f1222.put' e1224 g0 rfl
            have k1227 : H1223 r0 2 = z1196 := wq_u_s e1224
            refine wp_of e29 c29_54 (rw_aload_n (pc' := 55) (v := .ref r0) rfl rfl rfl ?_)
            refine wp_of e29 c29_55 (xg_I (pc' := 58) lf_1_164 w1225 g0 sh_3 (by decide) (by decide) ty_3_2 rfl rfl (fun b1228 b1229 => ?_))
            refine wp_of e29 c29_58 (rw_if_lt (p1 := 65) (p2 := 61) (by decide) rfl ⟨Int.le_trans (by decide) b1228, Int.le_trans b1229 (by decide)⟩ (fun c1230 => ?_) (fun c1230 => ?_))
            · refine wp_of e29 c29_65 (rw_iconst (pc' := 66) rfl ?_)
              have k1231 : H1223 r0 1 = H1155 r0 1 := ((wq_u_j e1224 rfl).trans (f1195 r0 1 _ g0 rfl))
              have k1232 : H1223 r0 3 = H1190 r0 3 := (wq_u_j e1224 rfl)
              have k1233 : H1223 r0 4 = H1190 r0 4 := (wq_u_j e1224 rfl)
              have o1234 : (xrg B n q a1 a2 a3 a4) = (xh B n ((xN B n ((xN B n q)))) (xV B n q + a2) (min (xV B n q + a3) a4), ((xN B n ((xN B n q)))), ((xN B n ((xN B n q))))) := by
                unfold xrg
                repeat first | rw [xs_0 (Int.le_antisymm (by omega -splitDisjunctions) (by omega -splitDisjunctions))] | rw [xs_1 (by omega -splitDisjunctions)] | rw [if_pos (Int.le_antisymm (by omega -splitDisjunctions) (by omega -splitDisjunctions))] | rw [if_pos (by omega -splitDisjunctions)] | rw [if_pos (And.intro (by omega -splitDisjunctions) (by omega -splitDisjunctions))] | rw [if_neg (by omega -splitDisjunctions)] | rw [xs_1 (by omega)] | rw [if_neg (by omega)] | rw [xs_0 (by omega)] | rw [if_pos (by omega)]
                first | done | rfl | assumption | (exfalso; omega -splitDisjunctions) | (refine Prod.ext ?_ (Prod.ext ?_ ?_) <;> (try dsimp only) <;> omega) | (exfalso; omega)
              have o1234a : ((xrg B n q a1 a2 a3 a4)).1 = xh B n ((xN B n ((xN B n q)))) (xV B n q + a2) (min (xV B n q + a3) a4) := by rw [o1234]
              have o1234b : ((xrg B n q a1 a2 a3 a4)).2.1 = ((xN B n ((xN B n q)))) := by rw [o1234]
              have o1234c : ((xrg B n q a1 a2 a3 a4)).2.2 = ((xN B n ((xN B n q)))) := by rw [o1234]
              exact wp_zreturn e29 c29_66 rfl (by omega) ⟨rfl, w1225, f1226, 0, rfl, ⟨by decide, by decide⟩, (Or.inr ⟨by omega, by omega, by omega, by omega, by omega⟩)⟩
            · exfalso
              omega
        · exfalso
          omega
      · have f1235 := f1142.tr f1160 rfl
        show wp _ _ 29 24 [(0, .ref r0), (1, vI a1), (2, vI a2), (3, vI a3), (4, vI a4)] [vI z1161] _ H1155 _
        refine wp_of e29 c29_24 (rw_if_ne (p1 := 29) (p2 := 27) (by decide) rfl ⟨Int.le_trans (by decide) b1162.1, Int.le_trans b1162.2 (by decide)⟩ (fun c1236 => ?_) (fun c1236 => ?_))
        · exfalso
          omega
        · refine wp_of e29 c29_27 (rw_iconst (pc' := 28) rfl ?_)
          have k1237 : H1155 r0 1 = H1139 r0 1 := (f1160 r0 1 _ g0 rfl)
          have o1238 : (xrg B n q a1 a2 a3 a4) = (xw B n ((xN B n q)) 655, ((xN B n q)), ((xN B n q))) := by
            unfold xrg
            repeat first | rw [xs_0 (Int.le_antisymm (by omega -splitDisjunctions) (by omega -splitDisjunctions))] | rw [xs_1 (by omega -splitDisjunctions)] | rw [if_pos (Int.le_antisymm (by omega -splitDisjunctions) (by omega -splitDisjunctions))] | rw [if_pos (by omega -splitDisjunctions)] | rw [if_pos (And.intro (by omega -splitDisjunctions) (by omega -splitDisjunctions))] | rw [if_neg (by omega -splitDisjunctions)] | rw [xs_1 (by omega)] | rw [if_neg (by omega)] | rw [xs_0 (by omega)] | rw [if_pos (by omega)]
            first | done | rfl | assumption | (exfalso; omega -splitDisjunctions) | (refine Prod.ext ?_ (Prod.ext ?_ ?_) <;> (try dsimp only) <;> omega) | (exfalso; omega)
          have o1238a : ((xrg B n q a1 a2 a3 a4)).1 = xw B n ((xN B n q)) 655 := by rw [o1238]
          have o1238b : ((xrg B n q a1 a2 a3 a4)).2.1 = ((xN B n q)) := by rw [o1238]
          have o1238c : ((xrg B n q a1 a2 a3 a4)).2.2 = ((xN B n q)) := by rw [o1238]
          exact wp_zreturn e29 c29_28 rfl (by omega) ⟨rfl, w1159, f1235, 0, rfl, ⟨by decide, by decide⟩, (Or.inr ⟨by omega, by omega, by omega, by omega, by omega⟩)⟩
  · have f1239 := f0.tr f1124 rfl
    show wp _ _ 29 7 [(0, .ref r0), (1, vI a1), (2, vI a2), (3, vI a3), (4, vI a4)] [vI z1125, .ref r0] _ H1119 _
    refine wp_of e29 c29_7 (xp_I (pc' := 10) lf_1_158 w1123 g0 sh_3 (by decide) (by decide) ty_3_1 rfl rfl (b1126.1) (by omega) ⟨Int.le_trans (by decide) b1126.1, Int.le_trans b1126.2 (by decide)⟩ rfl (fun H1240 e1241 w1242 => ?_))
    have f1243 := f1239.put' e1241 g0 rfl
    have k1244 : H1240 r0 1 = z1125 := wq_u_s e1241
    refine wp_of e29 c29_10 (rw_aload_n (pc' := 11) (v := .ref r0) rfl rfl rfl ?_)
    refine wp_of e29 c29_11 (xg_I (pc' := 14) lf_1_158 w1242 g0 sh_3 (by decide) (by decide) ty_3_1 rfl rfl (fun b1245 b1246 => ?_))
    refine wp_of e29 c29_14 (rw_if_lt (p1 := 27) (p2 := 17) (by decide) rfl ⟨Int.le_trans (by decide) b1245, Int.le_trans b1246 (by decide)⟩ (fun c1247 => ?_) (fun c1247 => ?_))
    · refine wp_of e29 c29_27 (rw_iconst (pc' := 28) rfl ?_)
      have k1248 : H1240 r0 3 = H1119 r0 3 := (wq_u_j e1241 rfl)
      have k1249 : H1240 r0 4 = H1119 r0 4 := (wq_u_j e1241 rfl)
      have o1250 : (xrg B n q a1 a2 a3 a4) = (xh B n q 0 a1, q, q) := by
        unfold xrg
        repeat first | rw [xs_0 (Int.le_antisymm (by omega -splitDisjunctions) (by omega -splitDisjunctions))] | rw [xs_1 (by omega -splitDisjunctions)] | rw [if_pos (Int.le_antisymm (by omega -splitDisjunctions) (by omega -splitDisjunctions))] | rw [if_pos (by omega -splitDisjunctions)] | rw [if_pos (And.intro (by omega -splitDisjunctions) (by omega -splitDisjunctions))] | rw [if_neg (by omega -splitDisjunctions)] | rw [xs_1 (by omega)] | rw [if_neg (by omega)] | rw [xs_0 (by omega)] | rw [if_pos (by omega)]
        first | done | rfl | assumption | (exfalso; omega -splitDisjunctions) | (refine Prod.ext ?_ (Prod.ext ?_ ?_) <;> (try dsimp only) <;> omega) | (exfalso; omega)
      have o1250a : ((xrg B n q a1 a2 a3 a4)).1 = xh B n q 0 a1 := by rw [o1250]
      have o1250b : ((xrg B n q a1 a2 a3 a4)).2.1 = q := by rw [o1250]
      have o1250c : ((xrg B n q a1 a2 a3 a4)).2.2 = q := by rw [o1250]
      exact wp_zreturn e29 c29_28 rfl (by omega) ⟨rfl, w1242, f1243, 0, rfl, ⟨by decide, by decide⟩, (Or.inr ⟨by omega, by omega, by omega, by omega, by omega⟩)⟩
    · exfalso
      omega
/-! StrikeAwake$Parish.personNamed(J)I  -/
abbrev uq_27 (r0 : Nat) (a1 : Int) (d : xD) (y : Int) (T : wq_T) (H : wq_H) : Option Value → wq_T → wq_H → Prop := fun r T' H' => T = T' ∧ H = H' ∧ ∃ z : Int, some (vI z) = r ∧ ((-2147483648) ≤ z ∧ z ≤ 2147483647) ∧ (((-1 ≤ z ∧ z ≤ 5) ∧ (z = xfi (d 1) (d 0 3) y)))
set_option maxHeartbeats 4000000 in
theorem u_27 {kt : Nat → Option mc_E} {T : wq_T} {H : wq_H} {r0 : Nat} {a1 : Int} {d : xD} {y : Int} (hW : WT T H) (g0 : T.2.2.2 r0 = some 27) (i1 : (-9223372036854775808) ≤ a1 ∧ a1 ≤ 9223372036854775807) (p0 : a1 = y) (hDC_r0 : DC T H r0 d) : wpc kt 1 27 [.ref r0, vL a1] T H (uq_27 r0 a1 d y T H) := by
  refine wp_enter e27 (Nat.le_of_ble_eq_true rfl) rfl ?_
  show wp _ _ 27 0 [(0, .ref r0), (1, vL a1)] [] _ H _
  have u1113 := DC_k hDC_r0
  refine wp_of e27 c27_0 (rw_iconst (pc' := 1) rfl ?_)
  refine wp_of e27 c27_1 (rw_istore_n (pc' := 2) (z := 0) (L' := [(3, vI 0), (0, .ref r0), (1, vL a1)]) rfl rfl rfl ?_)
  have lp1212 : ∀ (n1213 : Nat) (v1215 : Int), (0 ≤ v1215 ∧ v1215 ≤ 6) → (xfr (d 1) (d 0 3) y v1215 = xfi (d 1) (d 0 3) y) → (6 - v1215).toNat = n1213 → wp kt 0 27 2 [(3, vI v1215), (0, .ref r0), (1, vL a1)] [] T H (uq_27 r0 a1 d y T H) := by
    intro n1213
    induction n1213 using Nat.strongRecOn with
    | _ n1213 ih1214 =>
      intro v1215 b1218 x1219 m1220
      refine wp_of e27 c27_2 (rw_iload_n (pc' := 3) (z := v1215) rfl rfl ?_)
      refine wp_of e27 c27_3 (rw_aload_n (pc' := 4) (v := .ref r0) rfl rfl rfl ?_)
      refine wp_of e27 c27_4 (xg_I (pc' := 7) lf_7_50 hW g0 sh_27 (by decide) (by decide) ty_27_10 rfl rfl (fun b1221 b1222 => ?_))
      refine wp_of e27 c27_7 (rw_icmp_ge (p1 := 32) (p2 := 10) (by decide) rfl ⟨Int.le_trans (by decide) b1218.1, Int.le_trans b1218.2 (by decide)⟩ ⟨Int.le_trans (by decide) b1221, Int.le_trans b1222 (by decide)⟩ (fun c1223 => ?_) (fun c1223 => ?_))
      · have := @xfr_n (d 1) (d 0 3) y v1215 (by omega)
        refine wp_of e27 c27_32 (rw_iconst (pc' := 33) rfl ?_)
        exact wp_ireturn e27 c27_33 rfl ⟨rfl, rfl, -1, rfl, ⟨by decide, by decide⟩, ⟨by omega, by omega⟩⟩
      · refine wp_of e27 c27_10 (rw_aload_n (pc' := 11) (v := .ref r0) rfl rfl rfl ?_)
        refine wp_of e27 c27_11 (xg_R (pc' := 14) lf_7_11 hW g0 sh_27 (by decide) (by decide) ty_27_0 rfl rfl (fun r1224 q1225 g1226 => ?_))
        refine wp_of e27 c27_14 (rw_iload_n (pc' := 15) (z := v1215) rfl rfl ?_)
        refine wp_of e27 c27_15 (xa_R (pc' := 16) (by decide) hW g1226 sh_28 (by decide) (ty_28 _) (b1218.1) (by omega) rfl (fun r1227 q1228 g1229 => ?_))
        have := DC_nm hDC_r0 q1225 q1228 (by omega)
        refine wp_of e27 c27_16 (xg_L (pc' := 19) lf_7_86 hW g1229 sh_35 (by decide) (by decide) ty_35_6 rfl rfl (fun b1230 b1231 => ?_))
        refine wp_of e27 c27_19 (rw_lload_n (pc' := 20) (z := a1) rfl rfl ?_)
        refine wp_of e27 c27_20 (rw_lcmp (pc' := 21) rfl ⟨b1230, b1231⟩ ⟨i1.1, i1.2⟩ ?_)
        have b1232 := wq_cmp_b (H r1227 6) a1
        refine wp_of e27 c27_21 (rw_if_ne (p1 := 26) (p2 := 24) (by decide) rfl ⟨by omega, by omega⟩ (fun c1233 => ?_) (fun c1233 => ?_))
        · have := @xfr_s (d 1) (d 0 3) y v1215 (by omega) (by omega)
          refine wp_of e27 c27_26 (rw_iinc (pc' := 29) (z := v1215) (L' := [(3, vI (v1215 + 1)), (0, .ref r0), (1, vL a1)]) rfl rfl rfl rfl ?_)
          refine wp_of e27 c27_29 (rw_goto (p1 := 2) (by decide) ?_)
          exact wp_lc (ks := [3, 0, 1]) (wl_c rfl (wl_c rfl (wl_c rfl wl_n))) rfl (by decide) (ih1214 _ (by omega) (v1215 + 1) ⟨by omega, by omega⟩ (by omega) rfl)
        · have := @xfr_e (d 1) (d 0 3) y v1215 (by omega) (by omega)
          refine wp_of e27 c27_24 (rw_iload_n (pc' := 25) (z := v1215) rfl rfl ?_)
          exact wp_ireturn e27 c27_25 rfl ⟨rfl, rfl, v1215, rfl, ⟨Int.le_trans (by decide) b1218.1, Int.le_trans b1218.2 (by decide)⟩, ⟨by omega, by omega⟩⟩
  have : xfr (d 1) (d 0 3) y 0 = xfi (d 1) (d 0 3) y := rfl
  exact wp_lc (ks := [3, 0, 1]) (wl_c rfl (wl_c rfl (wl_c rfl wl_n))) rfl (by decide) (lp1212 _ 0 ⟨by decide, by decide⟩ (by omega) rfl)
/-! StrikeAwake$Reader.knownPerson(LStrikeAwake$Parish;)I  -/
abbrev uq_33 (r0 : Nat) (r1 : Nat) (tk : Nat) (rb : Nat) (B : Nat → Int) (n : Int) (q : Int) (d : xD) (T : wq_T) (H : wq_H) : Option Value → wq_T → wq_H → Prop := fun r T' H' => T = T' ∧ WT T H' ∧ wfr [(3, 3), (3, 4)] T H H' ∧ ∃ z : Int, some (vI z) = r ∧ ((-2147483648) ≤ z ∧ z ≤ 2147483647) ∧ (((0 ≤ z ∧ z ≤ 5) ∧ (xkn B n q d = 0) ∧ (z = xwho B n q d) ∧ (z < d 0 3) ∧ (H' r0 3 = H r0 3)) ∨ ((z = -1) ∧ (xkn B n q d ≠ 0) ∧ (H' r0 3 = (xkn B n q d)) ∧ (H' r0 4 = q)))
set_option maxHeartbeats 4000000 in
theorem u_33 {kt : Nat → Option mc_E} {T : wq_T} {H : wq_H} {r0 : Nat} {r1 : Nat} {tk : Nat} {rb : Nat} {B : Nat → Int} {n : Int} {q : Int} {d : xD} (hW : WT T H) (g0 : T.2.2.2 r0 = some 3) (g1 : T.2.2.2 r1 = some 27) (qtk : H r0 0 = (tk : Int)) (gtk : T.2.2.2 tk = some 4) (qrb : H tk 0 = (rb : Int)) (grb : T.2.2.2 rb = some 2) (hTC_tk : TC T H tk B n q) (hDC_r1 : DC T H r1 d) : wpc kt 4 33 [.ref r0, .ref r1] T H (uq_33 r0 r1 tk rb B n q d T H) := by
  refine wp_enter e33 (Nat.le_of_ble_eq_true rfl) rfl ?_
  have f0 : wfr [(3, 3), (3, 4)] T H H := wfr.rf
  show wp _ _ 33 0 [(0, .ref r0), (1, .ref r1)] [] _ H _
  have u1062 := TC_k hTC_tk
  have u1063 := DC_k hDC_r1
  have _x1 := @xkn_b d B n q
  have _x2 := @xwho_e d B n q
  have _x3 := @xre_b B n q
  have _i := TC_i hTC_tk
  refine wp_of e33 c33_0 (rw_aload_n (pc' := 1) (v := .ref r0) rfl rfl rfl ?_)
  refine wp_of e33 c33_1 (xc_V (pc' := 4) (r := r0) (as := []) (st := []) (lm_1_131) rfl rfl (Nat.le_of_ble_eq_true rfl) hW g0 sh_3 (by decide) rfl (by decide) (u_26 (B := B) (n := n) (q := q) hW g0 qtk gtk qrb grb hTC_tk) (fun R1064 T1065 H1066 p1067 => ?_))
  obtain ⟨e1068, e1070, z1071, e1069, b1072, p1073⟩ := p1067
  subst e1068
  subst e1069
  subst e1070
  rcases p1073 with ⟨a1074, a1075⟩ | ⟨a1076, a1077⟩
  · show wp _ _ 33 4 [(0, .ref r0), (1, .ref r1)] [vI z1071] _ H _
    refine wp_of e33 c33_4 (rw_if_ne (p1 := 15) (p2 := 7) (by decide) rfl ⟨Int.le_trans (by decide) b1072.1, Int.le_trans b1072.2 (by decide)⟩ (fun c1078 => ?_) (fun c1078 => ?_))
    · refine wp_of e33 c33_15 (rw_aload_n (pc' := 16) (v := .ref r1) rfl rfl rfl ?_)
      refine wp_of e33 c33_16 (rw_aload_n (pc' := 17) (v := .ref r0) rfl rfl rfl ?_)
      refine wp_of e33 c33_17 (xg_K (pc' := 20) lf_1_12 hW g0 sh_3 (by decide) (by decide) rfl qtk rfl ?_)
      refine wp_of e33 c33_20 (xg_L (pc' := 23) lf_1_135 hW gtk sh_4 (by decide) (by decide) ty_4_6 rfl rfl (fun b1079 b1080 => ?_))
      refine wp_of e33 c33_23 (xc_V (pc' := 26) (r := r1) (as := [vL (H tk 6)]) (st := []) (lm_1_139) rfl rfl (Nat.le_of_ble_eq_true rfl) hW g1 sh_27 (by decide) rfl (by decide) (u_27 (d := d) (y := (xY B n q)) hW g1 ⟨b1079, b1080⟩ (by omega) hDC_r1) (fun R1081 T1082 H1083 p1084 => ?_))
      obtain ⟨e1085, e1087, z1088, e1086, b1089, p1090⟩ := p1084
      subst e1085
      subst e1086
      subst e1087
      obtain ⟨a1091, a1092⟩ := p1090
      show wp _ _ 33 26 [(0, .ref r0), (1, .ref r1)] [vI z1088] _ H _
      refine wp_of e33 c33_26 (rw_istore_n (pc' := 27) (z := z1088) (L' := [(2, vI z1088), (0, .ref r0), (1, .ref r1)]) rfl rfl rfl ?_)
      refine wp_of e33 c33_27 (rw_iload_n (pc' := 28) (z := z1088) rfl rfl ?_)
      refine wp_of e33 c33_28 (rw_if_ge (p1 := 37) (p2 := 31) (by decide) rfl ⟨b1089.1, b1089.2⟩ (fun c1093 => ?_) (fun c1093 => ?_))
      · refine wp_of e33 c33_37 (rw_iload_n (pc' := 38) (z := z1088) rfl rfl ?_)
        exact wp_ireturn e33 c33_38 rfl ⟨rfl, hW, f0, z1088, rfl, ⟨b1089.1, b1089.2⟩, (Or.inl ⟨by omega, by omega, by omega, by omega, by omega⟩)⟩
      · refine wp_of e33 c33_31 (rw_aload_n (pc' := 32) (v := .ref r0) rfl rfl rfl ?_)
        refine wp_of e33 c33_32 (rw_iconst (pc' := 33) rfl ?_)
        refine wp_of e33 c33_33 (xc_V (pc' := 36) (r := r0) (as := [vI 2]) (st := []) (lm_1_47) rfl rfl (Nat.le_of_ble_eq_true rfl) hW g0 sh_3 (by decide) rfl (by decide) (u_20  hW g0 ⟨by decide, by decide⟩ qtk gtk) (fun R1094 T1095 H1096 p1097 => ?_))
        obtain ⟨e1098, w1100, f1101, z1102, e1099, b1103, p1104⟩ := p1097
        subst e1098
        subst e1099
        obtain ⟨a1105, a1106, a1107⟩ := p1104
        have f1108 := f0.tr f1101 rfl
        show wp _ _ 33 36 [(2, vI z1088), (0, .ref r0), (1, .ref r1)] [vI z1102] _ H1096 _
        refine wp_of e33 c33_36 (rw_pop (pc' := 37) rfl rfl ?_)
        refine wp_of e33 c33_37 (rw_iload_n (pc' := 38) (z := z1088) rfl rfl ?_)
        exact wp_ireturn e33 c33_38 rfl ⟨rfl, w1100, f1108, z1088, rfl, ⟨b1089.1, b1089.2⟩, (Or.inr ⟨by omega, by omega, by omega, by omega⟩)⟩
    · exfalso
      omega
  · show wp _ _ 33 4 [(0, .ref r0), (1, .ref r1)] [vI z1071] _ H _
    refine wp_of e33 c33_4 (rw_if_ne (p1 := 15) (p2 := 7) (by decide) rfl ⟨Int.le_trans (by decide) b1072.1, Int.le_trans b1072.2 (by decide)⟩ (fun c1109 => ?_) (fun c1109 => ?_))
    · exfalso
      omega
    · refine wp_of e33 c33_7 (rw_aload_n (pc' := 8) (v := .ref r0) rfl rfl rfl ?_)
      refine wp_of e33 c33_8 (rw_iconst (pc' := 9) rfl ?_)
      refine wp_of e33 c33_9 (xc_V (pc' := 12) (r := r0) (as := [vI 1]) (st := []) (lm_1_47) rfl rfl (Nat.le_of_ble_eq_true rfl) hW g0 sh_3 (by decide) rfl (by decide) (u_20  hW g0 ⟨by decide, by decide⟩ qtk gtk) (fun R1110 T1111 H1112 p1113 => ?_))
      obtain ⟨e1114, w1116, f1117, z1118, e1115, b1119, p1120⟩ := p1113
      subst e1114
      subst e1115
      obtain ⟨a1121, a1122, a1123⟩ := p1120
      have f1124 := f0.tr f1117 rfl
      show wp _ _ 33 12 [(0, .ref r0), (1, .ref r1)] [vI z1118] _ H1112 _
      refine wp_of e33 c33_12 (rw_pop (pc' := 13) rfl rfl ?_)
      refine wp_of e33 c33_13 (rw_iconst (pc' := 14) rfl ?_)
      exact wp_ireturn e33 c33_14 rfl ⟨rfl, w1116, f1124, -1, rfl, ⟨by decide, by decide⟩, (Or.inr ⟨by omega, by omega, by omega, by omega⟩)⟩
/-! StrikeAwake$Parish.linesOf(LStrikeAwake$Reserved;)I 16 -/
abbrev uq_21_16 (r0 : Nat) (T : wq_T) (H : wq_H) : Option Value → wq_T → wq_H → Prop := fun r T' H' => T = T' ∧ H = H' ∧ ∃ z : Int, some (vI z) = r ∧ ((-2147483648) ≤ z ∧ z ≤ 2147483647) ∧ (((z = 1) ∧ (0 < H r0 7)) ∨ ((z = 0) ∧ (H r0 7 ≤ 0)))
set_option maxHeartbeats 4000000 in
theorem u_21_16 {kt : Nat → Option mc_E} {T : wq_T} {H : wq_H} {r0 : Nat} (hW : WT T H) (g0 : T.2.2.2 r0 = some 27) : wpc kt 1 21 [.ref r0, .ref 16] T H (uq_21_16 r0 T H) := by
  refine wp_enter e21 (Nat.le_of_ble_eq_true rfl) rfl ?_
  show wp _ _ 21 0 [(0, .ref r0), (1, .ref 16)] [] _ H _
  refine wp_of e21 c21_0 (rw_gs (pc' := 3) (k := 2) rfl rfl rfl rfl ?_)
  refine wp_of e21 c21_3 (rw_aload_n (pc' := 4) (v := .ref 16) rfl rfl rfl ?_)
  refine wp_of e21 c21_4 (rw_ord (pc' := 7) rfl rfl rfl (by decide) (Nat.le_of_ble_eq_true rfl) rfl ?_)
  show wp _ _ 21 7 [(0, .ref r0), (1, .ref 16)] [vI 0, .ref 2] _ H _
  have k1006 : H 2 (0 : Int).toNat = 1 := (hW.2 2 _ hW.1.2.1).2.2 0 (by decide) |> fun z => by have z1 : (1 : Int) ≤ H 2 0 ∧ H 2 0 ≤ 1 := z; exact Int.le_antisymm z1.2 z1.1
  refine wp_of e21 c21_7 (rw_iaload (pc' := 8) (n := 11) (hW.sh hW.1.2.1 rfl) (by decide) (by decide) (by decide) rfl rfl ?_)
  rw [k1006]
  refine wp_of e21 c21_8 (rw_tsw (p1 := 56) ⟨by omega, by omega⟩ (by decide) ?_)
  refine wp_of e21 c21_56 (rw_aload_n (pc' := 57) (v := .ref r0) rfl rfl rfl ?_)
  refine wp_of e21 c21_57 (xg_I (pc' := 60) lf_7_41 hW g0 sh_27 (by decide) (by decide) ty_27_7 rfl rfl (fun b1008 b1009 => ?_))
  refine wp_of e21 c21_60 (rw_if_le (p1 := 67) (p2 := 63) (by decide) rfl ⟨Int.le_trans (by decide) b1008, Int.le_trans b1009 (by decide)⟩ (fun c1010 => ?_) (fun c1010 => ?_))
  · refine wp_of e21 c21_67 (rw_iconst (pc' := 68) rfl ?_)
    exact wp_ireturn e21 c21_68 rfl ⟨rfl, rfl, 0, rfl, ⟨by decide, by decide⟩, (Or.inr ⟨by omega, by omega⟩)⟩
  · refine wp_of e21 c21_63 (rw_iconst (pc' := 64) rfl ?_)
    refine wp_of e21 c21_64 (rw_goto (p1 := 68) (by decide) ?_)
    exact wp_ireturn e21 c21_68 rfl ⟨rfl, rfl, 1, rfl, ⟨by decide, by decide⟩, (Or.inl ⟨by omega, by omega⟩)⟩
/-! StrikeAwake$Parish.linesOf(LStrikeAwake$Reserved;)I 17 -/
abbrev uq_21_17 (r0 : Nat) (T : wq_T) (H : wq_H) : Option Value → wq_T → wq_H → Prop := fun r T' H' => T = T' ∧ H = H' ∧ ∃ z : Int, some (vI z) = r ∧ ((-2147483648) ≤ z ∧ z ≤ 2147483647) ∧ (((0 ≤ z ∧ z ≤ 6) ∧ (z = H r0 10)))
set_option maxHeartbeats 4000000 in
theorem u_21_17 {kt : Nat → Option mc_E} {T : wq_T} {H : wq_H} {r0 : Nat} (hW : WT T H) (g0 : T.2.2.2 r0 = some 27) : wpc kt 1 21 [.ref r0, .ref 17] T H (uq_21_17 r0 T H) := by
  refine wp_enter e21 (Nat.le_of_ble_eq_true rfl) rfl ?_
  show wp _ _ 21 0 [(0, .ref r0), (1, .ref 17)] [] _ H _
  refine wp_of e21 c21_0 (rw_gs (pc' := 3) (k := 2) rfl rfl rfl rfl ?_)
  refine wp_of e21 c21_3 (rw_aload_n (pc' := 4) (v := .ref 17) rfl rfl rfl ?_)
  refine wp_of e21 c21_4 (rw_ord (pc' := 7) rfl rfl rfl (by decide) (Nat.le_of_ble_eq_true rfl) rfl ?_)
  show wp _ _ 21 7 [(0, .ref r0), (1, .ref 17)] [vI 1, .ref 2] _ H _
  have k1005 : H 2 (1 : Int).toNat = 2 := (hW.2 2 _ hW.1.2.1).2.2 1 (by decide) |> fun z => by have z1 : (2 : Int) ≤ H 2 1 ∧ H 2 1 ≤ 2 := z; exact Int.le_antisymm z1.2 z1.1
  refine wp_of e21 c21_7 (rw_iaload (pc' := 8) (n := 11) (hW.sh hW.1.2.1 rfl) (by decide) (by decide) (by decide) rfl rfl ?_)
  rw [k1005]
  refine wp_of e21 c21_8 (rw_tsw (p1 := 69) ⟨by omega, by omega⟩ (by decide) ?_)
  refine wp_of e21 c21_69 (rw_aload_n (pc' := 70) (v := .ref r0) rfl rfl rfl ?_)
  refine wp_of e21 c21_70 (xg_I (pc' := 73) lf_7_50 hW g0 sh_27 (by decide) (by decide) ty_27_10 rfl rfl (fun b1007 b1008 => ?_))
  exact wp_ireturn e21 c21_73 rfl ⟨rfl, rfl, H r0 10, rfl, ⟨Int.le_trans (by decide) b1007, Int.le_trans b1008 (by decide)⟩, ⟨by omega, by omega⟩⟩
/-! StrikeAwake$Parish.linesOf(LStrikeAwake$Reserved;)I 18 -/
abbrev uq_21_18 (r0 : Nat) (T : wq_T) (H : wq_H) : Option Value → wq_T → wq_H → Prop := fun r T' H' => T = T' ∧ H = H' ∧ ∃ z : Int, some (vI z) = r ∧ ((-2147483648) ≤ z ∧ z ≤ 2147483647) ∧ (((z = 1) ∧ (0 ≤ H r0 15)) ∨ ((z = 0) ∧ (H r0 15 < 0)))
set_option maxHeartbeats 4000000 in
theorem u_21_18 {kt : Nat → Option mc_E} {T : wq_T} {H : wq_H} {r0 : Nat} (hW : WT T H) (g0 : T.2.2.2 r0 = some 27) : wpc kt 1 21 [.ref r0, .ref 18] T H (uq_21_18 r0 T H) := by
  refine wp_enter e21 (Nat.le_of_ble_eq_true rfl) rfl ?_
  show wp _ _ 21 0 [(0, .ref r0), (1, .ref 18)] [] _ H _
  refine wp_of e21 c21_0 (rw_gs (pc' := 3) (k := 2) rfl rfl rfl rfl ?_)
  refine wp_of e21 c21_3 (rw_aload_n (pc' := 4) (v := .ref 18) rfl rfl rfl ?_)
  refine wp_of e21 c21_4 (rw_ord (pc' := 7) rfl rfl rfl (by decide) (Nat.le_of_ble_eq_true rfl) rfl ?_)
  show wp _ _ 21 7 [(0, .ref r0), (1, .ref 18)] [vI 2, .ref 2] _ H _
  have k1006 : H 2 (2 : Int).toNat = 3 := (hW.2 2 _ hW.1.2.1).2.2 2 (by decide) |> fun z => by have z1 : (3 : Int) ≤ H 2 2 ∧ H 2 2 ≤ 3 := z; exact Int.le_antisymm z1.2 z1.1
  refine wp_of e21 c21_7 (rw_iaload (pc' := 8) (n := 11) (hW.sh hW.1.2.1 rfl) (by decide) (by decide) (by decide) rfl rfl ?_)
  rw [k1006]
  refine wp_of e21 c21_8 (rw_tsw (p1 := 74) ⟨by omega, by omega⟩ (by decide) ?_)
  refine wp_of e21 c21_74 (rw_aload_n (pc' := 75) (v := .ref r0) rfl rfl rfl ?_)
  refine wp_of e21 c21_75 (xg_I (pc' := 78) lf_7_37 hW g0 sh_27 (by decide) (by decide) ty_27_15 rfl rfl (fun b1008 b1009 => ?_))
  refine wp_of e21 c21_78 (rw_if_lt (p1 := 85) (p2 := 81) (by decide) rfl ⟨b1008, b1009⟩ (fun c1010 => ?_) (fun c1010 => ?_))
  · refine wp_of e21 c21_85 (rw_iconst (pc' := 86) rfl ?_)
    exact wp_ireturn e21 c21_86 rfl ⟨rfl, rfl, 0, rfl, ⟨by decide, by decide⟩, (Or.inr ⟨by omega, by omega⟩)⟩
  · refine wp_of e21 c21_81 (rw_iconst (pc' := 82) rfl ?_)
    refine wp_of e21 c21_82 (rw_goto (p1 := 86) (by decide) ?_)
    exact wp_ireturn e21 c21_86 rfl ⟨rfl, rfl, 1, rfl, ⟨by decide, by decide⟩, (Or.inl ⟨by omega, by omega⟩)⟩
/-! StrikeAwake$Parish.linesOf(LStrikeAwake$Reserved;)I 19 -/
abbrev uq_21_19 (r0 : Nat) (T : wq_T) (H : wq_H) : Option Value → wq_T → wq_H → Prop := fun r T' H' => T = T' ∧ H = H' ∧ ∃ z : Int, some (vI z) = r ∧ ((-2147483648) ≤ z ∧ z ≤ 2147483647) ∧ (((-2147483648 ≤ z ∧ z ≤ 2147483647) ∧ (z = H r0 11)))
set_option maxHeartbeats 4000000 in
theorem u_21_19 {kt : Nat → Option mc_E} {T : wq_T} {H : wq_H} {r0 : Nat} (hW : WT T H) (g0 : T.2.2.2 r0 = some 27) : wpc kt 1 21 [.ref r0, .ref 19] T H (uq_21_19 r0 T H) := by
  refine wp_enter e21 (Nat.le_of_ble_eq_true rfl) rfl ?_
  show wp _ _ 21 0 [(0, .ref r0), (1, .ref 19)] [] _ H _
  refine wp_of e21 c21_0 (rw_gs (pc' := 3) (k := 2) rfl rfl rfl rfl ?_)
  refine wp_of e21 c21_3 (rw_aload_n (pc' := 4) (v := .ref 19) rfl rfl rfl ?_)
  refine wp_of e21 c21_4 (rw_ord (pc' := 7) rfl rfl rfl (by decide) (Nat.le_of_ble_eq_true rfl) rfl ?_)
  show wp _ _ 21 7 [(0, .ref r0), (1, .ref 19)] [vI 3, .ref 2] _ H _
  have k1005 : H 2 (3 : Int).toNat = 4 := (hW.2 2 _ hW.1.2.1).2.2 3 (by decide) |> fun z => by have z1 : (4 : Int) ≤ H 2 3 ∧ H 2 3 ≤ 4 := z; exact Int.le_antisymm z1.2 z1.1
  refine wp_of e21 c21_7 (rw_iaload (pc' := 8) (n := 11) (hW.sh hW.1.2.1 rfl) (by decide) (by decide) (by decide) rfl rfl ?_)
  rw [k1005]
  refine wp_of e21 c21_8 (rw_tsw (p1 := 87) ⟨by omega, by omega⟩ (by decide) ?_)
  refine wp_of e21 c21_87 (rw_aload_n (pc' := 88) (v := .ref r0) rfl rfl rfl ?_)
  refine wp_of e21 c21_88 (xg_I (pc' := 91) lf_7_53 hW g0 sh_27 (by decide) (by decide) ty_27_11 rfl rfl (fun b1007 b1008 => ?_))
  exact wp_ireturn e21 c21_91 rfl ⟨rfl, rfl, H r0 11, rfl, ⟨b1007, b1008⟩, ⟨by omega, by omega⟩⟩
/-! StrikeAwake$Parish.linesOf(LStrikeAwake$Reserved;)I 20 -/
abbrev uq_21_20 (r0 : Nat) (T : wq_T) (H : wq_H) : Option Value → wq_T → wq_H → Prop := fun r T' H' => T = T' ∧ H = H' ∧ ∃ z : Int, some (vI z) = r ∧ ((-2147483648) ≤ z ∧ z ≤ 2147483647) ∧ (((0 ≤ z ∧ z ≤ 3) ∧ (z = H r0 12)))
set_option maxHeartbeats 4000000 in
theorem u_21_20 {kt : Nat → Option mc_E} {T : wq_T} {H : wq_H} {r0 : Nat} (hW : WT T H) (g0 : T.2.2.2 r0 = some 27) : wpc kt 1 21 [.ref r0, .ref 20] T H (uq_21_20 r0 T H) := by
  refine wp_enter e21 (Nat.le_of_ble_eq_true rfl) rfl ?_
  show wp _ _ 21 0 [(0, .ref r0), (1, .ref 20)] [] _ H _
  refine wp_of e21 c21_0 (rw_gs (pc' := 3) (k := 2) rfl rfl rfl rfl ?_)
  refine wp_of e21 c21_3 (rw_aload_n (pc' := 4) (v := .ref 20) rfl rfl rfl ?_)
  refine wp_of e21 c21_4 (rw_ord (pc' := 7) rfl rfl rfl (by decide) (Nat.le_of_ble_eq_true rfl) rfl ?_)
  show wp _ _ 21 7 [(0, .ref r0), (1, .ref 20)] [vI 4, .ref 2] _ H _
  have k1005 : H 2 (4 : Int).toNat = 5 := (hW.2 2 _ hW.1.2.1).2.2 4 (by decide) |> fun z => by have z1 : (5 : Int) ≤ H 2 4 ∧ H 2 4 ≤ 5 := z; exact Int.le_antisymm z1.2 z1.1
  refine wp_of e21 c21_7 (rw_iaload (pc' := 8) (n := 11) (hW.sh hW.1.2.1 rfl) (by decide) (by decide) (by decide) rfl rfl ?_)
  rw [k1005]
  refine wp_of e21 c21_8 (rw_tsw (p1 := 92) ⟨by omega, by omega⟩ (by decide) ?_)
  refine wp_of e21 c21_92 (rw_aload_n (pc' := 93) (v := .ref r0) rfl rfl rfl ?_)
  refine wp_of e21 c21_93 (xg_I (pc' := 96) lf_7_56 hW g0 sh_27 (by decide) (by decide) ty_27_12 rfl rfl (fun b1007 b1008 => ?_))
  exact wp_ireturn e21 c21_96 rfl ⟨rfl, rfl, H r0 12, rfl, ⟨Int.le_trans (by decide) b1007, Int.le_trans b1008 (by decide)⟩, ⟨by omega, by omega⟩⟩
/-! StrikeAwake$Parish.linesOf(LStrikeAwake$Reserved;)I 21 -/
abbrev uq_21_21 (r0 : Nat) (T : wq_T) (H : wq_H) : Option Value → wq_T → wq_H → Prop := fun r T' H' => T = T' ∧ H = H' ∧ ∃ z : Int, some (vI z) = r ∧ ((-2147483648) ≤ z ∧ z ≤ 2147483647) ∧ (((0 ≤ z ∧ z ≤ 24) ∧ (z = H r0 16)))
set_option maxHeartbeats 4000000 in
theorem u_21_21 {kt : Nat → Option mc_E} {T : wq_T} {H : wq_H} {r0 : Nat} (hW : WT T H) (g0 : T.2.2.2 r0 = some 27) : wpc kt 1 21 [.ref r0, .ref 21] T H (uq_21_21 r0 T H) := by
  refine wp_enter e21 (Nat.le_of_ble_eq_true rfl) rfl ?_
  show wp _ _ 21 0 [(0, .ref r0), (1, .ref 21)] [] _ H _
  refine wp_of e21 c21_0 (rw_gs (pc' := 3) (k := 2) rfl rfl rfl rfl ?_)
  refine wp_of e21 c21_3 (rw_aload_n (pc' := 4) (v := .ref 21) rfl rfl rfl ?_)
  refine wp_of e21 c21_4 (rw_ord (pc' := 7) rfl rfl rfl (by decide) (Nat.le_of_ble_eq_true rfl) rfl ?_)
  show wp _ _ 21 7 [(0, .ref r0), (1, .ref 21)] [vI 5, .ref 2] _ H _
  have k1005 : H 2 (5 : Int).toNat = 6 := (hW.2 2 _ hW.1.2.1).2.2 5 (by decide) |> fun z => by have z1 : (6 : Int) ≤ H 2 5 ∧ H 2 5 ≤ 6 := z; exact Int.le_antisymm z1.2 z1.1
  refine wp_of e21 c21_7 (rw_iaload (pc' := 8) (n := 11) (hW.sh hW.1.2.1 rfl) (by decide) (by decide) (by decide) rfl rfl ?_)
  rw [k1005]
  refine wp_of e21 c21_8 (rw_tsw (p1 := 97) ⟨by omega, by omega⟩ (by decide) ?_)
  refine wp_of e21 c21_97 (rw_aload_n (pc' := 98) (v := .ref r0) rfl rfl rfl ?_)
  refine wp_of e21 c21_98 (xg_I (pc' := 101) lf_7_65 hW g0 sh_27 (by decide) (by decide) ty_27_16 rfl rfl (fun b1007 b1008 => ?_))
  exact wp_ireturn e21 c21_101 rfl ⟨rfl, rfl, H r0 16, rfl, ⟨Int.le_trans (by decide) b1007, Int.le_trans b1008 (by decide)⟩, ⟨by omega, by omega⟩⟩
/-! StrikeAwake$Parish.linesOf(LStrikeAwake$Reserved;)I 22 -/
abbrev uq_21_22 (r0 : Nat) (T : wq_T) (H : wq_H) : Option Value → wq_T → wq_H → Prop := fun r T' H' => T = T' ∧ H = H' ∧ ∃ z : Int, some (vI z) = r ∧ ((-2147483648) ≤ z ∧ z ≤ 2147483647) ∧ (((0 ≤ z ∧ z ≤ 4) ∧ (z = H r0 13)))
set_option maxHeartbeats 4000000 in
theorem u_21_22 {kt : Nat → Option mc_E} {T : wq_T} {H : wq_H} {r0 : Nat} (hW : WT T H) (g0 : T.2.2.2 r0 = some 27) : wpc kt 1 21 [.ref r0, .ref 22] T H (uq_21_22 r0 T H) := by
  refine wp_enter e21 (Nat.le_of_ble_eq_true rfl) rfl ?_
  show wp _ _ 21 0 [(0, .ref r0), (1, .ref 22)] [] _ H _
  refine wp_of e21 c21_0 (rw_gs (pc' := 3) (k := 2) rfl rfl rfl rfl ?_)
  refine wp_of e21 c21_3 (rw_aload_n (pc' := 4) (v := .ref 22) rfl rfl rfl ?_)
  refine wp_of e21 c21_4 (rw_ord (pc' := 7) rfl rfl rfl (by decide) (Nat.le_of_ble_eq_true rfl) rfl ?_)
  show wp _ _ 21 7 [(0, .ref r0), (1, .ref 22)] [vI 6, .ref 2] _ H _
  have k1005 : H 2 (6 : Int).toNat = 7 := (hW.2 2 _ hW.1.2.1).2.2 6 (by decide) |> fun z => by have z1 : (7 : Int) ≤ H 2 6 ∧ H 2 6 ≤ 7 := z; exact Int.le_antisymm z1.2 z1.1
  refine wp_of e21 c21_7 (rw_iaload (pc' := 8) (n := 11) (hW.sh hW.1.2.1 rfl) (by decide) (by decide) (by decide) rfl rfl ?_)
  rw [k1005]
  refine wp_of e21 c21_8 (rw_tsw (p1 := 102) ⟨by omega, by omega⟩ (by decide) ?_)
  refine wp_of e21 c21_102 (rw_aload_n (pc' := 103) (v := .ref r0) rfl rfl rfl ?_)
  refine wp_of e21 c21_103 (xg_I (pc' := 106) lf_7_59 hW g0 sh_27 (by decide) (by decide) ty_27_13 rfl rfl (fun b1007 b1008 => ?_))
  exact wp_ireturn e21 c21_106 rfl ⟨rfl, rfl, H r0 13, rfl, ⟨Int.le_trans (by decide) b1007, Int.le_trans b1008 (by decide)⟩, ⟨by omega, by omega⟩⟩
/-! StrikeAwake$Parish.linesOf(LStrikeAwake$Reserved;)I 23 -/
abbrev uq_21_23 (r0 : Nat) (T : wq_T) (H : wq_H) : Option Value → wq_T → wq_H → Prop := fun r T' H' => T = T' ∧ H = H' ∧ ∃ z : Int, some (vI z) = r ∧ ((-2147483648) ≤ z ∧ z ≤ 2147483647) ∧ (((0 ≤ z ∧ z ≤ 6) ∧ (z = H r0 14)))
set_option maxHeartbeats 4000000 in
theorem u_21_23 {kt : Nat → Option mc_E} {T : wq_T} {H : wq_H} {r0 : Nat} (hW : WT T H) (g0 : T.2.2.2 r0 = some 27) : wpc kt 1 21 [.ref r0, .ref 23] T H (uq_21_23 r0 T H) := by
  refine wp_enter e21 (Nat.le_of_ble_eq_true rfl) rfl ?_
  show wp _ _ 21 0 [(0, .ref r0), (1, .ref 23)] [] _ H _
  refine wp_of e21 c21_0 (rw_gs (pc' := 3) (k := 2) rfl rfl rfl rfl ?_)
  refine wp_of e21 c21_3 (rw_aload_n (pc' := 4) (v := .ref 23) rfl rfl rfl ?_)
  refine wp_of e21 c21_4 (rw_ord (pc' := 7) rfl rfl rfl (by decide) (Nat.le_of_ble_eq_true rfl) rfl ?_)
  show wp _ _ 21 7 [(0, .ref r0), (1, .ref 23)] [vI 7, .ref 2] _ H _
  have k1005 : H 2 (7 : Int).toNat = 8 := (hW.2 2 _ hW.1.2.1).2.2 7 (by decide) |> fun z => by have z1 : (8 : Int) ≤ H 2 7 ∧ H 2 7 ≤ 8 := z; exact Int.le_antisymm z1.2 z1.1
  refine wp_of e21 c21_7 (rw_iaload (pc' := 8) (n := 11) (hW.sh hW.1.2.1 rfl) (by decide) (by decide) (by decide) rfl rfl ?_)
  rw [k1005]
  refine wp_of e21 c21_8 (rw_tsw (p1 := 107) ⟨by omega, by omega⟩ (by decide) ?_)
  refine wp_of e21 c21_107 (rw_aload_n (pc' := 108) (v := .ref r0) rfl rfl rfl ?_)
  refine wp_of e21 c21_108 (xg_I (pc' := 111) lf_7_62 hW g0 sh_27 (by decide) (by decide) ty_27_14 rfl rfl (fun b1007 b1008 => ?_))
  exact wp_ireturn e21 c21_111 rfl ⟨rfl, rfl, H r0 14, rfl, ⟨Int.le_trans (by decide) b1007, Int.le_trans b1008 (by decide)⟩, ⟨by omega, by omega⟩⟩
/-! StrikeAwake$Reader.readsLaw(LStrikeAwake$Parish;)Z  -/
abbrev uq_22 (r0 : Nat) (r1 : Nat) (tk : Nat) (rb : Nat) (B : Nat → Int) (n : Int) (q : Int) (d : xD) (T : wq_T) (H : wq_H) : Option Value → wq_T → wq_H → Prop := fun r T' H' => T = T' ∧ WT T H' ∧ wfr [(27, 7), (27, 8), (27, 9), (3, 3), (3, 4), (4, 2), (4, 3), (4, 4), (4, 5), (4, 6)] T H H' ∧ ∃ z : Int, some (vI z) = r ∧ (0 ≤ z ∧ z ≤ 1) ∧ (((z = 1) ∧ ((xlaw B n q).1 = 0) ∧ (xlaw B n q = (0, q, (xN B n (xN B n (xN B n (xN B n (xN B n (xN B n q)))))))) ∧ (q ≤ (xN B n (xN B n (xN B n (xN B n (xN B n (xN B n q))))))) ∧ (H' r0 3 = H r0 3) ∧ TC T H' tk B n (xN B n (xN B n (xN B n (xN B n (xN B n (xN B n q)))))) ∧ DC T H' r1 (xdlaw B n q d) ∧ CZ T H' r1 ((xdlaw B n q d) 0 3)) ∨ ((z = 0) ∧ ((xlaw B n q).1 ≠ 0) ∧ ((xlaw B n q).2.2 = (xlaw B n q).2.1) ∧ (H' r0 3 = (xlaw B n q).1) ∧ (H' r0 4 = (xlaw B n q).2.1)))
set_option maxHeartbeats 4000000 in
theorem u_22 {kt : Nat → Option mc_E} {T : wq_T} {H : wq_H} {r0 : Nat} {r1 : Nat} {tk : Nat} {rb : Nat} {B : Nat → Int} {n : Int} {q : Int} {d : xD} (hW : WT T H) (g0 : T.2.2.2 r0 = some 3) (g1 : T.2.2.2 r1 = some 27) (qtk : H r0 0 = (tk : Int)) (gtk : T.2.2.2 tk = some 4) (qrb : H tk 0 = (rb : Int)) (grb : T.2.2.2 rb = some 2) (hTC_tk : TC T H tk B n q) (hDC_r1 : DC T H r1 d) (hCZ_r1 : CZ T H r1 (d 0 3)) : wpc kt 3 22 [.ref r0, .ref r1] T H (uq_22 r0 r1 tk rb B n q d T H) := by
  refine wp_enter e22 (Nat.le_of_ble_eq_true rfl) rfl ?_
  have f0 : wfr [(27, 7), (27, 8), (27, 9), (3, 3), (3, 4), (4, 2), (4, 3), (4, 4), (4, 5), (4, 6)] T H H := wfr.rf
  show wp _ _ 22 0 [(0, .ref r0), (1, .ref r1)] [] _ H _
  have u1186 := TC_k hTC_tk
  have u1187 := DC_k hDC_r1
  refine wp_of e22 c22_0 (rw_aload_n (pc' := 1) (v := .ref r0) rfl rfl rfl ?_)
  refine wp_of e22 c22_1 (rw_ldcS (pc' := 3) (k := 64) rfl rfl rfl rfl ?_)
  refine wp_of e22 c22_3 (xc_V (pc' := 6) (r := r0) (as := [.ref 64]) (st := []) (lm_1_115) rfl rfl (Nat.le_of_ble_eq_true rfl) hW g0 sh_3 (by decide) rfl (by decide) (u_23 (B := B) (n := n) (q := q) (kk := 8902227) hW g0 rfl qtk gtk qrb grb (by decide +kernel) hTC_tk) (fun R1188 T1189 H1190 p1191 => ?_))
  obtain ⟨e1192, w1194, f1195, z1196, e1193, b1197, p1198⟩ := p1191
  subst e1192
  subst e1193
  rcases p1198 with ⟨a1199, a1200, a1201, a1202⟩ | ⟨a1203, a1204, a1205, a1206⟩
  · have f1207 := f0.tr f1195 rfl
    show wp _ _ 22 6 [(0, .ref r0), (1, .ref r1)] [vI z1196] _ H1190 _
    have u1208 := TC_k a1202
    refine wp_of e22 c22_6 (rw_if_eq (p1 := 19) (p2 := 9) (by decide) rfl ⟨Int.le_trans (by decide) b1197.1, Int.le_trans b1197.2 (by decide)⟩ (fun c1209 => ?_) (fun c1209 => ?_))
    · exfalso
      omega
    · refine wp_of e22 c22_9 (rw_aload_n (pc' := 10) (v := .ref r0) rfl rfl rfl ?_)
      refine wp_of e22 c22_10 (rw_iconst (pc' := 11) rfl ?_)
      refine wp_of e22 c22_11 (rw_bipush (pc' := 13) (z := 24) rfl (by decide) ?_)
      have k1210 : H1190 r0 0 = H r0 0 := (f1195 r0 0 _ g0 rfl)
      have q1211 : H1190 r0 0 = (tk : Int) := k1210.trans qtk
      have k1212 : H1190 tk 0 = H tk 0 := (f1195 tk 0 _ gtk rfl)
      have q1213 : H1190 tk 0 = (rb : Int) := k1212.trans qrb
      refine wp_of e22 c22_13 (xc_V (pc' := 16) (r := r0) (as := [vI 1, vI 24]) (st := []) (lm_1_119) rfl rfl (Nat.le_of_ble_eq_true rfl) w1194 g0 sh_3 (by decide) rfl (by decide) (u_24 (B := B) (n := n) (q := ((xN B n q))) (lo := 1) (hi := 24) w1194 g0 ⟨by decide, by decide⟩ ⟨by decide, by decide⟩ q1211 gtk q1213 grb (by omega) (by omega) a1202) (fun R1214 T1215 H1216 p1217 => ?_))
      obtain ⟨e1218, w1220, f1221, z1222, e1219, b1223, p1224⟩ := p1217
      subst e1218
      subst e1219
      rcases p1224 with ⟨a1225, a1226, a1227, a1228, a1229⟩ | ⟨a1230, a1231, a1232, a1233⟩
      · have f1234 := f1207.tr f1221 rfl
        show wp _ _ 22 16 [(0, .ref r0), (1, .ref r1)] [vI z1222] _ H1216 _
        have u1235 := TC_k a1229
        refine wp_of e22 c22_16 (rw_goto (p1 := 20) (by decide) ?_)
        refine wp_of e22 c22_20 (rw_istore_n (pc' := 21) (z := z1222) (L' := [(2, vI z1222), (0, .ref r0), (1, .ref r1)]) rfl rfl rfl ?_)
        refine wp_of e22 c22_21 (rw_iload_n (pc' := 22) (z := z1222) rfl rfl ?_)
        refine wp_of e22 c22_22 (rw_if_lt (p1 := 44) (p2 := 25) (by decide) rfl ⟨Int.le_trans (by decide) b1223.1, Int.le_trans b1223.2 (by decide)⟩ (fun c1236 => ?_) (fun c1236 => ?_))
        · exfalso
          omega
        · refine wp_of e22 c22_25 (rw_aload_n (pc' := 26) (v := .ref r0) rfl rfl rfl ?_)
          refine wp_of e22 c22_26 (rw_ldcS (pc' := 28) (k := 65) rfl rfl rfl rfl ?_)
          have k1237 : H1216 r0 0 = H1190 r0 0 := (f1221 r0 0 _ g0 rfl)
          have q1238 : H1216 r0 0 = (tk : Int) := k1237.trans q1211
          have k1239 : H1216 tk 0 = H1190 tk 0 := (f1221 tk 0 _ gtk rfl)
          have q1240 : H1216 tk 0 = (rb : Int) := k1239.trans q1213
          refine wp_of e22 c22_28 (xc_V (pc' := 31) (r := r0) (as := [.ref 65]) (st := []) (lm_1_115) rfl rfl (Nat.le_of_ble_eq_true rfl) w1220 g0 sh_3 (by decide) rfl (by decide) (u_23 (B := B) (n := n) (q := ((xN B n ((xN B n q))))) (kk := 72983685) w1220 g0 rfl q1238 gtk q1240 grb (by decide +kernel) a1229) (fun R1241 T1242 H1243 p1244 => ?_))
          obtain ⟨e1245, w1247, f1248, z1249, e1246, b1250, p1251⟩ := p1244
          subst e1245
          subst e1246
          rcases p1251 with ⟨a1252, a1253, a1254, a1255⟩ | ⟨a1256, a1257, a1258, a1259⟩
          · have f1260 := f1234.tr f1248 rfl
            show wp _ _ 22 31 [(2, vI z1222), (0, .ref r0), (1, .ref r1)] [vI z1249] _ H1243 _
            have u1261 := TC_k a1255
            refine wp_of e22 c22_31 (rw_if_eq (p1 := 44) (p2 := 34) (by decide) rfl ⟨Int.le_trans (by decide) b1250.1, Int.le_trans b1250.2 (by decide)⟩ (fun c1262 => ?_) (fun c1262 => ?_))
            · exfalso
              omega
            · refine wp_of e22 c22_34 (rw_aload_n (pc' := 35) (v := .ref r0) rfl rfl rfl ?_)
              refine wp_of e22 c22_35 (rw_iconst (pc' := 36) rfl ?_)
              refine wp_of e22 c22_36 (rw_bipush (pc' := 38) (z := 9) rfl (by decide) ?_)
              have k1263 : H1243 r0 0 = H1216 r0 0 := (f1248 r0 0 _ g0 rfl)
              have q1264 : H1243 r0 0 = (tk : Int) := k1263.trans q1238
              have k1265 : H1243 tk 0 = H1216 tk 0 := (f1248 tk 0 _ gtk rfl)
              have q1266 : H1243 tk 0 = (rb : Int) := k1265.trans q1240
              refine wp_of e22 c22_38 (xc_V (pc' := 41) (r := r0) (as := [vI 0, vI 9]) (st := []) (lm_1_119) rfl rfl (Nat.le_of_ble_eq_true rfl) w1247 g0 sh_3 (by decide) rfl (by decide) (u_24 (B := B) (n := n) (q := ((xN B n ((xN B n ((xN B n q))))))) (lo := 0) (hi := 9) w1247 g0 ⟨by decide, by decide⟩ ⟨by decide, by decide⟩ q1264 gtk q1266 grb (by omega) (by omega) a1255) (fun R1267 T1268 H1269 p1270 => ?_))
              obtain ⟨e1271, w1273, f1274, z1275, e1272, b1276, p1277⟩ := p1270
              subst e1271
              subst e1272
              rcases p1277 with ⟨a1278, a1279, a1280, a1281, a1282⟩ | ⟨a1283, a1284, a1285, a1286⟩
              · have f1287 := f1260.tr f1274 rfl
                show wp _ _ 22 41 [(2, vI z1222), (0, .ref r0), (1, .ref r1)] [vI z1275] _ H1269 _
                have u1288 := TC_k a1282
                refine wp_of e22 c22_41 (rw_goto (p1 := 45) (by decide) ?_)
                refine wp_of e22 c22_45 (rw_istore_n (pc' := 46) (z := z1275) (L' := [(3, vI z1275), (2, vI z1222), (0, .ref r0), (1, .ref r1)]) rfl rfl rfl ?_)
                refine wp_of e22 c22_46 (rw_iload_n (pc' := 47) (z := z1275) rfl rfl ?_)
                refine wp_of e22 c22_47 (rw_if_lt (p1 := 68) (p2 := 50) (by decide) rfl ⟨Int.le_trans (by decide) b1276.1, Int.le_trans b1276.2 (by decide)⟩ (fun c1289 => ?_) (fun c1289 => ?_))
                · exfalso
                  omega
                · refine wp_of e22 c22_50 (rw_aload_n (pc' := 51) (v := .ref r0) rfl rfl rfl ?_)
                  refine wp_of e22 c22_51 (rw_ldcS (pc' := 53) (k := 66) rfl rfl rfl rfl ?_)
                  have k1290 : H1269 r0 0 = H1243 r0 0 := (f1274 r0 0 _ g0 rfl)
                  have q1291 : H1269 r0 0 = (tk : Int) := k1290.trans q1264
                  have k1292 : H1269 tk 0 = H1243 tk 0 := (f1274 tk 0 _ gtk rfl)
                  have q1293 : H1269 tk 0 = (rb : Int) := k1292.trans q1266
                  refine wp_of e22 c22_53 (xc_V (pc' := 56) (r := r0) (as := [.ref 66]) (st := []) (lm_1_115) rfl rfl (Nat.le_of_ble_eq_true rfl) w1273 g0 sh_3 (by decide) rfl (by decide) (u_23 (B := B) (n := n) (q := ((xN B n ((xN B n ((xN B n ((xN B n q))))))))) (kk := 15558) w1273 g0 rfl q1291 gtk q1293 grb (by decide +kernel) a1282) (fun R1294 T1295 H1296 p1297 => ?_))
                  obtain ⟨e1298, w1300, f1301, z1302, e1299, b1303, p1304⟩ := p1297
                  subst e1298
                  subst e1299
                  rcases p1304 with ⟨a1305, a1306, a1307, a1308⟩ | ⟨a1309, a1310, a1311, a1312⟩
                  · have f1313 := f1287.tr f1301 rfl
                    show wp _ _ 22 56 [(3, vI z1275), (2, vI z1222), (0, .ref r0), (1, .ref r1)] [vI z1302] _ H1296 _
                    have u1314 := TC_k a1308
                    refine wp_of e22 c22_56 (rw_if_eq (p1 := 68) (p2 := 59) (by decide) rfl ⟨Int.le_trans (by decide) b1303.1, Int.le_trans b1303.2 (by decide)⟩ (fun c1315 => ?_) (fun c1315 => ?_))
                    · exfalso
                      omega
                    · refine wp_of e22 c22_59 (rw_aload_n (pc' := 60) (v := .ref r0) rfl rfl rfl ?_)
                      refine wp_of e22 c22_60 (rw_iconst (pc' := 61) rfl ?_)
                      refine wp_of e22 c22_61 (rw_iconst (pc' := 62) rfl ?_)
                      have k1316 : H1296 r0 0 = H1269 r0 0 := (f1301 r0 0 _ g0 rfl)
                      have q1317 : H1296 r0 0 = (tk : Int) := k1316.trans q1291
                      have k1318 : H1296 tk 0 = H1269 tk 0 := (f1301 tk 0 _ gtk rfl)
                      have q1319 : H1296 tk 0 = (rb : Int) := k1318.trans q1293
                      refine wp_of e22 c22_62 (xc_V (pc' := 65) (r := r0) (as := [vI 0, vI 3]) (st := []) (lm_1_119) rfl rfl (Nat.le_of_ble_eq_true rfl) w1300 g0 sh_3 (by decide) rfl (by decide) (u_24 (B := B) (n := n) (q := ((xN B n ((xN B n ((xN B n ((xN B n ((xN B n q))))))))))) (lo := 0) (hi := 3) w1300 g0 ⟨by decide, by decide⟩ ⟨by decide, by decide⟩ q1317 gtk q1319 grb (by omega) (by omega) a1308) (fun R1320 T1321 H1322 p1323 => ?_))
                      obtain ⟨e1324, w1326, f1327, z1328, e1325, b1329, p1330⟩ := p1323
                      subst e1324
                      subst e1325
                      rcases p1330 with ⟨a1331, a1332, a1333, a1334, a1335⟩ | ⟨a1336, a1337, a1338, a1339⟩
                      · have f1340 := f1313.tr f1327 rfl
                        show wp _ _ 22 65 [(3, vI z1275), (2, vI z1222), (0, .ref r0), (1, .ref r1)] [vI z1328] _ H1322 _
                        have u1341 := TC_k a1335
                        refine wp_of e22 c22_65 (rw_goto (p1 := 69) (by decide) ?_)
                        refine wp_of e22 c22_69 (rw_istore (pc' := 71) (z := z1328) (L' := [(4, vI z1328), (3, vI z1275), (2, vI z1222), (0, .ref r0), (1, .ref r1)]) rfl rfl rfl ?_)
                        refine wp_of e22 c22_71 (rw_iload (pc' := 73) (z := z1328) rfl rfl ?_)
                        refine wp_of e22 c22_73 (rw_if_ge (p1 := 78) (p2 := 76) (by decide) rfl ⟨Int.le_trans (by decide) b1329.1, Int.le_trans b1329.2 (by decide)⟩ (fun c1342 => ?_) (fun c1342 => ?_))
                        · refine wp_of e22 c22_78 (rw_aload_n (pc' := 79) (v := .ref r1) rfl rfl rfl ?_)
                          refine wp_of e22 c22_79 (rw_iload_n (pc' := 80) (z := z1222) rfl rfl ?_)
                          refine wp_of e22 c22_80 (xp_I (pc' := 83) lf_1_41 w1326 g1 sh_27 (by decide) (by decide) ty_27_7 rfl rfl (by omega) (by omega) ⟨Int.le_trans (by decide) b1223.1, Int.le_trans b1223.2 (by decide)⟩ rfl (fun H1343 e1344 w1345 => ?_))
                          have f1346 := f1340.put' e1344 g1 rfl
                          have k1347 : H1343 r1 7 = z1222 := wq_u_s e1344
                          refine wp_of e22 c22_83 (rw_aload_n (pc' := 84) (v := .ref r1) rfl rfl rfl ?_)
                          refine wp_of e22 c22_84 (rw_iload_n (pc' := 85) (z := z1275) rfl rfl ?_)
                          refine wp_of e22 c22_85 (xp_I (pc' := 88) lf_1_127 w1345 g1 sh_27 (by decide) (by decide) ty_27_8 rfl rfl (Int.le_trans (by decide) b1276.1) (Int.le_trans b1276.2 (by decide)) ⟨Int.le_trans (by decide) b1276.1, Int.le_trans b1276.2 (by decide)⟩ rfl (fun H1348 e1349 w1350 => ?_))
                          have f1351 := f1346.put' e1349 g1 rfl
                          have k1352 : H1348 r1 8 = z1275 := wq_u_s e1349
                          refine wp_of e22 c22_88 (rw_aload_n (pc' := 89) (v := .ref r1) rfl rfl rfl ?_)
                          refine wp_of e22 c22_89 (rw_iload (pc' := 91) (z := z1328) rfl rfl ?_)
                          refine wp_of e22 c22_91 (xp_I (pc' := 94) lf_1_129 w1350 g1 sh_27 (by decide) (by decide) ty_27_9 rfl rfl (Int.le_trans (by decide) b1329.1) (Int.le_trans b1329.2 (by decide)) ⟨Int.le_trans (by decide) b1329.1, Int.le_trans b1329.2 (by decide)⟩ rfl (fun H1353 e1354 w1355 => ?_))
                          have f1356 := f1351.put' e1354 g1 rfl
                          have k1357 : H1353 r1 9 = z1328 := wq_u_s e1354
                          refine wp_of e22 c22_94 (rw_iconst (pc' := 95) rfl ?_)
                          have k1358 : H1353 r0 3 = H1322 r0 3 := ((wq_u_t e1354 g1 g0 rfl 3).trans ((wq_u_t e1349 g1 g0 rfl 3).trans (wq_u_t e1344 g1 g0 rfl 3)))
                          have k1359 : H1353 r1 7 = H1343 r1 7 := ((wq_u_j e1354 rfl).trans (wq_u_j e1349 rfl))
                          have k1360 : H1353 r1 8 = H1348 r1 8 := (wq_u_j e1354 rfl)
                          have k1361 : H1353 r1 10 = H r1 10 := ((wq_u_j e1354 rfl).trans ((wq_u_j e1349 rfl).trans ((wq_u_j e1344 rfl).trans ((f1327 r1 10 _ g1 rfl).trans ((f1301 r1 10 _ g1 rfl).trans ((f1274 r1 10 _ g1 rfl).trans ((f1248 r1 10 _ g1 rfl).trans ((f1221 r1 10 _ g1 rfl).trans (f1195 r1 10 _ g1 rfl)))))))))
                          have k1362 : H1353 r1 11 = H r1 11 := ((wq_u_j e1354 rfl).trans ((wq_u_j e1349 rfl).trans ((wq_u_j e1344 rfl).trans ((f1327 r1 11 _ g1 rfl).trans ((f1301 r1 11 _ g1 rfl).trans ((f1274 r1 11 _ g1 rfl).trans ((f1248 r1 11 _ g1 rfl).trans ((f1221 r1 11 _ g1 rfl).trans (f1195 r1 11 _ g1 rfl)))))))))
                          have k1363 : H1353 r1 12 = H r1 12 := ((wq_u_j e1354 rfl).trans ((wq_u_j e1349 rfl).trans ((wq_u_j e1344 rfl).trans ((f1327 r1 12 _ g1 rfl).trans ((f1301 r1 12 _ g1 rfl).trans ((f1274 r1 12 _ g1 rfl).trans ((f1248 r1 12 _ g1 rfl).trans ((f1221 r1 12 _ g1 rfl).trans (f1195 r1 12 _ g1 rfl)))))))))
                          have k1364 : H1353 r1 13 = H r1 13 := ((wq_u_j e1354 rfl).trans ((wq_u_j e1349 rfl).trans ((wq_u_j e1344 rfl).trans ((f1327 r1 13 _ g1 rfl).trans ((f1301 r1 13 _ g1 rfl).trans ((f1274 r1 13 _ g1 rfl).trans ((f1248 r1 13 _ g1 rfl).trans ((f1221 r1 13 _ g1 rfl).trans (f1195 r1 13 _ g1 rfl)))))))))
                          have k1365 : H1353 r1 14 = H r1 14 := ((wq_u_j e1354 rfl).trans ((wq_u_j e1349 rfl).trans ((wq_u_j e1344 rfl).trans ((f1327 r1 14 _ g1 rfl).trans ((f1301 r1 14 _ g1 rfl).trans ((f1274 r1 14 _ g1 rfl).trans ((f1248 r1 14 _ g1 rfl).trans ((f1221 r1 14 _ g1 rfl).trans (f1195 r1 14 _ g1 rfl)))))))))
                          have k1366 : H1353 r1 15 = H r1 15 := ((wq_u_j e1354 rfl).trans ((wq_u_j e1349 rfl).trans ((wq_u_j e1344 rfl).trans ((f1327 r1 15 _ g1 rfl).trans ((f1301 r1 15 _ g1 rfl).trans ((f1274 r1 15 _ g1 rfl).trans ((f1248 r1 15 _ g1 rfl).trans ((f1221 r1 15 _ g1 rfl).trans (f1195 r1 15 _ g1 rfl)))))))))
                          have k1367 : H1353 r1 16 = H r1 16 := ((wq_u_j e1354 rfl).trans ((wq_u_j e1349 rfl).trans ((wq_u_j e1344 rfl).trans ((f1327 r1 16 _ g1 rfl).trans ((f1301 r1 16 _ g1 rfl).trans ((f1274 r1 16 _ g1 rfl).trans ((f1248 r1 16 _ g1 rfl).trans ((f1221 r1 16 _ g1 rfl).trans (f1195 r1 16 _ g1 rfl)))))))))
                          have o1368 : (xlaw B n q) = (0, q, (xN B n ((xN B n ((xN B n ((xN B n ((xN B n ((xN B n q)))))))))))) := by
                            unfold xlaw
                            repeat first | rw [xs_0 (Int.le_antisymm (by omega -splitDisjunctions) (by omega -splitDisjunctions))] | rw [xs_1 (by omega -splitDisjunctions)] | rw [if_pos (Int.le_antisymm (by omega -splitDisjunctions) (by omega -splitDisjunctions))] | rw [if_pos (by omega -splitDisjunctions)] | rw [if_pos (And.intro (by omega -splitDisjunctions) (by omega -splitDisjunctions))] | rw [if_neg (by omega -splitDisjunctions)] | rw [xs_1 (by omega)] | rw [if_neg (by omega)] | rw [xs_0 (by omega)] | rw [if_pos (by omega)]
                            first | done | rfl | assumption | (exfalso; omega -splitDisjunctions) | (refine Prod.ext ?_ (Prod.ext ?_ ?_) <;> (try dsimp only) <;> omega) | (exfalso; omega)
                          have o1368a : ((xlaw B n q)).1 = 0 := by rw [o1368]
                          have o1368b : ((xlaw B n q)).2.1 = q := by rw [o1368]
                          have o1368c : ((xlaw B n q)).2.2 = (xN B n ((xN B n ((xN B n ((xN B n ((xN B n ((xN B n q))))))))))) := by rw [o1368]
                          have _l := @xdlaw_v B n q d
                          have h1369 : TC T H1353 tk B n (xN B n ((xN B n ((xN B n ((xN B n ((xN B n ((xN B n q))))))))))) := (TC_fr w1350 gtk ((wfr.rf (l := [(27, 9)])).put' e1354 g1 rfl) rfl (TC_fr w1345 gtk ((wfr.rf (l := [(27, 8)])).put' e1349 g1 rfl) rfl (TC_fr w1326 gtk ((wfr.rf (l := [(27, 7)])).put' e1344 g1 rfl) rfl a1335)))
                          have h1370 : CZ T H1353 r1 (d 0 3) := (CZ_fr w1350 g1 ((wfr.rf (l := [(27, 9)])).put' e1354 g1 rfl) rfl (CZ_fr w1345 g1 ((wfr.rf (l := [(27, 8)])).put' e1349 g1 rfl) rfl (CZ_fr w1326 g1 ((wfr.rf (l := [(27, 7)])).put' e1344 g1 rfl) rfl (CZ_fr w1300 g1 f1327 rfl (CZ_fr w1273 g1 f1301 rfl (CZ_fr w1247 g1 f1274 rfl (CZ_fr w1220 g1 f1248 rfl (CZ_fr w1194 g1 f1221 rfl (CZ_fr hW g1 f1195 rfl hCZ_r1)))))))))
                          exact wp_zreturn e22 c22_95 rfl (by omega) ⟨rfl, w1355, f1356, 1, rfl, ⟨by decide, by decide⟩, (Or.inl ⟨by omega, by omega, o1368, by omega, by omega, h1369, DC_cnt hW g1 hDC_r1 f1356 rfl (fun i h => xdlaw_r h) ⟨by omega, by omega, by omega, by omega, by omega⟩ ⟨by omega, by omega, by omega, by omega, by omega, by omega, by omega, by omega, by omega, by omega, by omega, by omega, by omega, by omega, by omega, by omega⟩, CZ_le h1370 (by omega)⟩)⟩
                        · exfalso
                          omega
                      · have f1371 := f1313.tr f1327 rfl
                        show wp _ _ 22 65 [(3, vI z1275), (2, vI z1222), (0, .ref r0), (1, .ref r1)] [vI z1328] _ H1322 _
                        refine wp_of e22 c22_65 (rw_goto (p1 := 69) (by decide) ?_)
                        refine wp_of e22 c22_69 (rw_istore (pc' := 71) (z := z1328) (L' := [(4, vI z1328), (3, vI z1275), (2, vI z1222), (0, .ref r0), (1, .ref r1)]) rfl rfl rfl ?_)
                        refine wp_of e22 c22_71 (rw_iload (pc' := 73) (z := z1328) rfl rfl ?_)
                        refine wp_of e22 c22_73 (rw_if_ge (p1 := 78) (p2 := 76) (by decide) rfl ⟨Int.le_trans (by decide) b1329.1, Int.le_trans b1329.2 (by decide)⟩ (fun c1372 => ?_) (fun c1372 => ?_))
                        · exfalso
                          omega
                        · refine wp_of e22 c22_76 (rw_iconst (pc' := 77) rfl ?_)
                          have k1373 : H1322 r1 7 = H r1 7 := ((f1327 r1 7 _ g1 rfl).trans ((f1301 r1 7 _ g1 rfl).trans ((f1274 r1 7 _ g1 rfl).trans ((f1248 r1 7 _ g1 rfl).trans ((f1221 r1 7 _ g1 rfl).trans (f1195 r1 7 _ g1 rfl))))))
                          have k1374 : H1322 r1 8 = H r1 8 := ((f1327 r1 8 _ g1 rfl).trans ((f1301 r1 8 _ g1 rfl).trans ((f1274 r1 8 _ g1 rfl).trans ((f1248 r1 8 _ g1 rfl).trans ((f1221 r1 8 _ g1 rfl).trans (f1195 r1 8 _ g1 rfl))))))
                          have k1375 : H1322 r1 9 = H r1 9 := ((f1327 r1 9 _ g1 rfl).trans ((f1301 r1 9 _ g1 rfl).trans ((f1274 r1 9 _ g1 rfl).trans ((f1248 r1 9 _ g1 rfl).trans ((f1221 r1 9 _ g1 rfl).trans (f1195 r1 9 _ g1 rfl))))))
                          have k1376 : H1322 r1 10 = H r1 10 := ((f1327 r1 10 _ g1 rfl).trans ((f1301 r1 10 _ g1 rfl).trans ((f1274 r1 10 _ g1 rfl).trans ((f1248 r1 10 _ g1 rfl).trans ((f1221 r1 10 _ g1 rfl).trans (f1195 r1 10 _ g1 rfl))))))
                          have k1377 : H1322 r1 11 = H r1 11 := ((f1327 r1 11 _ g1 rfl).trans ((f1301 r1 11 _ g1 rfl).trans ((f1274 r1 11 _ g1 rfl).trans ((f1248 r1 11 _ g1 rfl).trans ((f1221 r1 11 _ g1 rfl).trans (f1195 r1 11 _ g1 rfl))))))
                          have k1378 : H1322 r1 12 = H r1 12 := ((f1327 r1 12 _ g1 rfl).trans ((f1301 r1 12 _ g1 rfl).trans ((f1274 r1 12 _ g1 rfl).trans ((f1248 r1 12 _ g1 rfl).trans ((f1221 r1 12 _ g1 rfl).trans (f1195 r1 12 _ g1 rfl))))))
                          have k1379 : H1322 r1 13 = H r1 13 := ((f1327 r1 13 _ g1 rfl).trans ((f1301 r1 13 _ g1 rfl).trans ((f1274 r1 13 _ g1 rfl).trans ((f1248 r1 13 _ g1 rfl).trans ((f1221 r1 13 _ g1 rfl).trans (f1195 r1 13 _ g1 rfl))))))
                          have k1380 : H1322 r1 14 = H r1 14 := ((f1327 r1 14 _ g1 rfl).trans ((f1301 r1 14 _ g1 rfl).trans ((f1274 r1 14 _ g1 rfl).trans ((f1248 r1 14 _ g1 rfl).trans ((f1221 r1 14 _ g1 rfl).trans (f1195 r1 14 _ g1 rfl))))))
                          have k1381 : H1322 r1 15 = H r1 15 := ((f1327 r1 15 _ g1 rfl).trans ((f1301 r1 15 _ g1 rfl).trans ((f1274 r1 15 _ g1 rfl).trans ((f1248 r1 15 _ g1 rfl).trans ((f1221 r1 15 _ g1 rfl).trans (f1195 r1 15 _ g1 rfl))))))
                          have k1382 : H1322 r1 16 = H r1 16 := ((f1327 r1 16 _ g1 rfl).trans ((f1301 r1 16 _ g1 rfl).trans ((f1274 r1 16 _ g1 rfl).trans ((f1248 r1 16 _ g1 rfl).trans ((f1221 r1 16 _ g1 rfl).trans (f1195 r1 16 _ g1 rfl))))))
                          have o1383 : (xlaw B n q) = (xh B n ((xN B n ((xN B n ((xN B n ((xN B n ((xN B n q)))))))))) 0 3, ((xN B n ((xN B n ((xN B n ((xN B n ((xN B n q)))))))))), ((xN B n ((xN B n ((xN B n ((xN B n ((xN B n q))))))))))) := by
                            unfold xlaw
                            repeat first | rw [xs_0 (Int.le_antisymm (by omega -splitDisjunctions) (by omega -splitDisjunctions))] | rw [xs_1 (by omega -splitDisjunctions)] | rw [if_pos (Int.le_antisymm (by omega -splitDisjunctions) (by omega -splitDisjunctions))] | rw [if_pos (by omega -splitDisjunctions)] | rw [if_pos (And.intro (by omega -splitDisjunctions) (by omega -splitDisjunctions))] | rw [if_neg (by omega -splitDisjunctions)] | rw [xs_1 (by omega)] | rw [if_neg (by omega)] | rw [xs_0 (by omega)] | rw [if_pos (by omega)]
                            first | done | rfl | assumption | (exfalso; omega -splitDisjunctions) | (refine Prod.ext ?_ (Prod.ext ?_ ?_) <;> (try dsimp only) <;> omega) | (exfalso; omega)
                          have o1383a : ((xlaw B n q)).1 = xh B n ((xN B n ((xN B n ((xN B n ((xN B n ((xN B n q)))))))))) 0 3 := by rw [o1383]
                          have o1383b : ((xlaw B n q)).2.1 = ((xN B n ((xN B n ((xN B n ((xN B n ((xN B n q)))))))))) := by rw [o1383]
                          have o1383c : ((xlaw B n q)).2.2 = ((xN B n ((xN B n ((xN B n ((xN B n ((xN B n q)))))))))) := by rw [o1383]
                          have _l := @xdlaw_v B n q d
                          exact wp_zreturn e22 c22_77 rfl (by omega) ⟨rfl, w1326, f1371, 0, rfl, ⟨by decide, by decide⟩, (Or.inr ⟨by omega, by omega, by omega, by omega, by omega⟩)⟩
                  · have f1384 := f1287.tr f1301 rfl
                    show wp _ _ 22 56 [(3, vI z1275), (2, vI z1222), (0, .ref r0), (1, .ref r1)] [vI z1302] _ H1296 _
                    refine wp_of e22 c22_56 (rw_if_eq (p1 := 68) (p2 := 59) (by decide) rfl ⟨Int.le_trans (by decide) b1303.1, Int.le_trans b1303.2 (by decide)⟩ (fun c1385 => ?_) (fun c1385 => ?_))
                    · refine wp_of e22 c22_68 (rw_iconst (pc' := 69) rfl ?_)
                      refine wp_of e22 c22_69 (rw_istore (pc' := 71) (z := -1) (L' := [(4, vI (-1)), (3, vI z1275), (2, vI z1222), (0, .ref r0), (1, .ref r1)]) rfl rfl rfl ?_)
                      refine wp_of e22 c22_71 (rw_iload (pc' := 73) (z := -1) rfl rfl ?_)
                      refine wp_of e22 c22_73 (rw_if_ge (p1 := 78) (p2 := 76) (by decide) rfl ⟨by decide, by decide⟩ (fun c1386 => ?_) (fun c1386 => ?_))
                      · exfalso
                        omega
                      · refine wp_of e22 c22_76 (rw_iconst (pc' := 77) rfl ?_)
                        have k1387 : H1296 r1 7 = H r1 7 := ((f1301 r1 7 _ g1 rfl).trans ((f1274 r1 7 _ g1 rfl).trans ((f1248 r1 7 _ g1 rfl).trans ((f1221 r1 7 _ g1 rfl).trans (f1195 r1 7 _ g1 rfl)))))
                        have k1388 : H1296 r1 8 = H r1 8 := ((f1301 r1 8 _ g1 rfl).trans ((f1274 r1 8 _ g1 rfl).trans ((f1248 r1 8 _ g1 rfl).trans ((f1221 r1 8 _ g1 rfl).trans (f1195 r1 8 _ g1 rfl)))))
                        have k1389 : H1296 r1 9 = H r1 9 := ((f1301 r1 9 _ g1 rfl).trans ((f1274 r1 9 _ g1 rfl).trans ((f1248 r1 9 _ g1 rfl).trans ((f1221 r1 9 _ g1 rfl).trans (f1195 r1 9 _ g1 rfl)))))
                        have k1390 : H1296 r1 10 = H r1 10 := ((f1301 r1 10 _ g1 rfl).trans ((f1274 r1 10 _ g1 rfl).trans ((f1248 r1 10 _ g1 rfl).trans ((f1221 r1 10 _ g1 rfl).trans (f1195 r1 10 _ g1 rfl)))))
                        have k1391 : H1296 r1 11 = H r1 11 := ((f1301 r1 11 _ g1 rfl).trans ((f1274 r1 11 _ g1 rfl).trans ((f1248 r1 11 _ g1 rfl).trans ((f1221 r1 11 _ g1 rfl).trans (f1195 r1 11 _ g1 rfl)))))
                        have k1392 : H1296 r1 12 = H r1 12 := ((f1301 r1 12 _ g1 rfl).trans ((f1274 r1 12 _ g1 rfl).trans ((f1248 r1 12 _ g1 rfl).trans ((f1221 r1 12 _ g1 rfl).trans (f1195 r1 12 _ g1 rfl)))))
                        have k1393 : H1296 r1 13 = H r1 13 := ((f1301 r1 13 _ g1 rfl).trans ((f1274 r1 13 _ g1 rfl).trans ((f1248 r1 13 _ g1 rfl).trans ((f1221 r1 13 _ g1 rfl).trans (f1195 r1 13 _ g1 rfl)))))
                        have k1394 : H1296 r1 14 = H r1 14 := ((f1301 r1 14 _ g1 rfl).trans ((f1274 r1 14 _ g1 rfl).trans ((f1248 r1 14 _ g1 rfl).trans ((f1221 r1 14 _ g1 rfl).trans (f1195 r1 14 _ g1 rfl)))))
                        have k1395 : H1296 r1 15 = H r1 15 := ((f1301 r1 15 _ g1 rfl).trans ((f1274 r1 15 _ g1 rfl).trans ((f1248 r1 15 _ g1 rfl).trans ((f1221 r1 15 _ g1 rfl).trans (f1195 r1 15 _ g1 rfl)))))
                        have k1396 : H1296 r1 16 = H r1 16 := ((f1301 r1 16 _ g1 rfl).trans ((f1274 r1 16 _ g1 rfl).trans ((f1248 r1 16 _ g1 rfl).trans ((f1221 r1 16 _ g1 rfl).trans (f1195 r1 16 _ g1 rfl)))))
                        have o1397 : (xlaw B n q) = (xw B n ((xN B n ((xN B n ((xN B n ((xN B n q)))))))) 15558, ((xN B n ((xN B n ((xN B n ((xN B n q)))))))), ((xN B n ((xN B n ((xN B n ((xN B n q))))))))) := by
                          unfold xlaw
                          repeat first | rw [xs_0 (Int.le_antisymm (by omega -splitDisjunctions) (by omega -splitDisjunctions))] | rw [xs_1 (by omega -splitDisjunctions)] | rw [if_pos (Int.le_antisymm (by omega -splitDisjunctions) (by omega -splitDisjunctions))] | rw [if_pos (by omega -splitDisjunctions)] | rw [if_pos (And.intro (by omega -splitDisjunctions) (by omega -splitDisjunctions))] | rw [if_neg (by omega -splitDisjunctions)] | rw [xs_1 (by omega)] | rw [if_neg (by omega)] | rw [xs_0 (by omega)] | rw [if_pos (by omega)]
                          first | done | rfl | assumption | (exfalso; omega -splitDisjunctions) | (refine Prod.ext ?_ (Prod.ext ?_ ?_) <;> (try dsimp only) <;> omega) | (exfalso; omega)
                        have o1397a : ((xlaw B n q)).1 = xw B n ((xN B n ((xN B n ((xN B n ((xN B n q)))))))) 15558 := by rw [o1397]
                        have o1397b : ((xlaw B n q)).2.1 = ((xN B n ((xN B n ((xN B n ((xN B n q)))))))) := by rw [o1397]
                        have o1397c : ((xlaw B n q)).2.2 = ((xN B n ((xN B n ((xN B n ((xN B n q)))))))) := by rw [o1397]
                        have _l := @xdlaw_v B n q d
                        exact wp_zreturn e22 c22_77 rfl (by omega) ⟨rfl, w1300, f1384, 0, rfl, ⟨by decide, by decide⟩, (Or.inr ⟨by omega, by omega, by omega, by omega, by omega⟩)⟩
                    · exfalso
                      omega
              · have f1398 := f1260.tr f1274 rfl
                show wp _ _ 22 41 [(2, vI z1222), (0, .ref r0), (1, .ref r1)] [vI z1275] _ H1269 _
                refine wp_of e22 c22_41 (rw_goto (p1 := 45) (by decide) ?_)
                refine wp_of e22 c22_45 (rw_istore_n (pc' := 46) (z := z1275) (L' := [(3, vI z1275), (2, vI z1222), (0, .ref r0), (1, .ref r1)]) rfl rfl rfl ?_)
                refine wp_of e22 c22_46 (rw_iload_n (pc' := 47) (z := z1275) rfl rfl ?_)
                refine wp_of e22 c22_47 (rw_if_lt (p1 := 68) (p2 := 50) (by decide) rfl ⟨Int.le_trans (by decide) b1276.1, Int.le_trans b1276.2 (by decide)⟩ (fun c1399 => ?_) (fun c1399 => ?_))
                · refine wp_of e22 c22_68 (rw_iconst (pc' := 69) rfl ?_)
                  refine wp_of e22 c22_69 (rw_istore (pc' := 71) (z := -1) (L' := [(4, vI (-1)), (3, vI z1275), (2, vI z1222), (0, .ref r0), (1, .ref r1)]) rfl rfl rfl ?_)
                  refine wp_of e22 c22_71 (rw_iload (pc' := 73) (z := -1) rfl rfl ?_)
                  refine wp_of e22 c22_73 (rw_if_ge (p1 := 78) (p2 := 76) (by decide) rfl ⟨by decide, by decide⟩ (fun c1400 => ?_) (fun c1400 => ?_))
                  · exfalso
                    omega
                  · refine wp_of e22 c22_76 (rw_iconst (pc' := 77) rfl ?_)
                    have k1401 : H1269 r1 7 = H r1 7 := ((f1274 r1 7 _ g1 rfl).trans ((f1248 r1 7 _ g1 rfl).trans ((f1221 r1 7 _ g1 rfl).trans (f1195 r1 7 _ g1 rfl))))
                    have k1402 : H1269 r1 8 = H r1 8 := ((f1274 r1 8 _ g1 rfl).trans ((f1248 r1 8 _ g1 rfl).trans ((f1221 r1 8 _ g1 rfl).trans (f1195 r1 8 _ g1 rfl))))
                    have k1403 : H1269 r1 9 = H r1 9 := ((f1274 r1 9 _ g1 rfl).trans ((f1248 r1 9 _ g1 rfl).trans ((f1221 r1 9 _ g1 rfl).trans (f1195 r1 9 _ g1 rfl))))
                    have k1404 : H1269 r1 10 = H r1 10 := ((f1274 r1 10 _ g1 rfl).trans ((f1248 r1 10 _ g1 rfl).trans ((f1221 r1 10 _ g1 rfl).trans (f1195 r1 10 _ g1 rfl))))
                    have k1405 : H1269 r1 11 = H r1 11 := ((f1274 r1 11 _ g1 rfl).trans ((f1248 r1 11 _ g1 rfl).trans ((f1221 r1 11 _ g1 rfl).trans (f1195 r1 11 _ g1 rfl))))
                    have k1406 : H1269 r1 12 = H r1 12 := ((f1274 r1 12 _ g1 rfl).trans ((f1248 r1 12 _ g1 rfl).trans ((f1221 r1 12 _ g1 rfl).trans (f1195 r1 12 _ g1 rfl))))
                    have k1407 : H1269 r1 13 = H r1 13 := ((f1274 r1 13 _ g1 rfl).trans ((f1248 r1 13 _ g1 rfl).trans ((f1221 r1 13 _ g1 rfl).trans (f1195 r1 13 _ g1 rfl))))
                    have k1408 : H1269 r1 14 = H r1 14 := ((f1274 r1 14 _ g1 rfl).trans ((f1248 r1 14 _ g1 rfl).trans ((f1221 r1 14 _ g1 rfl).trans (f1195 r1 14 _ g1 rfl))))
                    have k1409 : H1269 r1 15 = H r1 15 := ((f1274 r1 15 _ g1 rfl).trans ((f1248 r1 15 _ g1 rfl).trans ((f1221 r1 15 _ g1 rfl).trans (f1195 r1 15 _ g1 rfl))))
                    have k1410 : H1269 r1 16 = H r1 16 := ((f1274 r1 16 _ g1 rfl).trans ((f1248 r1 16 _ g1 rfl).trans ((f1221 r1 16 _ g1 rfl).trans (f1195 r1 16 _ g1 rfl))))
                    have o1411 : (xlaw B n q) = (xh B n ((xN B n ((xN B n ((xN B n q)))))) 0 9, ((xN B n ((xN B n ((xN B n q)))))), ((xN B n ((xN B n ((xN B n q))))))) := by
                      unfold xlaw
                      repeat first | rw [xs_0 (Int.le_antisymm (by omega -splitDisjunctions) (by omega -splitDisjunctions))] | rw [xs_1 (by omega -splitDisjunctions)] | rw [if_pos (Int.le_antisymm (by omega -splitDisjunctions) (by omega -splitDisjunctions))] | rw [if_pos (by omega -splitDisjunctions)] | rw [if_pos (And.intro (by omega -splitDisjunctions) (by omega -splitDisjunctions))] | rw [if_neg (by omega -splitDisjunctions)] | rw [xs_1 (by omega)] | rw [if_neg (by omega)] | rw [xs_0 (by omega)] | rw [if_pos (by omega)]
                      first | done | rfl | assumption | (exfalso; omega -splitDisjunctions) | (refine Prod.ext ?_ (Prod.ext ?_ ?_) <;> (try dsimp only) <;> omega) | (exfalso; omega)
                    have o1411a : ((xlaw B n q)).1 = xh B n ((xN B n ((xN B n ((xN B n q)))))) 0 9 := by rw [o1411]
                    have o1411b : ((xlaw B n q)).2.1 = ((xN B n ((xN B n ((xN B n q)))))) := by rw [o1411]
                    have o1411c : ((xlaw B n q)).2.2 = ((xN B n ((xN B n ((xN B n q)))))) := by rw [o1411]
                    have _l := @xdlaw_v B n q d
                    exact wp_zreturn e22 c22_77 rfl (by omega) ⟨rfl, w1273, f1398, 0, rfl, ⟨by decide, by decide⟩, (Or.inr ⟨by omega, by omega, by omega, by omega, by omega⟩)⟩
                · exfalso
                  omega
          · have f1412 := f1234.tr f1248 rfl
            show wp _ _ 22 31 [(2, vI z1222), (0, .ref r0), (1, .ref r1)] [vI z1249] _ H1243 _
            refine wp_of e22 c22_31 (rw_if_eq (p1 := 44) (p2 := 34) (by decide) rfl ⟨Int.le_trans (by decide) b1250.1, Int.le_trans b1250.2 (by decide)⟩ (fun c1413 => ?_) (fun c1413 => ?_))
            · refine wp_of e22 c22_44 (rw_iconst (pc' := 45) rfl ?_)
              refine wp_of e22 c22_45 (rw_istore_n (pc' := 46) (z := -1) (L' := [(3, vI (-1)), (2, vI z1222), (0, .ref r0), (1, .ref r1)]) rfl rfl rfl ?_)
              refine wp_of e22 c22_46 (rw_iload_n (pc' := 47) (z := -1) rfl rfl ?_)
              refine wp_of e22 c22_47 (rw_if_lt (p1 := 68) (p2 := 50) (by decide) rfl ⟨by decide, by decide⟩ (fun c1414 => ?_) (fun c1414 => ?_))
              · refine wp_of e22 c22_68 (rw_iconst (pc' := 69) rfl ?_)
                refine wp_of e22 c22_69 (rw_istore (pc' := 71) (z := -1) (L' := [(4, vI (-1)), (3, vI (-1)), (2, vI z1222), (0, .ref r0), (1, .ref r1)]) rfl rfl rfl ?_)
                refine wp_of e22 c22_71 (rw_iload (pc' := 73) (z := -1) rfl rfl ?_)
                refine wp_of e22 c22_73 (rw_if_ge (p1 := 78) (p2 := 76) (by decide) rfl ⟨by decide, by decide⟩ (fun c1415 => ?_) (fun c1415 => ?_))
                · exfalso
                  omega
                · refine wp_of e22 c22_76 (rw_iconst (pc' := 77) rfl ?_)
                  have k1416 : H1243 r1 7 = H r1 7 := ((f1248 r1 7 _ g1 rfl).trans ((f1221 r1 7 _ g1 rfl).trans (f1195 r1 7 _ g1 rfl)))
                  have k1417 : H1243 r1 8 = H r1 8 := ((f1248 r1 8 _ g1 rfl).trans ((f1221 r1 8 _ g1 rfl).trans (f1195 r1 8 _ g1 rfl)))
                  have k1418 : H1243 r1 9 = H r1 9 := ((f1248 r1 9 _ g1 rfl).trans ((f1221 r1 9 _ g1 rfl).trans (f1195 r1 9 _ g1 rfl)))
                  have k1419 : H1243 r1 10 = H r1 10 := ((f1248 r1 10 _ g1 rfl).trans ((f1221 r1 10 _ g1 rfl).trans (f1195 r1 10 _ g1 rfl)))
                  have k1420 : H1243 r1 11 = H r1 11 := ((f1248 r1 11 _ g1 rfl).trans ((f1221 r1 11 _ g1 rfl).trans (f1195 r1 11 _ g1 rfl)))
                  have k1421 : H1243 r1 12 = H r1 12 := ((f1248 r1 12 _ g1 rfl).trans ((f1221 r1 12 _ g1 rfl).trans (f1195 r1 12 _ g1 rfl)))
                  have k1422 : H1243 r1 13 = H r1 13 := ((f1248 r1 13 _ g1 rfl).trans ((f1221 r1 13 _ g1 rfl).trans (f1195 r1 13 _ g1 rfl)))
                  have k1423 : H1243 r1 14 = H r1 14 := ((f1248 r1 14 _ g1 rfl).trans ((f1221 r1 14 _ g1 rfl).trans (f1195 r1 14 _ g1 rfl)))
                  have k1424 : H1243 r1 15 = H r1 15 := ((f1248 r1 15 _ g1 rfl).trans ((f1221 r1 15 _ g1 rfl).trans (f1195 r1 15 _ g1 rfl)))
                  have k1425 : H1243 r1 16 = H r1 16 := ((f1248 r1 16 _ g1 rfl).trans ((f1221 r1 16 _ g1 rfl).trans (f1195 r1 16 _ g1 rfl)))
                  have o1426 : (xlaw B n q) = (xw B n ((xN B n ((xN B n q)))) 72983685, ((xN B n ((xN B n q)))), ((xN B n ((xN B n q))))) := by
                    unfold xlaw
                    repeat first | rw [xs_0 (Int.le_antisymm (by omega -splitDisjunctions) (by omega -splitDisjunctions))] | rw [xs_1 (by omega -splitDisjunctions)] | rw [if_pos (Int.le_antisymm (by omega -splitDisjunctions) (by omega -splitDisjunctions))] | rw [if_pos (by omega -splitDisjunctions)] | rw [if_pos (And.intro (by omega -splitDisjunctions) (by omega -splitDisjunctions))] | rw [if_neg (by omega -splitDisjunctions)] | rw [xs_1 (by omega)] | rw [if_neg (by omega)] | rw [xs_0 (by omega)] | rw [if_pos (by omega)]
                    first | done | rfl | assumption | (exfalso; omega -splitDisjunctions) | (refine Prod.ext ?_ (Prod.ext ?_ ?_) <;> (try dsimp only) <;> omega) | (exfalso; omega)
                  have o1426a : ((xlaw B n q)).1 = xw B n ((xN B n ((xN B n q)))) 72983685 := by rw [o1426]
                  have o1426b : ((xlaw B n q)).2.1 = ((xN B n ((xN B n q)))) := by rw [o1426]
                  have o1426c : ((xlaw B n q)).2.2 = ((xN B n ((xN B n q)))) := by rw [o1426]
                  have _l := @xdlaw_v B n q d
                  exact wp_zreturn e22 c22_77 rfl (by omega) ⟨rfl, w1247, f1412, 0, rfl, ⟨by decide, by decide⟩, (Or.inr ⟨by omega, by omega, by omega, by omega, by omega⟩)⟩
              · exfalso
                omega
            · exfalso
              omega
      · have f1427 := f1207.tr f1221 rfl
        show wp _ _ 22 16 [(0, .ref r0), (1, .ref r1)] [vI z1222] _ H1216 _
        refine wp_of e22 c22_16 (rw_goto (p1 := 20) (by decide) ?_)
        refine wp_of e22 c22_20 (rw_istore_n (pc' := 21) (z := z1222) (L' := [(2, vI z1222), (0, .ref r0), (1, .ref r1)]) rfl rfl rfl ?_)
        refine wp_of e22 c22_21 (rw_iload_n (pc' := 22) (z := z1222) rfl rfl ?_)
        refine wp_of e22 c22_22 (rw_if_lt (p1 := 44) (p2 := 25) (by decide) rfl ⟨Int.le_trans (by decide) b1223.1, Int.le_trans b1223.2 (by decide)⟩ (fun c1428 => ?_) (fun c1428 => ?_))
        · refine wp_of e22 c22_44 (rw_iconst (pc' := 45) rfl ?_)
          refine wp_of e22 c22_45 (rw_istore_n (pc' := 46) (z := -1) (L' := [(3, vI (-1)), (2, vI z1222), (0, .ref r0), (1, .ref r1)]) rfl rfl rfl ?_)
          refine wp_of e22 c22_46 (rw_iload_n (pc' := 47) (z := -1) rfl rfl ?_)
          refine wp_of e22 c22_47 (rw_if_lt (p1 := 68) (p2 := 50) (by decide) rfl ⟨by decide, by decide⟩ (fun c1429 => ?_) (fun c1429 => ?_))
          · refine wp_of e22 c22_68 (rw_iconst (pc' := 69) rfl ?_)
            refine wp_of e22 c22_69 (rw_istore (pc' := 71) (z := -1) (L' := [(4, vI (-1)), (3, vI (-1)), (2, vI z1222), (0, .ref r0), (1, .ref r1)]) rfl rfl rfl ?_)
            refine wp_of e22 c22_71 (rw_iload (pc' := 73) (z := -1) rfl rfl ?_)
            refine wp_of e22 c22_73 (rw_if_ge (p1 := 78) (p2 := 76) (by decide) rfl ⟨by decide, by decide⟩ (fun c1430 => ?_) (fun c1430 => ?_))
            · exfalso
              omega
            · refine wp_of e22 c22_76 (rw_iconst (pc' := 77) rfl ?_)
              have k1431 : H1216 r1 7 = H r1 7 := ((f1221 r1 7 _ g1 rfl).trans (f1195 r1 7 _ g1 rfl))
              have k1432 : H1216 r1 8 = H r1 8 := ((f1221 r1 8 _ g1 rfl).trans (f1195 r1 8 _ g1 rfl))
              have k1433 : H1216 r1 9 = H r1 9 := ((f1221 r1 9 _ g1 rfl).trans (f1195 r1 9 _ g1 rfl))
              have k1434 : H1216 r1 10 = H r1 10 := ((f1221 r1 10 _ g1 rfl).trans (f1195 r1 10 _ g1 rfl))
              have k1435 : H1216 r1 11 = H r1 11 := ((f1221 r1 11 _ g1 rfl).trans (f1195 r1 11 _ g1 rfl))
              have k1436 : H1216 r1 12 = H r1 12 := ((f1221 r1 12 _ g1 rfl).trans (f1195 r1 12 _ g1 rfl))
              have k1437 : H1216 r1 13 = H r1 13 := ((f1221 r1 13 _ g1 rfl).trans (f1195 r1 13 _ g1 rfl))
              have k1438 : H1216 r1 14 = H r1 14 := ((f1221 r1 14 _ g1 rfl).trans (f1195 r1 14 _ g1 rfl))
              have k1439 : H1216 r1 15 = H r1 15 := ((f1221 r1 15 _ g1 rfl).trans (f1195 r1 15 _ g1 rfl))
              have k1440 : H1216 r1 16 = H r1 16 := ((f1221 r1 16 _ g1 rfl).trans (f1195 r1 16 _ g1 rfl))
              have o1441 : (xlaw B n q) = (xh B n ((xN B n q)) 1 24, ((xN B n q)), ((xN B n q))) := by
                unfold xlaw
                repeat first | rw [xs_0 (Int.le_antisymm (by omega -splitDisjunctions) (by omega -splitDisjunctions))] | rw [xs_1 (by omega -splitDisjunctions)] | rw [if_pos (Int.le_antisymm (by omega -splitDisjunctions) (by omega -splitDisjunctions))] | rw [if_pos (by omega -splitDisjunctions)] | rw [if_pos (And.intro (by omega -splitDisjunctions) (by omega -splitDisjunctions))] | rw [if_neg (by omega -splitDisjunctions)] | rw [xs_1 (by omega)] | rw [if_neg (by omega)] | rw [xs_0 (by omega)] | rw [if_pos (by omega)]
                first | done | rfl | assumption | (exfalso; omega -splitDisjunctions) | (refine Prod.ext ?_ (Prod.ext ?_ ?_) <;> (try dsimp only) <;> omega) | (exfalso; omega)
              have o1441a : ((xlaw B n q)).1 = xh B n ((xN B n q)) 1 24 := by rw [o1441]
              have o1441b : ((xlaw B n q)).2.1 = ((xN B n q)) := by rw [o1441]
              have o1441c : ((xlaw B n q)).2.2 = ((xN B n q)) := by rw [o1441]
              have _l := @xdlaw_v B n q d
              exact wp_zreturn e22 c22_77 rfl (by omega) ⟨rfl, w1220, f1427, 0, rfl, ⟨by decide, by decide⟩, (Or.inr ⟨by omega, by omega, by omega, by omega, by omega⟩)⟩
          · exfalso
            omega
        · exfalso
          omega
  · have f1442 := f0.tr f1195 rfl
    show wp _ _ 22 6 [(0, .ref r0), (1, .ref r1)] [vI z1196] _ H1190 _
    refine wp_of e22 c22_6 (rw_if_eq (p1 := 19) (p2 := 9) (by decide) rfl ⟨Int.le_trans (by decide) b1197.1, Int.le_trans b1197.2 (by decide)⟩ (fun c1443 => ?_) (fun c1443 => ?_))
    · refine wp_of e22 c22_19 (rw_iconst (pc' := 20) rfl ?_)
      refine wp_of e22 c22_20 (rw_istore_n (pc' := 21) (z := -1) (L' := [(2, vI (-1)), (0, .ref r0), (1, .ref r1)]) rfl rfl rfl ?_)
      refine wp_of e22 c22_21 (rw_iload_n (pc' := 22) (z := -1) rfl rfl ?_)
      refine wp_of e22 c22_22 (rw_if_lt (p1 := 44) (p2 := 25) (by decide) rfl ⟨by decide, by decide⟩ (fun c1444 => ?_) (fun c1444 => ?_))
      · refine wp_of e22 c22_44 (rw_iconst (pc' := 45) rfl ?_)
        refine wp_of e22 c22_45 (rw_istore_n (pc' := 46) (z := -1) (L' := [(3, vI (-1)), (2, vI (-1)), (0, .ref r0), (1, .ref r1)]) rfl rfl rfl ?_)
        refine wp_of e22 c22_46 (rw_iload_n (pc' := 47) (z := -1) rfl rfl ?_)
        refine wp_of e22 c22_47 (rw_if_lt (p1 := 68) (p2 := 50) (by decide) rfl ⟨by decide, by decide⟩ (fun c1445 => ?_) (fun c1445 => ?_))
        · refine wp_of e22 c22_68 (rw_iconst (pc' := 69) rfl ?_)
          refine wp_of e22 c22_69 (rw_istore (pc' := 71) (z := -1) (L' := [(4, vI (-1)), (3, vI (-1)), (2, vI (-1)), (0, .ref r0), (1, .ref r1)]) rfl rfl rfl ?_)
          refine wp_of e22 c22_71 (rw_iload (pc' := 73) (z := -1) rfl rfl ?_)
          refine wp_of e22 c22_73 (rw_if_ge (p1 := 78) (p2 := 76) (by decide) rfl ⟨by decide, by decide⟩ (fun c1446 => ?_) (fun c1446 => ?_))
          · exfalso
            omega
          · refine wp_of e22 c22_76 (rw_iconst (pc' := 77) rfl ?_)
            have k1447 : H1190 r1 7 = H r1 7 := (f1195 r1 7 _ g1 rfl)
            have k1448 : H1190 r1 8 = H r1 8 := (f1195 r1 8 _ g1 rfl)
            have k1449 : H1190 r1 9 = H r1 9 := (f1195 r1 9 _ g1 rfl)
            have k1450 : H1190 r1 10 = H r1 10 := (f1195 r1 10 _ g1 rfl)
            have k1451 : H1190 r1 11 = H r1 11 := (f1195 r1 11 _ g1 rfl)
            have k1452 : H1190 r1 12 = H r1 12 := (f1195 r1 12 _ g1 rfl)
            have k1453 : H1190 r1 13 = H r1 13 := (f1195 r1 13 _ g1 rfl)
            have k1454 : H1190 r1 14 = H r1 14 := (f1195 r1 14 _ g1 rfl)
            have k1455 : H1190 r1 15 = H r1 15 := (f1195 r1 15 _ g1 rfl)
            have k1456 : H1190 r1 16 = H r1 16 := (f1195 r1 16 _ g1 rfl)
            have o1457 : (xlaw B n q) = (xw B n q 8902227, q, q) := by
              unfold xlaw
              repeat first | rw [xs_0 (Int.le_antisymm (by omega -splitDisjunctions) (by omega -splitDisjunctions))] | rw [xs_1 (by omega -splitDisjunctions)] | rw [if_pos (Int.le_antisymm (by omega -splitDisjunctions) (by omega -splitDisjunctions))] | rw [if_pos (by omega -splitDisjunctions)] | rw [if_pos (And.intro (by omega -splitDisjunctions) (by omega -splitDisjunctions))] | rw [if_neg (by omega -splitDisjunctions)] | rw [xs_1 (by omega)] | rw [if_neg (by omega)] | rw [xs_0 (by omega)] | rw [if_pos (by omega)]
              first | done | rfl | assumption | (exfalso; omega -splitDisjunctions) | (refine Prod.ext ?_ (Prod.ext ?_ ?_) <;> (try dsimp only) <;> omega) | (exfalso; omega)
            have o1457a : ((xlaw B n q)).1 = xw B n q 8902227 := by rw [o1457]
            have o1457b : ((xlaw B n q)).2.1 = q := by rw [o1457]
            have o1457c : ((xlaw B n q)).2.2 = q := by rw [o1457]
            have _l := @xdlaw_v B n q d
            exact wp_zreturn e22 c22_77 rfl (by omega) ⟨rfl, w1194, f1442, 0, rfl, ⟨by decide, by decide⟩, (Or.inr ⟨by omega, by omega, by omega, by omega, by omega⟩)⟩
        · exfalso
          omega
      · exfalso
        omega
    · exfalso
      omega
/-! StrikeAwake$Reader.readsSexton(LStrikeAwake$Parish;)Z  -/
abbrev uq_32 (r0 : Nat) (r1 : Nat) (tk : Nat) (rb : Nat) (B : Nat → Int) (n : Int) (q : Int) (d : xD) (T : wq_T) (H : wq_H) : Option Value → wq_T → wq_H → Prop := fun r T' H' => T = T' ∧ WT T H' ∧ wfr [(27, 15), (3, 3), (3, 4), (4, 2), (4, 3), (4, 4), (4, 5), (4, 6)] T H H' ∧ ∃ z : Int, some (vI z) = r ∧ (0 ≤ z ∧ z ≤ 1) ∧ (((z = 1) ∧ ((xsex B n q d).1 = 0) ∧ (xsex B n q d = (0, q, (xN B n q))) ∧ (q ≤ (xN B n q)) ∧ (H' r0 3 = H r0 3) ∧ TC T H' tk B n (xN B n q) ∧ DC T H' r1 (xdsex B n q d) ∧ CZ T H' r1 ((xdsex B n q d) 0 3)) ∨ ((z = 0) ∧ ((xsex B n q d).1 ≠ 0) ∧ ((xsex B n q d).2.2 = (xsex B n q d).2.1) ∧ (H' r0 3 = (xsex B n q d).1) ∧ (H' r0 4 = (xsex B n q d).2.1)))
set_option maxHeartbeats 4000000 in
theorem u_32 {kt : Nat → Option mc_E} {T : wq_T} {H : wq_H} {r0 : Nat} {r1 : Nat} {tk : Nat} {rb : Nat} {B : Nat → Int} {n : Int} {q : Int} {d : xD} (hW : WT T H) (g0 : T.2.2.2 r0 = some 3) (g1 : T.2.2.2 r1 = some 27) (qtk : H r0 0 = (tk : Int)) (gtk : T.2.2.2 tk = some 4) (qrb : H tk 0 = (rb : Int)) (grb : T.2.2.2 rb = some 2) (hTC_tk : TC T H tk B n q) (hDC_r1 : DC T H r1 d) (hCZ_r1 : CZ T H r1 (d 0 3)) : wpc kt 5 32 [.ref r0, .ref r1] T H (uq_32 r0 r1 tk rb B n q d T H) := by
  refine wp_enter e32 (Nat.le_of_ble_eq_true rfl) rfl ?_
  have f0 : wfr [(27, 15), (3, 3), (3, 4), (4, 2), (4, 3), (4, 4), (4, 5), (4, 6)] T H H := wfr.rf
  show wp _ _ 32 0 [(0, .ref r0), (1, .ref r1)] [] _ H _
  have u1047 := TC_k hTC_tk
  have u1048 := DC_k hDC_r1
  refine wp_of e32 c32_0 (rw_aload_n (pc' := 1) (v := .ref r0) rfl rfl rfl ?_)
  refine wp_of e32 c32_1 (rw_aload_n (pc' := 2) (v := .ref r1) rfl rfl rfl ?_)
  refine wp_of e32 c32_2 (xc_V (pc' := 5) (r := r0) (as := [.ref r1]) (st := []) (lm_1_207) rfl rfl (Nat.le_of_ble_eq_true rfl) hW g0 sh_3 (by decide) rfl (by decide) (u_33 (B := B) (n := n) (q := q) (d := d) hW g0 g1 qtk gtk qrb grb hTC_tk hDC_r1) (fun R1049 T1050 H1051 p1052 => ?_))
  obtain ⟨e1053, w1055, f1056, z1057, e1054, b1058, p1059⟩ := p1052
  subst e1053
  subst e1054
  rcases p1059 with ⟨a1060, a1061, a1062, a1063, a1064⟩ | ⟨a1065, a1066, a1067, a1068⟩
  · have f1069 := f0.tr f1056 rfl
    show wp _ _ 32 5 [(0, .ref r0), (1, .ref r1)] [vI z1057] _ H1051 _
    refine wp_of e32 c32_5 (rw_istore_n (pc' := 6) (z := z1057) (L' := [(2, vI z1057), (0, .ref r0), (1, .ref r1)]) rfl rfl rfl ?_)
    refine wp_of e32 c32_6 (rw_iload_n (pc' := 7) (z := z1057) rfl rfl ?_)
    refine wp_of e32 c32_7 (rw_if_ge (p1 := 12) (p2 := 10) (by decide) rfl ⟨b1058.1, b1058.2⟩ (fun c1070 => ?_) (fun c1070 => ?_))
    · refine wp_of e32 c32_12 (rw_aload_n (pc' := 13) (v := .ref r0) rfl rfl rfl ?_)
      have k1071 : H1051 r0 0 = H r0 0 := (f1056 r0 0 _ g0 rfl)
      have q1072 : H1051 r0 0 = (tk : Int) := k1071.trans qtk
      refine wp_of e32 c32_13 (xg_K (pc' := 16) lf_1_12 w1055 g0 sh_3 (by decide) (by decide) rfl q1072 rfl ?_)
      have k1073 : H1051 tk 0 = H tk 0 := (f1056 tk 0 _ gtk rfl)
      have q1074 : H1051 tk 0 = (rb : Int) := k1073.trans qrb
      have k1075 : H1051 tk 1 = H tk 1 := (f1056 tk 1 _ gtk rfl)
      have k1076 : H1051 tk 2 = H tk 2 := (f1056 tk 2 _ gtk rfl)
      have h1077 : TC T H1051 tk B n q := (TC_fr hW gtk f1056 rfl hTC_tk)
      have h1078 : TP T H1051 rb B := TC_tp h1077 q1074
      refine wp_of e32 c32_16 (xc_V (pc' := 19) (r := tk) (as := []) (st := []) (lm_1_74) rfl rfl (Nat.le_of_ble_eq_true rfl) w1055 gtk sh_4 (by decide) rfl (by decide) (u_16 (B := B) (n := n) (a := (xE B n q)) (q := (xN B n q)) w1055 gtk q1074 grb (by omega) (by omega) (by omega) (rfl) h1078) (fun R1079 T1080 H1081 p1082 => ?_))
      obtain ⟨e1083, w1085, f1086, e1084, p1087⟩ := p1082
      subst e1083
      subst e1084
      have f1089 := f1069.tr f1086 rfl
      show wp _ _ 32 19 [(2, vI z1057), (0, .ref r0), (1, .ref r1)] [] _ H1081 _
      have u1090 := TC_k p1087
      refine wp_of e32 c32_19 (rw_aload_n (pc' := 20) (v := .ref r1) rfl rfl rfl ?_)
      refine wp_of e32 c32_20 (rw_iload_n (pc' := 21) (z := z1057) rfl rfl ?_)
      refine wp_of e32 c32_21 (xp_I (pc' := 24) lf_1_211 w1085 g1 sh_27 (by decide) (by decide) ty_27_15 rfl rfl (b1058.1) (b1058.2) ⟨b1058.1, b1058.2⟩ rfl (fun H1091 e1092 w1093 => ?_))
      have f1094 := f1089.put' e1092 g1 rfl
      have k1095 : H1091 r1 15 = z1057 := wq_u_s e1092
      refine wp_of e32 c32_24 (rw_iconst (pc' := 25) rfl ?_)
      have k1096 : H1091 r0 3 = H1051 r0 3 := ((wq_u_t e1092 g1 g0 rfl 3).trans (f1086 r0 3 _ g0 rfl))
      have k1097 : H1091 r1 7 = H r1 7 := ((wq_u_j e1092 rfl).trans ((f1086 r1 7 _ g1 rfl).trans (f1056 r1 7 _ g1 rfl)))
      have k1098 : H1091 r1 8 = H r1 8 := ((wq_u_j e1092 rfl).trans ((f1086 r1 8 _ g1 rfl).trans (f1056 r1 8 _ g1 rfl)))
      have k1099 : H1091 r1 9 = H r1 9 := ((wq_u_j e1092 rfl).trans ((f1086 r1 9 _ g1 rfl).trans (f1056 r1 9 _ g1 rfl)))
      have k1100 : H1091 r1 10 = H r1 10 := ((wq_u_j e1092 rfl).trans ((f1086 r1 10 _ g1 rfl).trans (f1056 r1 10 _ g1 rfl)))
      have k1101 : H1091 r1 11 = H r1 11 := ((wq_u_j e1092 rfl).trans ((f1086 r1 11 _ g1 rfl).trans (f1056 r1 11 _ g1 rfl)))
      have k1102 : H1091 r1 12 = H r1 12 := ((wq_u_j e1092 rfl).trans ((f1086 r1 12 _ g1 rfl).trans (f1056 r1 12 _ g1 rfl)))
      have k1103 : H1091 r1 13 = H r1 13 := ((wq_u_j e1092 rfl).trans ((f1086 r1 13 _ g1 rfl).trans (f1056 r1 13 _ g1 rfl)))
      have k1104 : H1091 r1 14 = H r1 14 := ((wq_u_j e1092 rfl).trans ((f1086 r1 14 _ g1 rfl).trans (f1056 r1 14 _ g1 rfl)))
      have k1105 : H1091 r1 16 = H r1 16 := ((wq_u_j e1092 rfl).trans ((f1086 r1 16 _ g1 rfl).trans (f1056 r1 16 _ g1 rfl)))
      have o1106 : (xsex B n q d) = (0, q, (xN B n q)) := by
        unfold xsex
        repeat first | rw [xs_0 (Int.le_antisymm (by omega -splitDisjunctions) (by omega -splitDisjunctions))] | rw [xs_1 (by omega -splitDisjunctions)] | rw [if_pos (Int.le_antisymm (by omega -splitDisjunctions) (by omega -splitDisjunctions))] | rw [if_pos (by omega -splitDisjunctions)] | rw [if_pos (And.intro (by omega -splitDisjunctions) (by omega -splitDisjunctions))] | rw [if_neg (by omega -splitDisjunctions)] | rw [xs_1 (by omega)] | rw [if_neg (by omega)] | rw [xs_0 (by omega)] | rw [if_pos (by omega)]
        first | done | rfl | assumption | (exfalso; omega -splitDisjunctions) | (refine Prod.ext ?_ (Prod.ext ?_ ?_) <;> (try dsimp only) <;> omega) | (exfalso; omega)
      have o1106a : ((xsex B n q d)).1 = 0 := by rw [o1106]
      have o1106b : ((xsex B n q d)).2.1 = q := by rw [o1106]
      have o1106c : ((xsex B n q d)).2.2 = (xN B n q) := by rw [o1106]
      have _l := @xdsex_v B n q d
      have _w := @xwho_e d B n q
      have _e := @xsx_e (xwho B n q d)
      have h1107 : TC T H1091 tk B n (xN B n q) := (TC_fr w1085 gtk ((wfr.rf (l := [(27, 15)])).put' e1092 g1 rfl) rfl p1087)
      have h1108 : CZ T H1091 r1 (d 0 3) := (CZ_fr w1085 g1 ((wfr.rf (l := [(27, 15)])).put' e1092 g1 rfl) rfl (CZ_fr w1055 g1 f1086 rfl (CZ_fr hW g1 f1056 rfl hCZ_r1)))
      exact wp_zreturn e32 c32_25 rfl (by omega) ⟨rfl, w1093, f1094, 1, rfl, ⟨by decide, by decide⟩, (Or.inl ⟨by omega, by omega, o1106, by omega, by omega, h1107, DC_cnt hW g1 hDC_r1 f1094 rfl (fun i h => xdsex_r h) ⟨by omega, by omega, by omega, by omega, by omega⟩ ⟨by omega, by omega, by omega, by omega, by omega, by omega, by omega, by omega, by omega, by omega, by omega, by omega, by omega, by omega, by omega, by omega⟩, CZ_le h1108 (by omega)⟩)⟩
    · exfalso
      omega
  · have f1109 := f0.tr f1056 rfl
    show wp _ _ 32 5 [(0, .ref r0), (1, .ref r1)] [vI z1057] _ H1051 _
    refine wp_of e32 c32_5 (rw_istore_n (pc' := 6) (z := z1057) (L' := [(2, vI z1057), (0, .ref r0), (1, .ref r1)]) rfl rfl rfl ?_)
    refine wp_of e32 c32_6 (rw_iload_n (pc' := 7) (z := z1057) rfl rfl ?_)
    refine wp_of e32 c32_7 (rw_if_ge (p1 := 12) (p2 := 10) (by decide) rfl ⟨b1058.1, b1058.2⟩ (fun c1110 => ?_) (fun c1110 => ?_))
    · exfalso
      omega
    · refine wp_of e32 c32_10 (rw_iconst (pc' := 11) rfl ?_)
      have k1111 : H1051 r1 7 = H r1 7 := (f1056 r1 7 _ g1 rfl)
      have k1112 : H1051 r1 8 = H r1 8 := (f1056 r1 8 _ g1 rfl)
      have k1113 : H1051 r1 9 = H r1 9 := (f1056 r1 9 _ g1 rfl)
      have k1114 : H1051 r1 10 = H r1 10 := (f1056 r1 10 _ g1 rfl)
      have k1115 : H1051 r1 11 = H r1 11 := (f1056 r1 11 _ g1 rfl)
      have k1116 : H1051 r1 12 = H r1 12 := (f1056 r1 12 _ g1 rfl)
      have k1117 : H1051 r1 13 = H r1 13 := (f1056 r1 13 _ g1 rfl)
      have k1118 : H1051 r1 14 = H r1 14 := (f1056 r1 14 _ g1 rfl)
      have k1119 : H1051 r1 15 = H r1 15 := (f1056 r1 15 _ g1 rfl)
      have k1120 : H1051 r1 16 = H r1 16 := (f1056 r1 16 _ g1 rfl)
      have o1121 : (xsex B n q d) = (xkn B n q d, q, q) := by
        unfold xsex
        repeat first | rw [xs_0 (Int.le_antisymm (by omega -splitDisjunctions) (by omega -splitDisjunctions))] | rw [xs_1 (by omega -splitDisjunctions)] | rw [if_pos (Int.le_antisymm (by omega -splitDisjunctions) (by omega -splitDisjunctions))] | rw [if_pos (by omega -splitDisjunctions)] | rw [if_pos (And.intro (by omega -splitDisjunctions) (by omega -splitDisjunctions))] | rw [if_neg (by omega -splitDisjunctions)] | rw [xs_1 (by omega)] | rw [if_neg (by omega)] | rw [xs_0 (by omega)] | rw [if_pos (by omega)]
        first | done | rfl | assumption | (exfalso; omega -splitDisjunctions) | (refine Prod.ext ?_ (Prod.ext ?_ ?_) <;> (try dsimp only) <;> omega) | (exfalso; omega)
      have o1121a : ((xsex B n q d)).1 = xkn B n q d := by rw [o1121]
      have o1121b : ((xsex B n q d)).2.1 = q := by rw [o1121]
      have o1121c : ((xsex B n q d)).2.2 = q := by rw [o1121]
      have _l := @xdsex_v B n q d
      have _w := @xwho_e d B n q
      have _e := @xsx_e (xwho B n q d)
      exact wp_zreturn e32 c32_11 rfl (by omega) ⟨rfl, w1055, f1109, 0, rfl, ⟨by decide, by decide⟩, (Or.inr ⟨by omega, by omega, by omega, by omega, by omega⟩)⟩
/-! StrikeAwake.hourBits(II)I  -/
abbrev uq_31 (a0 : Int) (a1 : Int) (lo : Int) (hi : Int) (T : wq_T) (H : wq_H) : Option Value → wq_T → wq_H → Prop := fun r T' H' => T = T' ∧ H = H' ∧ ∃ z : Int, some (vI z) = r ∧ (0 ≤ z ∧ z ≤ 16777215) ∧ (((z = xhs lo hi)))
set_option maxHeartbeats 4000000 in
theorem u_31 {kt : Nat → Option mc_E} {T : wq_T} {H : wq_H} {a0 : Int} {a1 : Int} {lo : Int} {hi : Int} (hW : WT T H) (i0 : 0 ≤ a0 ∧ a0 ≤ 24) (i1 : 0 ≤ a1 ∧ a1 ≤ 36) (p0 : a0 = lo) (p1 : a1 = hi) (p2 : lo ≤ hi) : wpc kt 1 31 [vI a0, vI a1] T H (uq_31 a0 a1 lo hi T H) := by
  refine wp_enter e31 (Nat.le_of_ble_eq_true rfl) rfl ?_
  show wp _ _ 31 0 [(0, vI a0), (1, vI a1)] [] _ H _
  refine wp_of e31 c31_0 (rw_lconst (pc' := 1) (z := 1) rfl rfl ?_)
  refine wp_of e31 c31_1 (rw_iload_n (pc' := 2) (z := a1) rfl rfl ?_)
  refine wp_of e31 c31_2 (rw_lshl (pc' := 3) rfl ?_)
  obtain ⟨v1011, e1012⟩ : ∃ x : Int, x = wl_shl 1 a1 := ⟨_, rfl⟩
  rw [← e1012]
  have b1013 : -9223372036854775808 ≤ v1011 ∧ v1011 ≤ 9223372036854775807 := by
    rw [e1012]
    exact wL_shl _ _
  refine wp_of e31 c31_3 (rw_lconst (pc' := 4) (z := 1) rfl rfl ?_)
  refine wp_of e31 c31_4 (rw_iload_n (pc' := 5) (z := a0) rfl rfl ?_)
  refine wp_of e31 c31_5 (rw_lshl (pc' := 6) rfl ?_)
  obtain ⟨v1014, e1015⟩ : ∃ x : Int, x = wl_shl 1 a0 := ⟨_, rfl⟩
  rw [← e1015]
  have b1016 : -9223372036854775808 ≤ v1014 ∧ v1014 ≤ 9223372036854775807 := by
    rw [e1015]
    exact wL_shl _ _
  refine wp_of e31 c31_6 (rw_lsubw (pc' := 7) rfl ?_)
  obtain ⟨v1017, e1018⟩ : ∃ x : Int, x = wl_w (v1011 - v1014) := ⟨_, rfl⟩
  rw [← e1018]
  have b1019 : -9223372036854775808 ≤ v1017 ∧ v1017 ≤ 9223372036854775807 := by
    rw [e1018]
    exact wL_w _
  have b1020 : (-9223372036854775808 ≤ v1011 - v1014 ∧ v1011 - v1014 ≤ 9223372036854775807) → v1017 = v1011 - v1014 := fun h => by rw [e1018]; exact wl_w_id h
  refine wp_of e31 c31_7 (rw_l2i (pc' := 8) rfl ?_)
  obtain ⟨v1021, e1022⟩ : ∃ x : Int, x = wq_w v1017 := ⟨_, rfl⟩
  rw [← e1022]
  have b1023 : -2147483648 ≤ v1021 ∧ v1021 ≤ 2147483647 := by
    rw [e1022]
    exact wI_w _
  have b1024 : (-2147483648 ≤ v1017 ∧ v1017 ≤ 2147483647) → v1021 = v1017 := by
    rw [e1022]
    exact fun h => wq_w_id h
  refine wp_of e31 c31_8 (rw_ldc_wI (pc' := 11) (z := 16777215) rfl rfl rfl ?_)
  refine wp_of e31 c31_11 (rw_iand (pc' := 12) rfl ?_)
  obtain ⟨v1025, e1026⟩ : ∃ x : Int, x = wq_and v1021 16777215 := ⟨_, rfl⟩
  rw [← e1026]
  have b1027 : 0 ≤ v1025 ∧ v1025 ≤ 16777215 := by
    rw [e1026]
    exact wq_and_b _ (by omega) (by omega)
  exact wp_ireturn e31 c31_12 rfl ⟨rfl, rfl, v1025, rfl, ⟨b1027.1, b1027.2⟩, (by subst_vars; exact hb_ok (by omega) (by omega) (by omega) (by omega))⟩
/-! StrikeAwake.hasBit(II)Z  -/
abbrev uq_36 (a0 : Int) (a1 : Int) (T : wq_T) (H : wq_H) : Option Value → wq_T → wq_H → Prop := fun r T' H' => T = T' ∧ H = H' ∧ ∃ z : Int, some (vI z) = r ∧ (0 ≤ z ∧ z ≤ 1) ∧ (((z = 1) ∧ (wq_and (wq_shr a0 a1) 1 ≠ 0)) ∨ ((z = 0) ∧ (wq_and (wq_shr a0 a1) 1 = 0)))
set_option maxHeartbeats 4000000 in
theorem u_36 {kt : Nat → Option mc_E} {T : wq_T} {H : wq_H} {a0 : Int} {a1 : Int} (hW : WT T H) (i0 : (-2147483648) ≤ a0 ∧ a0 ≤ 2147483647) (i1 : (-2147483648) ≤ a1 ∧ a1 ≤ 2147483647) : wpc kt 1 36 [vI a0, vI a1] T H (uq_36 a0 a1 T H) := by
  refine wp_enter e36 (Nat.le_of_ble_eq_true rfl) rfl ?_
  show wp _ _ 36 0 [(0, vI a0), (1, vI a1)] [] _ H _
  refine wp_of e36 c36_0 (rw_iload_n (pc' := 1) (z := a0) rfl rfl ?_)
  refine wp_of e36 c36_1 (rw_iload_n (pc' := 2) (z := a1) rfl rfl ?_)
  refine wp_of e36 c36_2 (rw_ishr (pc' := 3) rfl ?_)
  obtain ⟨v1006, e1007⟩ : ∃ x : Int, x = wq_shr a0 a1 := ⟨_, rfl⟩
  rw [← e1007]
  have b1008 : -2147483648 ≤ v1006 ∧ v1006 ≤ 2147483647 := by
    rw [e1007]
    exact wI_shr _ _
  refine wp_of e36 c36_3 (rw_iconst (pc' := 4) rfl ?_)
  refine wp_of e36 c36_4 (rw_iand (pc' := 5) rfl ?_)
  obtain ⟨v1009, e1010⟩ : ∃ x : Int, x = wq_and v1006 1 := ⟨_, rfl⟩
  rw [← e1010]
  have b1011 : 0 ≤ v1009 ∧ v1009 ≤ 1 := by
    rw [e1010]
    exact wq_and_b _ (by omega) (by omega)
  refine wp_of e36 c36_5 (rw_if_eq (p1 := 12) (p2 := 8) (by decide) rfl ⟨Int.le_trans (by decide) b1011.1, Int.le_trans b1011.2 (by decide)⟩ (fun c1012 => ?_) (fun c1012 => ?_))
  · refine wp_of e36 c36_12 (rw_iconst (pc' := 13) rfl ?_)
    exact wp_zreturn e36 c36_13 rfl (by omega) ⟨rfl, rfl, 0, rfl, ⟨by decide, by decide⟩, (Or.inr ⟨by omega, by subst_vars; omega⟩)⟩
  · refine wp_of e36 c36_8 (rw_iconst (pc' := 9) rfl ?_)
    refine wp_of e36 c36_9 (rw_goto (p1 := 13) (by decide) ?_)
    exact wp_zreturn e36 c36_13 rfl (by omega) ⟨rfl, rfl, 1, rfl, ⟨by decide, by decide⟩, (Or.inl ⟨by omega, by subst_vars; omega⟩)⟩
/-! StrikeAwake$Parish.listStruck()V  -/
abbrev uq_41 (r0 : Nat) (f : Nat → Int) (T : wq_T) (H : wq_H) : Option Value → wq_T → wq_H → Prop := fun r T' H' => T = T' ∧ WT T H' ∧ wfr [(27, 16), (30, 999)] T H H' ∧ none = r ∧ (((H' r0 16 = xcn f 24) ∧ ST T H' r0 f ∧ SV T H' r0 f 24))
set_option maxHeartbeats 4000000 in
theorem u_41 {kt : Nat → Option mc_E} {T : wq_T} {H : wq_H} {r0 : Nat} {f : Nat → Int} (hW : WT T H) (g0 : T.2.2.2 r0 = some 27) (hST_r0 : ST T H r0 f) : wpc kt 1 41 [.ref r0] T H (uq_41 r0 f T H) := by
  refine wp_enter e41 (Nat.le_of_ble_eq_true rfl) rfl ?_
  have f0 : wfr [(27, 16), (30, 999)] T H H := wfr.rf
  show wp _ _ 41 0 [(0, .ref r0)] [] _ H _
  have _c := @xcn_b f 24
  refine wp_of e41 c41_0 (rw_aload_n (pc' := 1) (v := .ref r0) rfl rfl rfl ?_)
  refine wp_of e41 c41_1 (rw_iconst (pc' := 2) rfl ?_)
  refine wp_of e41 c41_2 (xp_I (pc' := 5) lf_7_65 hW g0 sh_27 (by decide) (by decide) ty_27_16 rfl rfl (by decide) (by decide) ⟨by decide, by decide⟩ rfl (fun H1224 e1225 w1226 => ?_))
  have f1227 := f0.put' e1225 g0 rfl
  have k1228 : H1224 r0 16 = 0 := wq_u_s e1225
  refine wp_of e41 c41_5 (rw_iconst (pc' := 6) rfl ?_)
  refine wp_of e41 c41_6 (rw_istore_n (pc' := 7) (z := 0) (L' := [(1, vI 0), (0, .ref r0)]) rfl rfl rfl ?_)
  have lp1422 : ∀ (n1423 : Nat) (v1425 : Int) (H1426 : wq_H), WT T H1426 → wfr [(27, 16), (30, 999)] T H1224 H1426 → (0 ≤ v1425 ∧ v1425 ≤ 24) → (H1426 r0 16 = xcn f (v1425).toNat) → (H1426 r0 16 ≤ v1425) → ST T H1426 r0 f → SV T H1426 r0 f v1425 → (24 - v1425).toNat = n1423 → wp kt 0 41 7 [(1, vI v1425), (0, .ref r0)] [] T H1426 (uq_41 r0 f T H) := by
    intro n1423
    induction n1423 using Nat.strongRecOn with
    | _ n1423 ih1424 =>
      intro v1425 H1426 w1427 f1428 b1429 x1430 x1431 h1433 h1434 m1432
      have f1435 := f1227.tr f1428 rfl
      refine wp_of e41 c41_7 (rw_iload_n (pc' := 8) (z := v1425) rfl rfl ?_)
      refine wp_of e41 c41_8 (rw_bipush (pc' := 10) (z := 24) rfl (by decide) ?_)
      refine wp_of e41 c41_10 (rw_icmp_ge (p1 := 48) (p2 := 13) (by decide) rfl ⟨Int.le_trans (by decide) b1429.1, Int.le_trans b1429.2 (by decide)⟩ ⟨by decide, by decide⟩ (fun c1436 => ?_) (fun c1436 => ?_))
      · have : xcn f (v1425).toNat = xcn f 24 := by rw [show (v1425).toNat = 24 by omega]
        have h1437 : SV T H1426 r0 f 24 := by rw [show (24 : Int) = v1425 by omega]; exact h1434
        exact wp_return e41 c41_48 rfl ⟨rfl, w1427, f1435, rfl, ⟨by omega, h1433, h1437⟩⟩
      · refine wp_of e41 c41_13 (rw_aload_n (pc' := 14) (v := .ref r0) rfl rfl rfl ?_)
        refine wp_of e41 c41_14 (xg_R (pc' := 17) lf_7_17 w1427 g0 sh_27 (by decide) (by decide) ty_27_1 rfl rfl (fun r1438 q1439 g1440 => ?_))
        refine wp_of e41 c41_17 (rw_iload_n (pc' := 18) (z := v1425) rfl rfl ?_)
        refine wp_of e41 c41_18 (xa_I (so := 0) (pc' := 19) w1427 g1440 sh_29 (by decide) (ty_29 _) (b1429.1) (by omega) rfl (fun b1441 b1442 => ?_))
        have := ST_at h1433 q1439 (k := (v1425.toNat)) (by omega)
        refine wp_of e41 c41_19 (rw_if_lt (p1 := 42) (p2 := 22) (by decide) rfl ⟨b1441, b1442⟩ (fun c1443 => ?_) (fun c1443 => ?_))
        · have := @xcn_s1 f v1425 (by omega)
          have h1444 : SV T H1426 r0 f (v1425 + 1) := SV_skip h1434 (by omega) (by omega)
          refine wp_of e41 c41_42 (rw_iinc (pc' := 45) (z := v1425) (L' := [(1, vI (v1425 + 1)), (0, .ref r0)]) rfl rfl rfl rfl ?_)
          refine wp_of e41 c41_45 (rw_goto (p1 := 7) (by decide) ?_)
          exact wp_lc (ks := [1, 0]) (wl_c rfl (wl_c rfl wl_n)) rfl (by decide) (ih1424 _ (by omega) (v1425 + 1) H1426 w1427 f1428 ⟨by omega, by omega⟩ (by omega) (by omega) h1433 h1444 rfl)
        · refine wp_of e41 c41_22 (rw_aload_n (pc' := 23) (v := .ref r0) rfl rfl rfl ?_)
          refine wp_of e41 c41_23 (xg_R (pc' := 26) lf_7_21 w1427 g0 sh_27 (by decide) (by decide) ty_27_2 rfl rfl (fun r1445 q1446 g1447 => ?_))
          refine wp_of e41 c41_26 (rw_aload_n (pc' := 27) (v := .ref r0) rfl rfl rfl ?_)
          refine wp_of e41 c41_27 (xg_I (pc' := 30) lf_7_65 w1427 g0 sh_27 (by decide) (by decide) ty_27_16 rfl rfl (fun b1448 b1449 => ?_))
          refine wp_of e41 c41_30 (rw_iload_n (pc' := 31) (z := v1425) rfl rfl ?_)
          refine wp_of e41 c41_31 (xs_I (pc' := 32) w1427 g1447 (by decide) sh_30 (by decide) (ty_30 _) (b1429.1) (by omega) ⟨Int.le_trans (by decide) b1429.1, Int.le_trans b1429.2 (by decide)⟩ (b1448) (by omega) rfl (fun H1450 e1451 w1452 => ?_))
          have f1453 := f1435.put' e1451 g1447 rfl
          have f1454 := f1428.put' e1451 g1447 rfl
          have h1455 : SV T H1450 r0 f (v1425 + 1) := SV_put h1434 q1446 g0 g1447 e1451 (by omega) (by omega) (by omega) (by omega)
          refine wp_of e41 c41_32 (rw_aload_n (pc' := 33) (v := .ref r0) rfl rfl rfl ?_)
          refine wp_of e41 c41_33 (rw_dup (pc' := 34) rfl rfl ?_)
          have k1456 : H1450 r0 16 = H1426 r0 16 := (wq_u_t e1451 g1447 g0 rfl 16)
          refine wp_of e41 c41_34 (xg_I (pc' := 37) lf_7_65 w1452 g0 sh_27 (by decide) (by decide) ty_27_16 rfl rfl (fun b1457 b1458 => ?_))
          refine wp_of e41 c41_37 (rw_iconst (pc' := 38) rfl ?_)
          refine wp_of e41 c41_38 (rw_iadd (pc' := 39) rfl ?_)
          refine wp_of e41 c41_39 (xp_I (pc' := 42) lf_7_65 w1452 g0 sh_27 (by decide) (by decide) ty_27_16 rfl rfl (by omega) (by omega) ⟨by omega, by omega⟩ rfl (fun H1459 e1460 w1461 => ?_))
          have f1462 := f1453.put' e1460 g0 rfl
          have f1463 := f1454.put' e1460 g0 rfl
          have k1464 : H1459 r0 16 = (H1450 r0 16) + 1 := wq_u_s e1460
          have := @xcn_s1 f v1425 (by omega)
          refine wp_of e41 c41_42 (rw_iinc (pc' := 45) (z := v1425) (L' := [(1, vI (v1425 + 1)), (0, .ref r0)]) rfl rfl rfl rfl ?_)
          refine wp_of e41 c41_45 (rw_goto (p1 := 7) (by decide) ?_)
          have h1465 : ST T H1459 r0 f := (ST_fr w1452 g0 ((wfr.rf (l := [(27, 16)])).put' e1460 g0 rfl) rfl (ST_fr w1427 g0 ((wfr.rf (l := [(30, 999)])).put' e1451 g1447 rfl) rfl h1433))
          have h1466 : SV T H1459 r0 f (v1425 + 1) := (SV_fr w1452 g0 ((wfr.rf (l := [(27, 16)])).put' e1460 g0 rfl) rfl h1455)
          exact wp_lc (ks := [1, 0]) (wl_c rfl (wl_c rfl wl_n)) rfl (by decide) (ih1424 _ (by omega) (v1425 + 1) H1459 w1461 f1463 ⟨by omega, by omega⟩ (by omega) (by omega) h1465 h1466 rfl)
  have : xcn f (0 : Int).toNat = 0 := rfl
  have h1467 : SV T H1224 r0 f 0 := SV_0 w1226 g0
  have h1468 : ST T H1224 r0 f := (ST_fr hW g0 ((wfr.rf (l := [(27, 16)])).put' e1225 g0 rfl) rfl hST_r0)
  exact wp_lc (ks := [1, 0]) (wl_c rfl (wl_c rfl wl_n)) rfl (by decide) (lp1422 _ 0 H1224 w1226 wfr.rf ⟨by decide, by decide⟩ (by omega) (by omega) h1468 h1467 rfl)
/-! StrikeAwake$Parish.setStroke(II)V  -/
abbrev uq_40 (r0 : Nat) (a1 : Int) (a2 : Int) (d : xD) (w : Int) (y : Int) (T : wq_T) (H : wq_H) : Option Value → wq_T → wq_H → Prop := fun r T' H' => T = T' ∧ WT T H' ∧ wfr [(27, 16), (29, 999), (30, 999)] T H H' ∧ none = r ∧ ((DC T H' r0 (wq_u d 13 y.toNat w)))
set_option maxHeartbeats 4000000 in
theorem u_40 {kt : Nat → Option mc_E} {T : wq_T} {H : wq_H} {r0 : Nat} {a1 : Int} {a2 : Int} {d : xD} {w : Int} {y : Int} (hW : WT T H) (g0 : T.2.2.2 r0 = some 27) (i1 : 0 ≤ a1 ∧ a1 ≤ 23) (i2 : (-2) ≤ a2 ∧ a2 ≤ 99) (p0 : (0 ≤ a2 ∧ w = a2 + 1) ∨ (a2 = -2 ∧ w = 0)) (p1 : a1 = y) (hDC_r0 : DC T H r0 d) : wpc kt 2 40 [.ref r0, vI a1, vI a2] T H (uq_40 r0 a1 a2 d w y T H) := by
  refine wp_enter e40 (Nat.le_of_ble_eq_true rfl) rfl ?_
  have f0 : wfr [(27, 16), (29, 999), (30, 999)] T H H := wfr.rf
  show wp _ _ 40 0 [(0, .ref r0), (1, vI a1), (2, vI a2)] [] _ H _
  have u1028 := DC_k hDC_r0
  have h1029 : DQ T H r0 d := hDC_r0.2.1
  have h1030 : ST T H r0 (d 13) := hDC_r0.2.2.1
  have h1031 : SV T H r0 (d 13) 24 := hDC_r0.2.2.2.1
  have h1032 : DA3 T H r0 (d 0 5) (d 12) := hDC_r0.2.2.2.2.1
  have h1033 : DA4 T H r0 (d 0 6) (d 14) := hDC_r0.2.2.2.2.2.1
  have h1034 : DA5 T H r0 (d 0 6) (d 15) := hDC_r0.2.2.2.2.2.2.1
  have h1035 : DA6 T H r0 (d 0 7) (d 16) := hDC_r0.2.2.2.2.2.2.2
  refine wp_of e40 c40_0 (rw_aload_n (pc' := 1) (v := .ref r0) rfl rfl rfl ?_)
  refine wp_of e40 c40_1 (xg_R (pc' := 4) lf_7_17 hW g0 sh_27 (by decide) (by decide) ty_27_1 rfl rfl (fun r1036 q1037 g1038 => ?_))
  refine wp_of e40 c40_4 (rw_iload_n (pc' := 5) (z := a1) rfl rfl ?_)
  refine wp_of e40 c40_5 (rw_iload_n (pc' := 6) (z := a2) rfl rfl ?_)
  refine wp_of e40 c40_6 (xs_I (pc' := 7) hW g1038 (by decide) sh_29 (by decide) (ty_29 _) (Int.le_trans (by decide) i2.1) (Int.le_trans i2.2 (by decide)) ⟨Int.le_trans (by decide) i2.1, Int.le_trans i2.2 (by decide)⟩ (i1.1) (Int.lt_of_le_of_lt i1.2 (by decide)) rfl (fun H1039 e1040 w1041 => ?_))
  have f1042 := f0.put' e1040 g1038 rfl
  have h1043 : ST T H1039 r0 (wq_u d 13 y.toNat w 13) := ST_put (w := w) h1030 q1037 g0 g1038 e1040 (by omega) (by rw [p1]; exact wq_u_eq) (fun j hj => wq_u_e2 (fun h => hj (by rw [p1]; exact h.2)))
  refine wp_of e40 c40_7 (rw_aload_n (pc' := 8) (v := .ref r0) rfl rfl rfl ?_)
  refine wp_of e40 c40_8 (xc_V (pc' := 11) (r := r0) (as := []) (st := []) (lm_7_89) rfl rfl (Nat.le_of_ble_eq_true rfl) w1041 g0 sh_27 (by decide) rfl (by decide) (u_41 (f := ((wq_u d 13 y.toNat w 13))) w1041 g0 h1043) (fun R1044 T1045 H1046 p1047 => ?_))
  obtain ⟨e1048, w1050, f1051, e1049, p1052⟩ := p1047
  subst e1048
  subst e1049
  obtain ⟨a1053, a1054, a1055⟩ := p1052
  have f1056 := f1042.tr f1051 rfl
  show wp _ _ 40 11 [(0, .ref r0), (1, vI a1), (2, vI a2)] [] _ H1046 _
  have k1057 : H1046 r0 7 = H r0 7 := ((f1051 r0 7 _ g0 rfl).trans (wq_u_t e1040 g1038 g0 rfl 7))
  have k1058 : H1046 r0 8 = H r0 8 := ((f1051 r0 8 _ g0 rfl).trans (wq_u_t e1040 g1038 g0 rfl 8))
  have k1059 : H1046 r0 9 = H r0 9 := ((f1051 r0 9 _ g0 rfl).trans (wq_u_t e1040 g1038 g0 rfl 9))
  have k1060 : H1046 r0 10 = H r0 10 := ((f1051 r0 10 _ g0 rfl).trans (wq_u_t e1040 g1038 g0 rfl 10))
  have k1061 : H1046 r0 11 = H r0 11 := ((f1051 r0 11 _ g0 rfl).trans (wq_u_t e1040 g1038 g0 rfl 11))
  have k1062 : H1046 r0 12 = H r0 12 := ((f1051 r0 12 _ g0 rfl).trans (wq_u_t e1040 g1038 g0 rfl 12))
  have k1063 : H1046 r0 13 = H r0 13 := ((f1051 r0 13 _ g0 rfl).trans (wq_u_t e1040 g1038 g0 rfl 13))
  have k1064 : H1046 r0 14 = H r0 14 := ((f1051 r0 14 _ g0 rfl).trans (wq_u_t e1040 g1038 g0 rfl 14))
  have k1065 : H1046 r0 15 = H r0 15 := ((f1051 r0 15 _ g0 rfl).trans (wq_u_t e1040 g1038 g0 rfl 15))
  have _v : wq_u d 13 y.toNat w 0 0 = d 0 0 ∧ wq_u d 13 y.toNat w 0 1 = d 0 1 ∧ wq_u d 13 y.toNat w 0 2 = d 0 2 ∧ wq_u d 13 y.toNat w 0 3 = d 0 3 ∧ wq_u d 13 y.toNat w 0 4 = d 0 4 ∧ wq_u d 13 y.toNat w 0 5 = d 0 5 ∧ wq_u d 13 y.toNat w 0 6 = d 0 6 ∧ wq_u d 13 y.toNat w 0 7 = d 0 7 ∧ wq_u d 13 y.toNat w 0 8 = d 0 8 := ⟨rfl, rfl, rfl, rfl, rfl, rfl, rfl, rfl, rfl⟩
  have _s : xsx (wq_u d 13 y.toNat w 0 8) = xsx (d 0 8) := rfl
  have h1066 : DQ T H1046 r0 d := (DQ_fr w1041 g0 f1051 rfl (DQ_fr hW g0 ((wfr.rf (l := [(29, 999)])).put' e1040 g1038 rfl) rfl h1029))
  have h1067 : DA3 T H1046 r0 (d 0 5) (d 12) := (DA3_fr w1041 g0 f1051 rfl (DA3_fr hW g0 ((wfr.rf (l := [(29, 999)])).put' e1040 g1038 rfl) rfl h1032))
  have h1068 : DA4 T H1046 r0 (d 0 6) (d 14) := (DA4_fr w1041 g0 f1051 rfl (DA4_fr hW g0 ((wfr.rf (l := [(29, 999)])).put' e1040 g1038 rfl) rfl h1033))
  have h1069 : DA5 T H1046 r0 (d 0 6) (d 15) := (DA5_fr w1041 g0 f1051 rfl (DA5_fr hW g0 ((wfr.rf (l := [(29, 999)])).put' e1040 g1038 rfl) rfl h1034))
  have h1070 : DA6 T H1046 r0 (d 0 7) (d 16) := (DA6_fr w1041 g0 f1051 rfl (DA6_fr hW g0 ((wfr.rf (l := [(29, 999)])).put' e1040 g1038 rfl) rfl h1035))
  exact wp_return e40 c40_11 rfl ⟨rfl, w1050, f1056, rfl, (DC_mk ⟨by omega, by omega, by omega, by omega, by omega, by omega, by omega, by omega, by omega, by omega, by omega, by omega, by omega, by omega, by omega, by omega⟩ (DQ_cg (fun i h1 h2 => wq_u_row (by omega)) rfl rfl h1066) a1054 a1055 h1067 h1068 h1069 h1070 ⟨rfl, rfl, rfl, rfl, rfl⟩ ⟨rfl, rfl, rfl⟩)⟩
/-! StrikeAwake$Parish.isStruck(I)Z  -/
abbrev uq_39 (r0 : Nat) (a1 : Int) (d : xD) (y : Int) (T : wq_T) (H : wq_H) : Option Value → wq_T → wq_H → Prop := fun r T' H' => T = T' ∧ H = H' ∧ ∃ z : Int, some (vI z) = r ∧ (0 ≤ z ∧ z ≤ 1) ∧ (((z = 1) ∧ (0 ≤ y ∧ y ≤ 23) ∧ (d 13 y.toNat > 0)) ∨ ((z = 0) ∧ (y < 0 ∨ 23 < y ∨ d 13 y.toNat ≤ 0)))
set_option maxHeartbeats 4000000 in
theorem u_39 {kt : Nat → Option mc_E} {T : wq_T} {H : wq_H} {r0 : Nat} {a1 : Int} {d : xD} {y : Int} (hW : WT T H) (g0 : T.2.2.2 r0 = some 27) (i1 : (-2147483648) ≤ a1 ∧ a1 ≤ 2147483647) (p0 : a1 = y) (hDC_r0 : DC T H r0 d) : wpc kt 1 39 [.ref r0, vI a1] T H (uq_39 r0 a1 d y T H) := by
  refine wp_enter e39 (Nat.le_of_ble_eq_true rfl) rfl ?_
  show wp _ _ 39 0 [(0, .ref r0), (1, vI a1)] [] _ H _
  have u1010 := DC_k hDC_r0
  have h1011 : ST T H r0 (d 13) := hDC_r0.2.2.1
  refine wp_of e39 c39_0 (rw_iload_n (pc' := 1) (z := a1) rfl rfl ?_)
  refine wp_of e39 c39_1 (rw_if_lt (p1 := 23) (p2 := 4) (by decide) rfl ⟨i1.1, i1.2⟩ (fun c1012 => ?_) (fun c1012 => ?_))
  · refine wp_of e39 c39_23 (rw_iconst (pc' := 24) rfl ?_)
    exact wp_zreturn e39 c39_24 rfl (by omega) ⟨rfl, rfl, 0, rfl, ⟨by decide, by decide⟩, (Or.inr ⟨by omega, by rw [← p0]; omega⟩)⟩
  · refine wp_of e39 c39_4 (rw_iload_n (pc' := 5) (z := a1) rfl rfl ?_)
    refine wp_of e39 c39_5 (rw_bipush (pc' := 7) (z := 24) rfl (by decide) ?_)
    refine wp_of e39 c39_7 (rw_icmp_ge (p1 := 23) (p2 := 10) (by decide) rfl ⟨i1.1, i1.2⟩ ⟨by decide, by decide⟩ (fun c1013 => ?_) (fun c1013 => ?_))
    · refine wp_of e39 c39_23 (rw_iconst (pc' := 24) rfl ?_)
      exact wp_zreturn e39 c39_24 rfl (by omega) ⟨rfl, rfl, 0, rfl, ⟨by decide, by decide⟩, (Or.inr ⟨by omega, by rw [← p0]; omega⟩)⟩
    · refine wp_of e39 c39_10 (rw_aload_n (pc' := 11) (v := .ref r0) rfl rfl rfl ?_)
      refine wp_of e39 c39_11 (xg_R (pc' := 14) lf_7_17 hW g0 sh_27 (by decide) (by decide) ty_27_1 rfl rfl (fun r1014 q1015 g1016 => ?_))
      refine wp_of e39 c39_14 (rw_iload_n (pc' := 15) (z := a1) rfl rfl ?_)
      refine wp_of e39 c39_15 (xa_I (so := 0) (pc' := 16) hW g1016 sh_29 (by decide) (ty_29 _) (by omega) (by omega) rfl (fun b1017 b1018 => ?_))
      have := ST_at h1011 q1015 (k := (a1.toNat)) (by omega)
      refine wp_of e39 c39_16 (rw_if_lt (p1 := 23) (p2 := 19) (by decide) rfl ⟨b1017, b1018⟩ (fun c1019 => ?_) (fun c1019 => ?_))
      · refine wp_of e39 c39_23 (rw_iconst (pc' := 24) rfl ?_)
        exact wp_zreturn e39 c39_24 rfl (by omega) ⟨rfl, rfl, 0, rfl, ⟨by decide, by decide⟩, (Or.inr ⟨by omega, by rw [← p0]; omega⟩)⟩
      · refine wp_of e39 c39_19 (rw_iconst (pc' := 20) rfl ?_)
        refine wp_of e39 c39_20 (rw_goto (p1 := 24) (by decide) ?_)
        exact wp_zreturn e39 c39_24 rfl (by omega) ⟨rfl, rfl, 1, rfl, ⟨by decide, by decide⟩, (Or.inl ⟨by omega, by omega, by rw [← p0]; omega⟩)⟩
/-! StrikeAwake$Reader.readsBorn(LStrikeAwake$Parish;)Z  -/
abbrev uq_37 (r0 : Nat) (r1 : Nat) (tk : Nat) (rb : Nat) (B : Nat → Int) (n : Int) (q : Int) (d : xD) (T : wq_T) (H : wq_H) : Option Value → wq_T → wq_H → Prop := fun r T' H' => T = T' ∧ WT T H' ∧ wfr [(27, 12), (3, 3), (3, 4), (4, 2), (4, 3), (4, 4), (4, 5), (4, 6), (31, 999)] T H H' ∧ ∃ z : Int, some (vI z) = r ∧ (0 ≤ z ∧ z ≤ 1) ∧ (((z = 1) ∧ ((xbo B n q).1 = 0) ∧ (xbo B n q = (0, q, (xN B n q))) ∧ (q ≤ (xN B n q)) ∧ (H' r0 3 = H r0 3) ∧ TC T H' tk B n (xN B n q) ∧ DC T H' r1 (xdbo B n q d) ∧ CZ T H' r1 ((xdbo B n q d) 0 3)) ∨ ((z = 0) ∧ ((xbo B n q).1 ≠ 0) ∧ ((xbo B n q).2.2 = (xbo B n q).2.1) ∧ (H' r0 3 = (xbo B n q).1) ∧ (H' r0 4 = (xbo B n q).2.1)))
set_option maxHeartbeats 4000000 in
theorem u_37 {kt : Nat → Option mc_E} {T : wq_T} {H : wq_H} {r0 : Nat} {r1 : Nat} {tk : Nat} {rb : Nat} {B : Nat → Int} {n : Int} {q : Int} {d : xD} (hW : WT T H) (g0 : T.2.2.2 r0 = some 3) (g1 : T.2.2.2 r1 = some 27) (qtk : H r0 0 = (tk : Int)) (gtk : T.2.2.2 tk = some 4) (qrb : H tk 0 = (rb : Int)) (grb : T.2.2.2 rb = some 2) (p0 : d 0 5 ≤ 2) (hTC_tk : TC T H tk B n q) (hDC_r1 : DC T H r1 d) (hCZ_r1 : CZ T H r1 (d 0 3)) : wpc kt 3 37 [.ref r0, .ref r1] T H (uq_37 r0 r1 tk rb B n q d T H) := by
  refine wp_enter e37 (Nat.le_of_ble_eq_true rfl) rfl ?_
  have f0 : wfr [(27, 12), (3, 3), (3, 4), (4, 2), (4, 3), (4, 4), (4, 5), (4, 6), (31, 999)] T H H := wfr.rf
  show wp _ _ 37 0 [(0, .ref r0), (1, .ref r1)] [] _ H _
  have u1050 := TC_k hTC_tk
  have u1051 := DC_k hDC_r1
  have h1052 : DQ T H r1 d := hDC_r1.2.1
  have h1053 : ST T H r1 (d 13) := hDC_r1.2.2.1
  have h1054 : SV T H r1 (d 13) 24 := hDC_r1.2.2.2.1
  have h1055 : DA3 T H r1 (d 0 5) (d 12) := hDC_r1.2.2.2.2.1
  have h1056 : DA4 T H r1 (d 0 6) (d 14) := hDC_r1.2.2.2.2.2.1
  have h1057 : DA5 T H r1 (d 0 6) (d 15) := hDC_r1.2.2.2.2.2.2.1
  have h1058 : DA6 T H r1 (d 0 7) (d 16) := hDC_r1.2.2.2.2.2.2.2
  refine wp_of e37 c37_0 (rw_aload_n (pc' := 1) (v := .ref r0) rfl rfl rfl ?_)
  refine wp_of e37 c37_1 (rw_iconst (pc' := 2) rfl ?_)
  refine wp_of e37 c37_2 (rw_bipush (pc' := 4) (z := 23) rfl (by decide) ?_)
  refine wp_of e37 c37_4 (xc_V (pc' := 7) (r := r0) (as := [vI 0, vI 23]) (st := []) (lm_1_119) rfl rfl (Nat.le_of_ble_eq_true rfl) hW g0 sh_3 (by decide) rfl (by decide) (u_24 (B := B) (n := n) (q := q) (lo := 0) (hi := 23) hW g0 ⟨by decide, by decide⟩ ⟨by decide, by decide⟩ qtk gtk qrb grb (by omega) (by omega) hTC_tk) (fun R1059 T1060 H1061 p1062 => ?_))
  obtain ⟨e1063, w1065, f1066, z1067, e1064, b1068, p1069⟩ := p1062
  subst e1063
  subst e1064
  rcases p1069 with ⟨a1070, a1071, a1072, a1073, a1074⟩ | ⟨a1075, a1076, a1077, a1078⟩
  · have f1079 := f0.tr f1066 rfl
    show wp _ _ 37 7 [(0, .ref r0), (1, .ref r1)] [vI z1067] _ H1061 _
    have u1080 := TC_k a1074
    refine wp_of e37 c37_7 (rw_istore_n (pc' := 8) (z := z1067) (L' := [(2, vI z1067), (0, .ref r0), (1, .ref r1)]) rfl rfl rfl ?_)
    refine wp_of e37 c37_8 (rw_iload_n (pc' := 9) (z := z1067) rfl rfl ?_)
    refine wp_of e37 c37_9 (rw_if_ge (p1 := 14) (p2 := 12) (by decide) rfl ⟨Int.le_trans (by decide) b1068.1, Int.le_trans b1068.2 (by decide)⟩ (fun c1081 => ?_) (fun c1081 => ?_))
    · refine wp_of e37 c37_14 (rw_aload_n (pc' := 15) (v := .ref r1) rfl rfl rfl ?_)
      refine wp_of e37 c37_15 (xg_R (pc' := 18) lf_1_224 w1065 g1 sh_27 (by decide) (by decide) ty_27_3 rfl rfl (fun r1082 q1083 g1084 => ?_))
      refine wp_of e37 c37_18 (rw_aload_n (pc' := 19) (v := .ref r1) rfl rfl rfl ?_)
      have k1085 : H1061 r1 12 = H r1 12 := (f1066 r1 12 _ g1 rfl)
      refine wp_of e37 c37_19 (xg_I (pc' := 22) lf_1_227 w1065 g1 sh_27 (by decide) (by decide) ty_27_12 rfl rfl (fun b1086 b1087 => ?_))
      refine wp_of e37 c37_22 (rw_iload_n (pc' := 23) (z := z1067) rfl rfl ?_)
      have h1088 : DA3 T H1061 r1 (d 0 5) (d 12) := (DA3_fr hW g1 f1066 rfl h1055)
      refine wp_of e37 c37_23 (xs_I (pc' := 24) w1065 g1084 (by decide) sh_31 (by decide) (ty_31 _) (Int.le_trans (by decide) b1068.1) (Int.le_trans b1068.2 (by decide)) ⟨Int.le_trans (by decide) b1068.1, Int.le_trans b1068.2 (by decide)⟩ (b1086) (by omega) rfl (fun H1089 e1090 w1091 => ?_))
      have f1092 := f1079.put' e1090 g1084 rfl
      have h1093 : DA3 T H1089 r1 (d 0 5 + 1) (xdbo B n q d 12) := DA_put h1088 q1083 g1 g1084 (by decide) e1090 (by omega) rfl ((xdbo_c (k := ((H1061 r1 12).toNat)) (by omega)).1.trans (by omega)) (xdbo_c (k := ((H1061 r1 12).toNat)) (by omega)).2
      refine wp_of e37 c37_24 (rw_aload_n (pc' := 25) (v := .ref r1) rfl rfl rfl ?_)
      refine wp_of e37 c37_25 (rw_dup (pc' := 26) rfl rfl ?_)
      have k1094 : H1089 r1 12 = H1061 r1 12 := (wq_u_t e1090 g1084 g1 rfl 12)
      refine wp_of e37 c37_26 (xg_I (pc' := 29) lf_1_227 w1091 g1 sh_27 (by decide) (by decide) ty_27_12 rfl rfl (fun b1095 b1096 => ?_))
      refine wp_of e37 c37_29 (rw_iconst (pc' := 30) rfl ?_)
      refine wp_of e37 c37_30 (rw_iadd (pc' := 31) rfl ?_)
      refine wp_of e37 c37_31 (xp_I (pc' := 34) lf_1_227 w1091 g1 sh_27 (by decide) (by decide) ty_27_12 rfl rfl (by omega) (by omega) ⟨by omega, by omega⟩ rfl (fun H1097 e1098 w1099 => ?_))
      have f1100 := f1092.put' e1098 g1 rfl
      have k1101 : H1097 r1 12 = (H1089 r1 12) + 1 := wq_u_s e1098
      refine wp_of e37 c37_34 (rw_iconst (pc' := 35) rfl ?_)
      have k1102 : H1097 r0 3 = H1061 r0 3 := ((wq_u_t e1098 g1 g0 rfl 3).trans (wq_u_t e1090 g1084 g0 rfl 3))
      have k1103 : H1097 r1 7 = H r1 7 := ((wq_u_j e1098 rfl).trans ((wq_u_t e1090 g1084 g1 rfl 7).trans (f1066 r1 7 _ g1 rfl)))
      have k1104 : H1097 r1 8 = H r1 8 := ((wq_u_j e1098 rfl).trans ((wq_u_t e1090 g1084 g1 rfl 8).trans (f1066 r1 8 _ g1 rfl)))
      have k1105 : H1097 r1 9 = H r1 9 := ((wq_u_j e1098 rfl).trans ((wq_u_t e1090 g1084 g1 rfl 9).trans (f1066 r1 9 _ g1 rfl)))
      have k1106 : H1097 r1 10 = H r1 10 := ((wq_u_j e1098 rfl).trans ((wq_u_t e1090 g1084 g1 rfl 10).trans (f1066 r1 10 _ g1 rfl)))
      have k1107 : H1097 r1 11 = H r1 11 := ((wq_u_j e1098 rfl).trans ((wq_u_t e1090 g1084 g1 rfl 11).trans (f1066 r1 11 _ g1 rfl)))
      have k1108 : H1097 r1 13 = H r1 13 := ((wq_u_j e1098 rfl).trans ((wq_u_t e1090 g1084 g1 rfl 13).trans (f1066 r1 13 _ g1 rfl)))
      have k1109 : H1097 r1 14 = H r1 14 := ((wq_u_j e1098 rfl).trans ((wq_u_t e1090 g1084 g1 rfl 14).trans (f1066 r1 14 _ g1 rfl)))
      have k1110 : H1097 r1 15 = H r1 15 := ((wq_u_j e1098 rfl).trans ((wq_u_t e1090 g1084 g1 rfl 15).trans (f1066 r1 15 _ g1 rfl)))
      have k1111 : H1097 r1 16 = H r1 16 := ((wq_u_j e1098 rfl).trans ((wq_u_t e1090 g1084 g1 rfl 16).trans (f1066 r1 16 _ g1 rfl)))
      have o1112 : (xbo B n q) = (0, q, (xN B n q)) := by
        unfold xbo
        repeat first | rw [xs_0 (Int.le_antisymm (by omega -splitDisjunctions) (by omega -splitDisjunctions))] | rw [xs_1 (by omega -splitDisjunctions)] | rw [if_pos (Int.le_antisymm (by omega -splitDisjunctions) (by omega -splitDisjunctions))] | rw [if_pos (by omega -splitDisjunctions)] | rw [if_pos (And.intro (by omega -splitDisjunctions) (by omega -splitDisjunctions))] | rw [if_neg (by omega -splitDisjunctions)] | rw [xs_1 (by omega)] | rw [if_neg (by omega)] | rw [xs_0 (by omega)] | rw [if_pos (by omega)]
        first | done | rfl | assumption | (exfalso; omega -splitDisjunctions) | (refine Prod.ext ?_ (Prod.ext ?_ ?_) <;> (try dsimp only) <;> omega) | (exfalso; omega)
      have o1112a : ((xbo B n q)).1 = 0 := by rw [o1112]
      have o1112b : ((xbo B n q)).2.1 = q := by rw [o1112]
      have o1112c : ((xbo B n q)).2.2 = (xN B n q) := by rw [o1112]
      have _l := @xdbo_v B n q d
      have h1113 : TC T H1097 tk B n (xN B n q) := (TC_fr w1091 gtk ((wfr.rf (l := [(27, 12)])).put' e1098 g1 rfl) rfl (TC_fr w1065 gtk ((wfr.rf (l := [(31, 999)])).put' e1090 g1084 rfl) rfl a1074))
      have h1114 : DQ T H1097 r1 d := (DQ_fr w1091 g1 ((wfr.rf (l := [(27, 12)])).put' e1098 g1 rfl) rfl (DQ_fr w1065 g1 ((wfr.rf (l := [(31, 999)])).put' e1090 g1084 rfl) rfl (DQ_fr hW g1 f1066 rfl h1052)))
      have h1115 : ST T H1097 r1 (d 13) := (ST_fr w1091 g1 ((wfr.rf (l := [(27, 12)])).put' e1098 g1 rfl) rfl (ST_fr w1065 g1 ((wfr.rf (l := [(31, 999)])).put' e1090 g1084 rfl) rfl (ST_fr hW g1 f1066 rfl h1053)))
      have h1116 : SV T H1097 r1 (d 13) 24 := (SV_fr w1091 g1 ((wfr.rf (l := [(27, 12)])).put' e1098 g1 rfl) rfl (SV_fr w1065 g1 ((wfr.rf (l := [(31, 999)])).put' e1090 g1084 rfl) rfl (SV_fr hW g1 f1066 rfl h1054)))
      have h1117 : DA3 T H1097 r1 (d 0 5 + 1) (xdbo B n q d 12) := (DA3_fr w1091 g1 ((wfr.rf (l := [(27, 12)])).put' e1098 g1 rfl) rfl h1093)
      have h1118 : DA4 T H1097 r1 (d 0 6) (d 14) := (DA4_fr w1091 g1 ((wfr.rf (l := [(27, 12)])).put' e1098 g1 rfl) rfl (DA4_fr w1065 g1 ((wfr.rf (l := [(31, 999)])).put' e1090 g1084 rfl) rfl (DA4_fr hW g1 f1066 rfl h1056)))
      have h1119 : DA5 T H1097 r1 (d 0 6) (d 15) := (DA5_fr w1091 g1 ((wfr.rf (l := [(27, 12)])).put' e1098 g1 rfl) rfl (DA5_fr w1065 g1 ((wfr.rf (l := [(31, 999)])).put' e1090 g1084 rfl) rfl (DA5_fr hW g1 f1066 rfl h1057)))
      have h1120 : DA6 T H1097 r1 (d 0 7) (d 16) := (DA6_fr w1091 g1 ((wfr.rf (l := [(27, 12)])).put' e1098 g1 rfl) rfl (DA6_fr w1065 g1 ((wfr.rf (l := [(31, 999)])).put' e1090 g1084 rfl) rfl (DA6_fr hW g1 f1066 rfl h1058)))
      have h1121 : CZ T H1097 r1 (d 0 3) := (CZ_fr w1091 g1 ((wfr.rf (l := [(27, 12)])).put' e1098 g1 rfl) rfl (CZ_fr w1065 g1 ((wfr.rf (l := [(31, 999)])).put' e1090 g1084 rfl) rfl (CZ_fr hW g1 f1066 rfl hCZ_r1)))
      exact wp_zreturn e37 c37_35 rfl (by omega) ⟨rfl, w1099, f1100, 1, rfl, ⟨by decide, by decide⟩, (Or.inl ⟨by omega, by omega, o1112, by omega, by omega, h1113, DC_mk ⟨by omega, by omega, by omega, by omega, by omega, by omega, by omega, by omega, by omega, by omega, by omega, by omega, by omega, by omega, by omega, by omega⟩ (DQ_cg (fun i h1 h2 => xdbo_r h1 (by omega)) (by omega) (by omega) h1114) h1115 h1116 h1117 h1118 h1119 h1120 ⟨rfl, rfl, rfl, rfl, rfl⟩ ⟨by omega, by omega, by omega⟩, CZ_le h1121 (by omega)⟩)⟩
    · exfalso
      omega
  · have f1122 := f0.tr f1066 rfl
    show wp _ _ 37 7 [(0, .ref r0), (1, .ref r1)] [vI z1067] _ H1061 _
    refine wp_of e37 c37_7 (rw_istore_n (pc' := 8) (z := z1067) (L' := [(2, vI z1067), (0, .ref r0), (1, .ref r1)]) rfl rfl rfl ?_)
    refine wp_of e37 c37_8 (rw_iload_n (pc' := 9) (z := z1067) rfl rfl ?_)
    refine wp_of e37 c37_9 (rw_if_ge (p1 := 14) (p2 := 12) (by decide) rfl ⟨Int.le_trans (by decide) b1068.1, Int.le_trans b1068.2 (by decide)⟩ (fun c1123 => ?_) (fun c1123 => ?_))
    · exfalso
      omega
    · refine wp_of e37 c37_12 (rw_iconst (pc' := 13) rfl ?_)
      have k1124 : H1061 r1 7 = H r1 7 := (f1066 r1 7 _ g1 rfl)
      have k1125 : H1061 r1 8 = H r1 8 := (f1066 r1 8 _ g1 rfl)
      have k1126 : H1061 r1 9 = H r1 9 := (f1066 r1 9 _ g1 rfl)
      have k1127 : H1061 r1 10 = H r1 10 := (f1066 r1 10 _ g1 rfl)
      have k1128 : H1061 r1 11 = H r1 11 := (f1066 r1 11 _ g1 rfl)
      have k1129 : H1061 r1 12 = H r1 12 := (f1066 r1 12 _ g1 rfl)
      have k1130 : H1061 r1 13 = H r1 13 := (f1066 r1 13 _ g1 rfl)
      have k1131 : H1061 r1 14 = H r1 14 := (f1066 r1 14 _ g1 rfl)
      have k1132 : H1061 r1 15 = H r1 15 := (f1066 r1 15 _ g1 rfl)
      have k1133 : H1061 r1 16 = H r1 16 := (f1066 r1 16 _ g1 rfl)
      have o1134 : (xbo B n q) = (xh B n q 0 23, q, q) := by
        unfold xbo
        repeat first | rw [xs_0 (Int.le_antisymm (by omega -splitDisjunctions) (by omega -splitDisjunctions))] | rw [xs_1 (by omega -splitDisjunctions)] | rw [if_pos (Int.le_antisymm (by omega -splitDisjunctions) (by omega -splitDisjunctions))] | rw [if_pos (by omega -splitDisjunctions)] | rw [if_pos (And.intro (by omega -splitDisjunctions) (by omega -splitDisjunctions))] | rw [if_neg (by omega -splitDisjunctions)] | rw [xs_1 (by omega)] | rw [if_neg (by omega)] | rw [xs_0 (by omega)] | rw [if_pos (by omega)]
        first | done | rfl | assumption | (exfalso; omega -splitDisjunctions) | (refine Prod.ext ?_ (Prod.ext ?_ ?_) <;> (try dsimp only) <;> omega) | (exfalso; omega)
      have o1134a : ((xbo B n q)).1 = xh B n q 0 23 := by rw [o1134]
      have o1134b : ((xbo B n q)).2.1 = q := by rw [o1134]
      have o1134c : ((xbo B n q)).2.2 = q := by rw [o1134]
      have _l := @xdbo_v B n q d
      exact wp_zreturn e37 c37_13 rfl (by omega) ⟨rfl, w1065, f1122, 0, rfl, ⟨by decide, by decide⟩, (Or.inr ⟨by omega, by omega, by omega, by omega, by omega⟩)⟩
