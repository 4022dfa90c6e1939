section
/-! what methods do (own work, written by wip/gen3/sx3.py) -/
/-! StrikeAwake.bed(IZ)I  -/
abbrev uq_117 (r0 : Nat) (a1 : Int) (a2 : Int) (cu : Nat) (wa : Nat) (ce : Nat) (e : xD) (d : xD) (n : Int) (T : wq_T) (H : wq_H) : Option Value → wq_T → wq_H → Prop := fun r T' H' => T = T' ∧ WT T H' ∧ wfr [(12, 5), (12, 6), (12, 7), (12, 8), (12, 9), (1, 10), (6, 5), (8, 999), (10, 999), (15, 999), (9, 999), (18, 999), (19, 999), (7, 999), (11, 999), (17, 999), (13, 999)] T H H' ∧ ∃ z : Int, some (vI z) = r ∧ ((-2147483648) ≤ z ∧ z ≤ 2147483647) ∧ ((CEN T H' ce e d))
set_option maxHeartbeats 4000000 in
theorem u_117 {kt : Nat → Option mc_E} {T : wq_T} {H : wq_H} {r0 : Nat} {a1 : Int} {a2 : Int} {cu : Nat} {wa : Nat} {ce : Nat} {e : xD} {d : xD} {n : Int} (hW : WT T H) (g0 : T.2.2.2 r0 = some 1) (i1 : (-2147483648) ≤ a1 ∧ a1 ≤ 2147483647) (i2 : 0 ≤ a2 ∧ a2 ≤ 1) (qcu : H r0 6 = (cu : Int)) (gcu : T.2.2.2 cu = some 27) (qwa : H r0 2 = (wa : Int)) (gwa : T.2.2.2 wa = some 6) (qce : H r0 3 = (ce : Int)) (gce : T.2.2.2 ce = some 12) (p0 : ∀ i, i ≠ 13 → e i = d i) (p1 : XW d) (p2 : e 0 3 = d 0 3) (p3 : e 0 0 = d 0 0) (p4 : H r0 8 = 0 ∨ n = xlots d) (p5 : H r0 8 ≠ 0 ∨ (d 0 3 = 0 ∧ d 0 0 = 0)) (hCU_cu : CU T H cu e d n) (hCEN_ce : CEN T H ce e d) (hHDR_ce : HDR T H ce ) : wpc kt 7 117 [.ref r0, vI a1, vI a2] T H (uq_117 r0 a1 a2 cu wa ce e d n T H) := by
  refine wp_enter e117 (Nat.le_of_ble_eq_true rfl) rfl ?_
  have f0 : wfr [(12, 5), (12, 6), (12, 7), (12, 8), (12, 9), (1, 10), (6, 5), (8, 999), (10, 999), (15, 999), (9, 999), (18, 999), (19, 999), (7, 999), (11, 999), (17, 999), (13, 999)] T H H := wfr.rf
  show wp _ _ 117 0 [(0, .ref r0), (1, vI a1), (2, vI a2)] [] _ H _
  have u1153 := CU_k hCU_cu
  have b1154 : 0 ≤ H r0 8 ∧ H r0 8 ≤ 1 := hW.box g0 (n := 13) rfl (by decide) rfl
  have _c7 : d 0 0 ≤ 24 := p1.2.1.2.1
  refine wp_of e117 c117_0 (rw_aload_n (pc' := 1) (v := .ref r0) rfl rfl rfl ?_)
  refine wp_of e117 c117_1 (rw_aload_n (pc' := 2) (v := .ref r0) rfl rfl rfl ?_)
  refine wp_of e117 c117_2 (rw_iload_n (pc' := 3) (z := a1) rfl rfl ?_)
  refine wp_of e117 c117_3 (xc_V (pc' := 6) (r := r0) (as := [vI a1]) (st := [.ref r0]) (lm_0_105) rfl rfl (Nat.le_of_ble_eq_true rfl) hW g0 sh_1 (by decide) rfl (by decide) (u_55  hW g0 ⟨i1.1, i1.2⟩ qcu gcu) (fun R1155 T1156 H1157 p1158 => ?_))
  obtain ⟨e1159, e1161, z1162, e1160, b1163, p1164⟩ := p1158
  subst e1159
  subst e1160
  subst e1161
  rcases p1164 with ⟨a1165, a1166⟩ | ⟨a1167, a1168⟩
  · show wp _ _ 117 6 [(0, .ref r0), (1, vI a1), (2, vI a2)] [vI z1162, .ref r0] _ H _
    refine wp_of e117 c117_6 (xc_V (pc' := 9) (r := r0) (as := [vI z1162]) (st := []) (lm_0_198) rfl rfl (Nat.le_of_ble_eq_true rfl) hW g0 sh_1 (by decide) rfl (by decide) (u_102 (e := e) (d := d) (n := n) hW g0 ⟨b1163.1, b1163.2⟩ qcu gcu qwa gwa qce gce (by assumption) (by assumption) (by omega) (by omega) (by omega) hCU_cu hCEN_ce hHDR_ce) (fun R1169 T1170 H1171 p1172 => ?_))
    obtain ⟨e1173, w1175, f1176, z1177, e1174, b1178, p1179⟩ := p1172
    subst e1173
    subst e1174
    rcases p1179 with ⟨a1180, a1181, a1182, a1183, a1184, a1185, a1186⟩ | ⟨a1187, a1188, a1189⟩
    · have f1190 := f0.tr f1176 rfl
      show wp _ _ 117 9 [(0, .ref r0), (1, vI a1), (2, vI a2)] [vI z1177] _ H1171 _
      refine wp_of e117 c117_9 (rw_istore_n (pc' := 10) (z := z1177) (L' := [(3, vI z1177), (0, .ref r0), (1, vI a1), (2, vI a2)]) rfl rfl rfl ?_)
      refine wp_of e117 c117_10 (rw_iload_n (pc' := 11) (z := z1177) rfl rfl ?_)
      refine wp_of e117 c117_11 (rw_if_eq (p1 := 20) (p2 := 14) (by decide) rfl ⟨Int.le_trans (by decide) b1178.1, Int.le_trans b1178.2 (by decide)⟩ (fun c1191 => ?_) (fun c1191 => ?_))
      · refine wp_of e117 c117_20 (rw_aload_n (pc' := 21) (v := .ref r0) rfl rfl rfl ?_)
        refine wp_of e117 c117_21 (rw_aload_n (pc' := 22) (v := .ref r0) rfl rfl rfl ?_)
        have k1192 : H1171 r0 3 = H r0 3 := (f1176 r0 3 _ g0 rfl)
        have q1193 : H1171 r0 3 = (ce : Int) := k1192.trans qce
        refine wp_of e117 c117_22 (xg_K (pc' := 25) lf_0_30 w1175 g0 sh_1 (by decide) (by decide) rfl q1193 rfl ?_)
        refine wp_of e117 c117_25 (rw_aload_n (pc' := 26) (v := .ref r0) rfl rfl rfl ?_)
        have k1194 : H1171 r0 6 = H r0 6 := (f1176 r0 6 _ g0 rfl)
        have q1195 : H1171 r0 6 = (cu : Int) := k1194.trans qcu
        refine wp_of e117 c117_26 (xg_K (pc' := 29) lf_0_51 w1175 g0 sh_1 (by decide) (by decide) rfl q1195 rfl ?_)
        refine wp_of e117 c117_29 (xg_R (pc' := 32) lf_0_109 w1175 gcu sh_27 (by decide) (by decide) ty_27_0 rfl rfl (fun r1196 q1197 g1198 => ?_))
        refine wp_of e117 c117_32 (rw_iload_n (pc' := 33) (z := a1) rfl rfl ?_)
        refine wp_of e117 c117_33 (xa_R (pc' := 34) (by decide) w1175 g1198 sh_28 (by decide) (ty_28 _) (by omega) (by omega) rfl (fun r1199 q1200 g1201 => ?_))
        refine wp_of e117 c117_34 (xg_R (pc' := 37) lf_0_125 w1175 g1201 sh_35 (by decide) (by decide) ty_35_0 rfl rfl (fun r1202 q1203 g1204 => ?_))
        refine wp_of e117 c117_37 (rw_iload_n (pc' := 38) (z := a1) rfl rfl ?_)
        refine wp_of e117 c117_38 (rw_iload_n (pc' := 39) (z := a2) rfl rfl ?_)
        refine wp_of e117 c117_39 (xc_V (pc' := 42) (r := ce) (as := [.ref r1202, vI a1, vI a2]) (st := [.ref r0]) (lm_0_223) rfl rfl (Nat.le_of_ble_eq_true rfl) w1175 gce sh_12 (by decide) rfl (by decide) (s_118_b w1175 gce g1204 ⟨by omega, by omega⟩ ⟨i2.1, i2.2⟩) (fun R1205 T1206 H1207 p1208 => ?_))
        obtain ⟨e1209, e1211, z1212, e1210, b1213⟩ := p1208
        subst e1209
        subst e1210
        subst e1211
        show wp _ _ 117 42 [(3, vI z1177), (0, .ref r0), (1, vI a1), (2, vI a2)] [vI z1212, .ref r0] _ H1171 _
        refine wp_of e117 c117_42 (xc_V (pc' := 45) (r := r0) (as := [vI z1212]) (st := []) (lm_0_99) rfl rfl (Nat.le_of_ble_eq_true rfl) w1175 g0 sh_1 (by decide) rfl (by decide) (s_51 w1175 g0 ⟨b1213.1, b1213.2⟩) (fun R1214 T1215 H1216 p1217 => ?_))
        obtain ⟨e1218, w1220, f1221, z1222, e1219, b1223⟩ := p1217
        subst e1218
        subst e1219
        have f1224 := f1190.tr f1221 rfl
        show wp _ _ 117 45 [(3, vI z1177), (0, .ref r0), (1, vI a1), (2, vI a2)] [vI z1222] _ H1216 _
        have h1225 : CEN T H1216 ce e d := (CEN_fr w1175 gce f1221 rfl a1184)
        exact wp_ireturn e117 c117_45 rfl ⟨rfl, w1220, f1224, z1222, rfl, ⟨b1223.1, b1223.2⟩, (h1225)⟩
      · exfalso
        omega
    · have f1226 := f0.tr f1176 rfl
      show wp _ _ 117 9 [(0, .ref r0), (1, vI a1), (2, vI a2)] [vI z1177] _ H1171 _
      refine wp_of e117 c117_9 (rw_istore_n (pc' := 10) (z := z1177) (L' := [(3, vI z1177), (0, .ref r0), (1, vI a1), (2, vI a2)]) rfl rfl rfl ?_)
      refine wp_of e117 c117_10 (rw_iload_n (pc' := 11) (z := z1177) rfl rfl ?_)
      refine wp_of e117 c117_11 (rw_if_eq (p1 := 20) (p2 := 14) (by decide) rfl ⟨Int.le_trans (by decide) b1178.1, Int.le_trans b1178.2 (by decide)⟩ (fun c1227 => ?_) (fun c1227 => ?_))
      · exfalso
        omega
      · refine wp_of e117 c117_14 (rw_aload_n (pc' := 15) (v := .ref r0) rfl rfl rfl ?_)
        refine wp_of e117 c117_15 (rw_iload_n (pc' := 16) (z := z1177) rfl rfl ?_)
        refine wp_of e117 c117_16 (xc_V (pc' := 19) (r := r0) (as := [vI z1177]) (st := []) (lm_0_70) rfl rfl (Nat.le_of_ble_eq_true rfl) w1175 g0 sh_1 (by decide) rfl (by decide) (s_12 w1175 g0 ⟨Int.le_trans (by decide) b1178.1, Int.le_trans b1178.2 (by decide)⟩) (fun R1228 T1229 H1230 p1231 => ?_))
        obtain ⟨e1232, w1234, f1235, z1236, e1233, b1237⟩ := p1231
        subst e1232
        subst e1233
        have f1238 := f1226.tr f1235 rfl
        show wp _ _ 117 19 [(3, vI z1177), (0, .ref r0), (1, vI a1), (2, vI a2)] [vI z1236] _ H1230 _
        have h1239 : CEN T H1230 ce e d := (CEN_fr w1175 gce f1235 rfl a1189)
        exact wp_ireturn e117 c117_19 rfl ⟨rfl, w1234, f1238, z1236, rfl, ⟨b1237.1, b1237.2⟩, (h1239)⟩
  · show wp _ _ 117 6 [(0, .ref r0), (1, vI a1), (2, vI a2)] [vI z1162, .ref r0] _ H _
    refine wp_of e117 c117_6 (xc_V (pc' := 9) (r := r0) (as := [vI z1162]) (st := []) (lm_0_198) rfl rfl (Nat.le_of_ble_eq_true rfl) hW g0 sh_1 (by decide) rfl (by decide) (u_102 (e := e) (d := d) (n := n) hW g0 ⟨b1163.1, b1163.2⟩ qcu gcu qwa gwa qce gce (by assumption) (by assumption) (by omega) (by omega) (by omega) hCU_cu hCEN_ce hHDR_ce) (fun R1240 T1241 H1242 p1243 => ?_))
    obtain ⟨e1244, w1246, f1247, z1248, e1245, b1249, p1250⟩ := p1243
    subst e1244
    subst e1245
    rcases p1250 with ⟨a1251, a1252, a1253, a1254, a1255, a1256, a1257⟩ | ⟨a1258, a1259, a1260⟩
    · exfalso
      omega
    · have f1261 := f0.tr f1247 rfl
      show wp _ _ 117 9 [(0, .ref r0), (1, vI a1), (2, vI a2)] [vI z1248] _ H1242 _
      refine wp_of e117 c117_9 (rw_istore_n (pc' := 10) (z := z1248) (L' := [(3, vI z1248), (0, .ref r0), (1, vI a1), (2, vI a2)]) rfl rfl rfl ?_)
      refine wp_of e117 c117_10 (rw_iload_n (pc' := 11) (z := z1248) rfl rfl ?_)
      refine wp_of e117 c117_11 (rw_if_eq (p1 := 20) (p2 := 14) (by decide) rfl ⟨Int.le_trans (by decide) b1249.1, Int.le_trans b1249.2 (by decide)⟩ (fun c1262 => ?_) (fun c1262 => ?_))
      · exfalso
        omega
      · refine wp_of e117 c117_14 (rw_aload_n (pc' := 15) (v := .ref r0) rfl rfl rfl ?_)
        refine wp_of e117 c117_15 (rw_iload_n (pc' := 16) (z := z1248) rfl rfl ?_)
        refine wp_of e117 c117_16 (xc_V (pc' := 19) (r := r0) (as := [vI z1248]) (st := []) (lm_0_70) rfl rfl (Nat.le_of_ble_eq_true rfl) w1246 g0 sh_1 (by decide) rfl (by decide) (s_12 w1246 g0 ⟨Int.le_trans (by decide) b1249.1, Int.le_trans b1249.2 (by decide)⟩) (fun R1263 T1264 H1265 p1266 => ?_))
        obtain ⟨e1267, w1269, f1270, z1271, e1268, b1272⟩ := p1266
        subst e1267
        subst e1268
        have f1273 := f1261.tr f1270 rfl
        show wp _ _ 117 19 [(3, vI z1248), (0, .ref r0), (1, vI a1), (2, vI a2)] [vI z1271] _ H1265 _
        have h1274 : CEN T H1265 ce e d := (CEN_fr w1246 gce f1270 rfl a1260)
        exact wp_ireturn e117 c117_19 rfl ⟨rfl, w1269, f1273, z1271, rfl, ⟨b1272.1, b1272.2⟩, (h1274)⟩
/-! StrikeAwake.sleeps(IZ)I  -/
abbrev uq_119 (r0 : Nat) (a1 : Int) (a2 : Int) (cu : Nat) (wa : Nat) (ce : Nat) (e : xD) (d : xD) (n : Int) (T : wq_T) (H : wq_H) : Option Value → wq_T → wq_H → Prop := fun r T' H' => T = T' ∧ WT T H' ∧ wfr [(12, 5), (12, 6), (12, 7), (12, 8), (12, 9), (1, 10), (6, 5), (8, 999), (10, 999), (15, 999), (9, 999), (18, 999), (19, 999), (7, 999), (11, 999), (17, 999), (13, 999)] T H H' ∧ ∃ z : Int, some (vI z) = r ∧ ((-2147483648) ≤ z ∧ z ≤ 2147483647) ∧ ((CEN T H' ce e d))
set_option maxHeartbeats 4000000 in
theorem u_119 {kt : Nat → Option mc_E} {T : wq_T} {H : wq_H} {r0 : Nat} {a1 : Int} {a2 : Int} {cu : Nat} {wa : Nat} {ce : Nat} {e : xD} {d : xD} {n : Int} (hW : WT T H) (g0 : T.2.2.2 r0 = some 1) (i1 : (-2147483648) ≤ a1 ∧ a1 ≤ 2147483647) (i2 : 0 ≤ a2 ∧ a2 ≤ 1) (qcu : H r0 6 = (cu : Int)) (gcu : T.2.2.2 cu = some 27) (qwa : H r0 2 = (wa : Int)) (gwa : T.2.2.2 wa = some 6) (qce : H r0 3 = (ce : Int)) (gce : T.2.2.2 ce = some 12) (p0 : ∀ i, i ≠ 13 → e i = d i) (p1 : XW d) (p2 : e 0 3 = d 0 3) (p3 : e 0 0 = d 0 0) (p4 : H r0 8 = 0 ∨ n = xlots d) (p5 : H r0 8 ≠ 0 ∨ (d 0 3 = 0 ∧ d 0 0 = 0)) (hCU_cu : CU T H cu e d n) (hCEN_ce : CEN T H ce e d) (hHDR_ce : HDR T H ce ) : wpc kt 7 119 [.ref r0, vI a1, vI a2] T H (uq_119 r0 a1 a2 cu wa ce e d n T H) := by
  refine wp_enter e119 (Nat.le_of_ble_eq_true rfl) rfl ?_
  have f0 : wfr [(12, 5), (12, 6), (12, 7), (12, 8), (12, 9), (1, 10), (6, 5), (8, 999), (10, 999), (15, 999), (9, 999), (18, 999), (19, 999), (7, 999), (11, 999), (17, 999), (13, 999)] T H H := wfr.rf
  show wp _ _ 119 0 [(0, .ref r0), (1, vI a1), (2, vI a2)] [] _ H _
  have u1153 := CU_k hCU_cu
  have b1154 : 0 ≤ H r0 8 ∧ H r0 8 ≤ 1 := hW.box g0 (n := 13) rfl (by decide) rfl
  have _c7 : d 0 0 ≤ 24 := p1.2.1.2.1
  refine wp_of e119 c119_0 (rw_aload_n (pc' := 1) (v := .ref r0) rfl rfl rfl ?_)
  refine wp_of e119 c119_1 (rw_aload_n (pc' := 2) (v := .ref r0) rfl rfl rfl ?_)
  refine wp_of e119 c119_2 (rw_iload_n (pc' := 3) (z := a1) rfl rfl ?_)
  refine wp_of e119 c119_3 (xc_V (pc' := 6) (r := r0) (as := [vI a1]) (st := [.ref r0]) (lm_0_105) rfl rfl (Nat.le_of_ble_eq_true rfl) hW g0 sh_1 (by decide) rfl (by decide) (u_55  hW g0 ⟨i1.1, i1.2⟩ qcu gcu) (fun R1155 T1156 H1157 p1158 => ?_))
  obtain ⟨e1159, e1161, z1162, e1160, b1163, p1164⟩ := p1158
  subst e1159
  subst e1160
  subst e1161
  rcases p1164 with ⟨a1165, a1166⟩ | ⟨a1167, a1168⟩
  · show wp _ _ 119 6 [(0, .ref r0), (1, vI a1), (2, vI a2)] [vI z1162, .ref r0] _ H _
    refine wp_of e119 c119_6 (xc_V (pc' := 9) (r := r0) (as := [vI z1162]) (st := []) (lm_0_198) rfl rfl (Nat.le_of_ble_eq_true rfl) hW g0 sh_1 (by decide) rfl (by decide) (u_102 (e := e) (d := d) (n := n) hW g0 ⟨b1163.1, b1163.2⟩ qcu gcu qwa gwa qce gce (by assumption) (by assumption) (by omega) (by omega) (by omega) hCU_cu hCEN_ce hHDR_ce) (fun R1169 T1170 H1171 p1172 => ?_))
    obtain ⟨e1173, w1175, f1176, z1177, e1174, b1178, p1179⟩ := p1172
    subst e1173
    subst e1174
    rcases p1179 with ⟨a1180, a1181, a1182, a1183, a1184, a1185, a1186⟩ | ⟨a1187, a1188, a1189⟩
    · have f1190 := f0.tr f1176 rfl
      show wp _ _ 119 9 [(0, .ref r0), (1, vI a1), (2, vI a2)] [vI z1177] _ H1171 _
      refine wp_of e119 c119_9 (rw_istore_n (pc' := 10) (z := z1177) (L' := [(3, vI z1177), (0, .ref r0), (1, vI a1), (2, vI a2)]) rfl rfl rfl ?_)
      refine wp_of e119 c119_10 (rw_iload_n (pc' := 11) (z := z1177) rfl rfl ?_)
      refine wp_of e119 c119_11 (rw_if_eq (p1 := 20) (p2 := 14) (by decide) rfl ⟨Int.le_trans (by decide) b1178.1, Int.le_trans b1178.2 (by decide)⟩ (fun c1191 => ?_) (fun c1191 => ?_))
      · refine wp_of e119 c119_20 (rw_aload_n (pc' := 21) (v := .ref r0) rfl rfl rfl ?_)
        refine wp_of e119 c119_21 (rw_aload_n (pc' := 22) (v := .ref r0) rfl rfl rfl ?_)
        have k1192 : H1171 r0 3 = H r0 3 := (f1176 r0 3 _ g0 rfl)
        have q1193 : H1171 r0 3 = (ce : Int) := k1192.trans qce
        refine wp_of e119 c119_22 (xg_K (pc' := 25) lf_0_30 w1175 g0 sh_1 (by decide) (by decide) rfl q1193 rfl ?_)
        refine wp_of e119 c119_25 (rw_aload_n (pc' := 26) (v := .ref r0) rfl rfl rfl ?_)
        have k1194 : H1171 r0 6 = H r0 6 := (f1176 r0 6 _ g0 rfl)
        have q1195 : H1171 r0 6 = (cu : Int) := k1194.trans qcu
        refine wp_of e119 c119_26 (xg_K (pc' := 29) lf_0_51 w1175 g0 sh_1 (by decide) (by decide) rfl q1195 rfl ?_)
        refine wp_of e119 c119_29 (xg_R (pc' := 32) lf_0_109 w1175 gcu sh_27 (by decide) (by decide) ty_27_0 rfl rfl (fun r1196 q1197 g1198 => ?_))
        refine wp_of e119 c119_32 (rw_iload_n (pc' := 33) (z := a1) rfl rfl ?_)
        refine wp_of e119 c119_33 (xa_R (pc' := 34) (by decide) w1175 g1198 sh_28 (by decide) (ty_28 _) (by omega) (by omega) rfl (fun r1199 q1200 g1201 => ?_))
        refine wp_of e119 c119_34 (xg_R (pc' := 37) lf_0_129 w1175 g1201 sh_35 (by decide) (by decide) ty_35_1 rfl rfl (fun r1202 q1203 g1204 => ?_))
        refine wp_of e119 c119_37 (rw_iload_n (pc' := 38) (z := a1) rfl rfl ?_)
        refine wp_of e119 c119_38 (rw_iload_n (pc' := 39) (z := a2) rfl rfl ?_)
        refine wp_of e119 c119_39 (xc_V (pc' := 42) (r := ce) (as := [.ref r1202, vI a1, vI a2]) (st := [.ref r0]) (lm_0_223) rfl rfl (Nat.le_of_ble_eq_true rfl) w1175 gce sh_12 (by decide) rfl (by decide) (s_118_s w1175 gce g1204 ⟨by omega, by omega⟩ ⟨i2.1, i2.2⟩) (fun R1205 T1206 H1207 p1208 => ?_))
        obtain ⟨e1209, e1211, z1212, e1210, b1213⟩ := p1208
        subst e1209
        subst e1210
        subst e1211
        show wp _ _ 119 42 [(3, vI z1177), (0, .ref r0), (1, vI a1), (2, vI a2)] [vI z1212, .ref r0] _ H1171 _
        refine wp_of e119 c119_42 (xc_V (pc' := 45) (r := r0) (as := [vI z1212]) (st := []) (lm_0_99) rfl rfl (Nat.le_of_ble_eq_true rfl) w1175 g0 sh_1 (by decide) rfl (by decide) (s_51 w1175 g0 ⟨b1213.1, b1213.2⟩) (fun R1214 T1215 H1216 p1217 => ?_))
        obtain ⟨e1218, w1220, f1221, z1222, e1219, b1223⟩ := p1217
        subst e1218
        subst e1219
        have f1224 := f1190.tr f1221 rfl
        show wp _ _ 119 45 [(3, vI z1177), (0, .ref r0), (1, vI a1), (2, vI a2)] [vI z1222] _ H1216 _
        have h1225 : CEN T H1216 ce e d := (CEN_fr w1175 gce f1221 rfl a1184)
        exact wp_ireturn e119 c119_45 rfl ⟨rfl, w1220, f1224, z1222, rfl, ⟨b1223.1, b1223.2⟩, (h1225)⟩
      · exfalso
        omega
    · have f1226 := f0.tr f1176 rfl
      show wp _ _ 119 9 [(0, .ref r0), (1, vI a1), (2, vI a2)] [vI z1177] _ H1171 _
      refine wp_of e119 c119_9 (rw_istore_n (pc' := 10) (z := z1177) (L' := [(3, vI z1177), (0, .ref r0), (1, vI a1), (2, vI a2)]) rfl rfl rfl ?_)
      refine wp_of e119 c119_10 (rw_iload_n (pc' := 11) (z := z1177) rfl rfl ?_)
      refine wp_of e119 c119_11 (rw_if_eq (p1 := 20) (p2 := 14) (by decide) rfl ⟨Int.le_trans (by decide) b1178.1, Int.le_trans b1178.2 (by decide)⟩ (fun c1227 => ?_) (fun c1227 => ?_))
      · exfalso
        omega
      · refine wp_of e119 c119_14 (rw_aload_n (pc' := 15) (v := .ref r0) rfl rfl rfl ?_)
        refine wp_of e119 c119_15 (rw_iload_n (pc' := 16) (z := z1177) rfl rfl ?_)
        refine wp_of e119 c119_16 (xc_V (pc' := 19) (r := r0) (as := [vI z1177]) (st := []) (lm_0_70) rfl rfl (Nat.le_of_ble_eq_true rfl) w1175 g0 sh_1 (by decide) rfl (by decide) (s_12 w1175 g0 ⟨Int.le_trans (by decide) b1178.1, Int.le_trans b1178.2 (by decide)⟩) (fun R1228 T1229 H1230 p1231 => ?_))
        obtain ⟨e1232, w1234, f1235, z1236, e1233, b1237⟩ := p1231
        subst e1232
        subst e1233
        have f1238 := f1226.tr f1235 rfl
        show wp _ _ 119 19 [(3, vI z1177), (0, .ref r0), (1, vI a1), (2, vI a2)] [vI z1236] _ H1230 _
        have h1239 : CEN T H1230 ce e d := (CEN_fr w1175 gce f1235 rfl a1189)
        exact wp_ireturn e119 c119_19 rfl ⟨rfl, w1234, f1238, z1236, rfl, ⟨b1237.1, b1237.2⟩, (h1239)⟩
  · show wp _ _ 119 6 [(0, .ref r0), (1, vI a1), (2, vI a2)] [vI z1162, .ref r0] _ H _
    refine wp_of e119 c119_6 (xc_V (pc' := 9) (r := r0) (as := [vI z1162]) (st := []) (lm_0_198) rfl rfl (Nat.le_of_ble_eq_true rfl) hW g0 sh_1 (by decide) rfl (by decide) (u_102 (e := e) (d := d) (n := n) hW g0 ⟨b1163.1, b1163.2⟩ qcu gcu qwa gwa qce gce (by assumption) (by assumption) (by omega) (by omega) (by omega) hCU_cu hCEN_ce hHDR_ce) (fun R1240 T1241 H1242 p1243 => ?_))
    obtain ⟨e1244, w1246, f1247, z1248, e1245, b1249, p1250⟩ := p1243
    subst e1244
    subst e1245
    rcases p1250 with ⟨a1251, a1252, a1253, a1254, a1255, a1256, a1257⟩ | ⟨a1258, a1259, a1260⟩
    · exfalso
      omega
    · have f1261 := f0.tr f1247 rfl
      show wp _ _ 119 9 [(0, .ref r0), (1, vI a1), (2, vI a2)] [vI z1248] _ H1242 _
      refine wp_of e119 c119_9 (rw_istore_n (pc' := 10) (z := z1248) (L' := [(3, vI z1248), (0, .ref r0), (1, vI a1), (2, vI a2)]) rfl rfl rfl ?_)
      refine wp_of e119 c119_10 (rw_iload_n (pc' := 11) (z := z1248) rfl rfl ?_)
      refine wp_of e119 c119_11 (rw_if_eq (p1 := 20) (p2 := 14) (by decide) rfl ⟨Int.le_trans (by decide) b1249.1, Int.le_trans b1249.2 (by decide)⟩ (fun c1262 => ?_) (fun c1262 => ?_))
      · exfalso
        omega
      · refine wp_of e119 c119_14 (rw_aload_n (pc' := 15) (v := .ref r0) rfl rfl rfl ?_)
        refine wp_of e119 c119_15 (rw_iload_n (pc' := 16) (z := z1248) rfl rfl ?_)
        refine wp_of e119 c119_16 (xc_V (pc' := 19) (r := r0) (as := [vI z1248]) (st := []) (lm_0_70) rfl rfl (Nat.le_of_ble_eq_true rfl) w1246 g0 sh_1 (by decide) rfl (by decide) (s_12 w1246 g0 ⟨Int.le_trans (by decide) b1249.1, Int.le_trans b1249.2 (by decide)⟩) (fun R1263 T1264 H1265 p1266 => ?_))
        obtain ⟨e1267, w1269, f1270, z1271, e1268, b1272⟩ := p1266
        subst e1267
        subst e1268
        have f1273 := f1261.tr f1270 rfl
        show wp _ _ 119 19 [(3, vI z1248), (0, .ref r0), (1, vI a1), (2, vI a2)] [vI z1271] _ H1265 _
        have h1274 : CEN T H1265 ce e d := (CEN_fr w1246 gce f1270 rfl a1260)
        exact wp_ireturn e119 c119_19 rfl ⟨rfl, w1269, f1273, z1271, rfl, ⟨b1272.1, b1272.2⟩, (h1274)⟩
/-! StrikeAwake.ask()I  -/
abbrev uq_120 (r0 : Nat) (cu : Nat) (wa : Nat) (ce : Nat) (e : xD) (d : xD) (n : Int) (T : wq_T) (H : wq_H) : Option Value → wq_T → wq_H → Prop := fun r T' H' => T = T' ∧ WT T H' ∧ wfr [(20, 4), (12, 5), (12, 6), (12, 7), (12, 8), (12, 9), (1, 10), (6, 5), (8, 999), (10, 999), (15, 999), (22, 999), (9, 999), (18, 999), (23, 999), (19, 999), (21, 999), (7, 999), (11, 999), (24, 999), (17, 999), (13, 999)] T H H' ∧ ∃ z : Int, some (vI z) = r ∧ ((-2147483648) ≤ z ∧ z ≤ 2147483647) ∧ ((CEN T H' ce e d))
set_option maxHeartbeats 4000000 in
theorem u_120 {kt : Nat → Option mc_E} {T : wq_T} {H : wq_H} {r0 : Nat} {cu : Nat} {wa : Nat} {ce : Nat} {e : xD} {d : xD} {n : Int} (hW : WT T H) (g0 : T.2.2.2 r0 = some 1) (qcu : H r0 6 = (cu : Int)) (gcu : T.2.2.2 cu = some 27) (qwa : H r0 2 = (wa : Int)) (gwa : T.2.2.2 wa = some 6) (qce : H r0 3 = (ce : Int)) (gce : T.2.2.2 ce = some 12) (p0 : ∀ i, i ≠ 13 → e i = d i) (p1 : XW d) (p2 : e 0 3 = d 0 3) (p3 : e 0 0 = d 0 0) (p4 : H r0 8 = 0 ∨ n = xlots d) (p5 : H r0 8 ≠ 0 ∨ (d 0 3 = 0 ∧ d 0 0 = 0)) (hCU_cu : CU T H cu e d n) (hCEN_ce : CEN T H ce e d) (hHDR_ce : HDR T H ce ) : wpc kt 7 120 [.ref r0] T H (uq_120 r0 cu wa ce e d n T H) := by
  refine wp_enter e120 (Nat.le_of_ble_eq_true rfl) rfl ?_
  have f0 : wfr [(20, 4), (12, 5), (12, 6), (12, 7), (12, 8), (12, 9), (1, 10), (6, 5), (8, 999), (10, 999), (15, 999), (22, 999), (9, 999), (18, 999), (23, 999), (19, 999), (21, 999), (7, 999), (11, 999), (24, 999), (17, 999), (13, 999)] T H H := wfr.rf
  show wp _ _ 120 0 [(0, .ref r0)] [] _ H _
  have u1063 := CU_k hCU_cu
  have b1064 : 0 ≤ H r0 8 ∧ H r0 8 ≤ 1 := hW.box g0 (n := 13) rfl (by decide) rfl
  have _c7 : d 0 0 ≤ 24 := p1.2.1.2.1
  refine wp_of e120 c120_0 (rw_aload_n (pc' := 1) (v := .ref r0) rfl rfl rfl ?_)
  refine wp_of e120 c120_1 (rw_aload_n (pc' := 2) (v := .ref r0) rfl rfl rfl ?_)
  refine wp_of e120 c120_2 (xg_I (pc' := 5) lf_0_58 hW g0 sh_1 (by decide) (by decide) ty_1_8 rfl rfl (fun b1065 b1066 => ?_))
  refine wp_of e120 c120_5 (xc_V (pc' := 8) (r := r0) (as := [vI (H r0 8)]) (st := []) (lm_0_227) rfl rfl (Nat.le_of_ble_eq_true rfl) hW g0 sh_1 (by decide) rfl (by decide) (u_121 (e := e) (d := d) (n := n) hW g0 ⟨b1065, b1066⟩ qcu gcu qwa gwa qce gce (by assumption) (by assumption) (by omega) (by omega) (by omega) hCU_cu hCEN_ce hHDR_ce) (fun R1067 T1068 H1069 p1070 => ?_))
  obtain ⟨e1071, w1073, f1074, z1075, e1072, b1076, p1077⟩ := p1070
  subst e1071
  subst e1072
  rcases p1077 with ⟨a1078, a1079, a1080⟩ | ⟨a1081, a1082⟩
  · have f1083 := f0.tr f1074 rfl
    show wp _ _ 120 8 [(0, .ref r0)] [vI z1075] _ H1069 _
    refine wp_of e120 c120_8 (rw_istore_n (pc' := 9) (z := z1075) (L' := [(1, vI z1075), (0, .ref r0)]) rfl rfl rfl ?_)
    refine wp_of e120 c120_9 (rw_iload_n (pc' := 10) (z := z1075) rfl rfl ?_)
    refine wp_of e120 c120_10 (rw_if_eq (p1 := 19) (p2 := 13) (by decide) rfl ⟨Int.le_trans (by decide) b1076.1, Int.le_trans b1076.2 (by decide)⟩ (fun c1084 => ?_) (fun c1084 => ?_))
    · refine wp_of e120 c120_19 (rw_aload_n (pc' := 20) (v := .ref r0) rfl rfl rfl ?_)
      refine wp_of e120 c120_20 (rw_aload_n (pc' := 21) (v := .ref r0) rfl rfl rfl ?_)
      refine wp_of e120 c120_21 (xg_R (pc' := 24) lf_0_37 w1073 g0 sh_1 (by decide) (by decide) ty_1_4 rfl rfl (fun r1085 q1086 g1087 => ?_))
      refine wp_of e120 c120_24 (rw_aload_n (pc' := 25) (v := .ref r0) rfl rfl rfl ?_)
      have k1088 : H1069 r0 6 = H r0 6 := (f1074 r0 6 _ g0 rfl)
      have q1089 : H1069 r0 6 = (cu : Int) := k1088.trans qcu
      refine wp_of e120 c120_25 (xg_K (pc' := 28) lf_0_51 w1073 g0 sh_1 (by decide) (by decide) rfl q1089 rfl ?_)
      refine wp_of e120 c120_28 (rw_aload_n (pc' := 29) (v := .ref r0) rfl rfl rfl ?_)
      have k1090 : H1069 r0 3 = H r0 3 := (f1074 r0 3 _ g0 rfl)
      have q1091 : H1069 r0 3 = (ce : Int) := k1090.trans qce
      refine wp_of e120 c120_29 (xg_K (pc' := 32) lf_0_30 w1073 g0 sh_1 (by decide) (by decide) rfl q1091 rfl ?_)
      refine wp_of e120 c120_32 (xc_V (pc' := 35) (r := r1085) (as := [.ref cu, .ref ce]) (st := [.ref r0]) (lm_0_230) rfl rfl (Nat.le_of_ble_eq_true rfl) w1073 g1087 sh_20 (by decide) rfl (by decide) (s_122 w1073 g1087 gcu gce) (fun R1092 T1093 H1094 p1095 => ?_))
      obtain ⟨e1096, w1098, f1099, z1100, e1097, b1101⟩ := p1095
      subst e1096
      subst e1097
      have f1102 := f1083.tr f1099 rfl
      show wp _ _ 120 35 [(1, vI z1075), (0, .ref r0)] [vI z1100, .ref r0] _ H1094 _
      refine wp_of e120 c120_35 (xc_V (pc' := 38) (r := r0) (as := [vI z1100]) (st := []) (lm_0_99) rfl rfl (Nat.le_of_ble_eq_true rfl) w1098 g0 sh_1 (by decide) rfl (by decide) (s_51 w1098 g0 ⟨b1101.1, b1101.2⟩) (fun R1103 T1104 H1105 p1106 => ?_))
      obtain ⟨e1107, w1109, f1110, z1111, e1108, b1112⟩ := p1106
      subst e1107
      subst e1108
      have f1113 := f1102.tr f1110 rfl
      show wp _ _ 120 38 [(1, vI z1075), (0, .ref r0)] [vI z1111] _ H1105 _
      have h1114 : CEN T H1105 ce e d := (CEN_fr w1098 gce f1110 rfl (CEN_fr w1073 gce f1099 rfl a1080))
      exact wp_ireturn e120 c120_38 rfl ⟨rfl, w1109, f1113, z1111, rfl, ⟨b1112.1, b1112.2⟩, (h1114)⟩
    · exfalso
      omega
  · have f1115 := f0.tr f1074 rfl
    show wp _ _ 120 8 [(0, .ref r0)] [vI z1075] _ H1069 _
    refine wp_of e120 c120_8 (rw_istore_n (pc' := 9) (z := z1075) (L' := [(1, vI z1075), (0, .ref r0)]) rfl rfl rfl ?_)
    refine wp_of e120 c120_9 (rw_iload_n (pc' := 10) (z := z1075) rfl rfl ?_)
    refine wp_of e120 c120_10 (rw_if_eq (p1 := 19) (p2 := 13) (by decide) rfl ⟨Int.le_trans (by decide) b1076.1, Int.le_trans b1076.2 (by decide)⟩ (fun c1116 => ?_) (fun c1116 => ?_))
    · exfalso
      omega
    · refine wp_of e120 c120_13 (rw_aload_n (pc' := 14) (v := .ref r0) rfl rfl rfl ?_)
      refine wp_of e120 c120_14 (rw_iload_n (pc' := 15) (z := z1075) rfl rfl ?_)
      refine wp_of e120 c120_15 (xc_V (pc' := 18) (r := r0) (as := [vI z1075]) (st := []) (lm_0_70) rfl rfl (Nat.le_of_ble_eq_true rfl) w1073 g0 sh_1 (by decide) rfl (by decide) (s_12 w1073 g0 ⟨Int.le_trans (by decide) b1076.1, Int.le_trans b1076.2 (by decide)⟩) (fun R1117 T1118 H1119 p1120 => ?_))
      obtain ⟨e1121, w1123, f1124, z1125, e1122, b1126⟩ := p1120
      subst e1121
      subst e1122
      have f1127 := f1115.tr f1124 rfl
      show wp _ _ 120 18 [(1, vI z1075), (0, .ref r0)] [vI z1125] _ H1119 _
      have h1128 : CEN T H1119 ce e d := (CEN_fr w1073 gce f1124 rfl a1082)
      exact wp_ireturn e120 c120_18 rfl ⟨rfl, w1123, f1127, z1125, rfl, ⟨b1126.1, b1126.2⟩, (h1128)⟩
/-! StrikeAwake.askFor(I)I  -/
abbrev uq_130 (r0 : Nat) (a1 : Int) (cu : Nat) (wa : Nat) (ce : Nat) (e : xD) (d : xD) (n : Int) (T : wq_T) (H : wq_H) : Option Value → wq_T → wq_H → Prop := fun r T' H' => T = T' ∧ WT T H' ∧ wfr [(20, 4), (12, 5), (12, 6), (12, 7), (12, 8), (12, 9), (1, 10), (6, 5), (8, 999), (10, 999), (15, 999), (22, 999), (9, 999), (18, 999), (23, 999), (19, 999), (21, 999), (7, 999), (11, 999), (24, 999), (17, 999), (13, 999)] T H H' ∧ ∃ z : Int, some (vI z) = r ∧ ((-2147483648) ≤ z ∧ z ≤ 2147483647) ∧ ((CEN T H' ce e d))
set_option maxHeartbeats 4000000 in
theorem u_130 {kt : Nat → Option mc_E} {T : wq_T} {H : wq_H} {r0 : Nat} {a1 : Int} {cu : Nat} {wa : Nat} {ce : Nat} {e : xD} {d : xD} {n : Int} (hW : WT T H) (g0 : T.2.2.2 r0 = some 1) (i1 : (-2147483648) ≤ a1 ∧ a1 ≤ 2147483647) (qcu : H r0 6 = (cu : Int)) (gcu : T.2.2.2 cu = some 27) (qwa : H r0 2 = (wa : Int)) (gwa : T.2.2.2 wa = some 6) (qce : H r0 3 = (ce : Int)) (gce : T.2.2.2 ce = some 12) (p0 : ∀ i, i ≠ 13 → e i = d i) (p1 : XW d) (p2 : e 0 3 = d 0 3) (p3 : e 0 0 = d 0 0) (p4 : H r0 8 = 0 ∨ n = xlots d) (p5 : H r0 8 ≠ 0 ∨ (d 0 3 = 0 ∧ d 0 0 = 0)) (hCU_cu : CU T H cu e d n) (hCEN_ce : CEN T H ce e d) (hHDR_ce : HDR T H ce ) : wpc kt 7 130 [.ref r0, vI a1] T H (uq_130 r0 a1 cu wa ce e d n T H) := by
  refine wp_enter e130 (Nat.le_of_ble_eq_true rfl) rfl ?_
  have f0 : wfr [(20, 4), (12, 5), (12, 6), (12, 7), (12, 8), (12, 9), (1, 10), (6, 5), (8, 999), (10, 999), (15, 999), (22, 999), (9, 999), (18, 999), (23, 999), (19, 999), (21, 999), (7, 999), (11, 999), (24, 999), (17, 999), (13, 999)] T H H := wfr.rf
  show wp _ _ 130 0 [(0, .ref r0), (1, vI a1)] [] _ H _
  have u1135 := CU_k hCU_cu
  have b1136 : 0 ≤ H r0 8 ∧ H r0 8 ≤ 1 := hW.box g0 (n := 13) rfl (by decide) rfl
  have _c7 : d 0 0 ≤ 24 := p1.2.1.2.1
  refine wp_of e130 c130_0 (rw_aload_n (pc' := 1) (v := .ref r0) rfl rfl rfl ?_)
  refine wp_of e130 c130_1 (rw_aload_n (pc' := 2) (v := .ref r0) rfl rfl rfl ?_)
  refine wp_of e130 c130_2 (rw_iload_n (pc' := 3) (z := a1) rfl rfl ?_)
  refine wp_of e130 c130_3 (xc_V (pc' := 6) (r := r0) (as := [vI a1]) (st := [.ref r0]) (lm_0_132) rfl rfl (Nat.le_of_ble_eq_true rfl) hW g0 sh_1 (by decide) rfl (by decide) (u_60  hW g0 ⟨i1.1, i1.2⟩ qcu gcu) (fun R1137 T1138 H1139 p1140 => ?_))
  obtain ⟨e1141, e1143, z1144, e1142, b1145, p1146⟩ := p1140
  subst e1141
  subst e1142
  subst e1143
  rcases p1146 with ⟨a1147, a1148⟩ | ⟨a1149, a1150⟩
  · show wp _ _ 130 6 [(0, .ref r0), (1, vI a1)] [vI z1144, .ref r0] _ H _
    refine wp_of e130 c130_6 (xc_V (pc' := 9) (r := r0) (as := [vI z1144]) (st := []) (lm_0_227) rfl rfl (Nat.le_of_ble_eq_true rfl) hW g0 sh_1 (by decide) rfl (by decide) (u_121 (e := e) (d := d) (n := n) hW g0 ⟨b1145.1, b1145.2⟩ qcu gcu qwa gwa qce gce (by assumption) (by assumption) (by omega) (by omega) (by omega) hCU_cu hCEN_ce hHDR_ce) (fun R1151 T1152 H1153 p1154 => ?_))
    obtain ⟨e1155, w1157, f1158, z1159, e1156, b1160, p1161⟩ := p1154
    subst e1155
    subst e1156
    rcases p1161 with ⟨a1162, a1163, a1164⟩ | ⟨a1165, a1166⟩
    · have f1167 := f0.tr f1158 rfl
      show wp _ _ 130 9 [(0, .ref r0), (1, vI a1)] [vI z1159] _ H1153 _
      refine wp_of e130 c130_9 (rw_istore_n (pc' := 10) (z := z1159) (L' := [(2, vI z1159), (0, .ref r0), (1, vI a1)]) rfl rfl rfl ?_)
      refine wp_of e130 c130_10 (rw_iload_n (pc' := 11) (z := z1159) rfl rfl ?_)
      refine wp_of e130 c130_11 (rw_if_eq (p1 := 20) (p2 := 14) (by decide) rfl ⟨Int.le_trans (by decide) b1160.1, Int.le_trans b1160.2 (by decide)⟩ (fun c1168 => ?_) (fun c1168 => ?_))
      · refine wp_of e130 c130_20 (rw_aload_n (pc' := 21) (v := .ref r0) rfl rfl rfl ?_)
        refine wp_of e130 c130_21 (rw_aload_n (pc' := 22) (v := .ref r0) rfl rfl rfl ?_)
        refine wp_of e130 c130_22 (xg_R (pc' := 25) lf_0_37 w1157 g0 sh_1 (by decide) (by decide) ty_1_4 rfl rfl (fun r1169 q1170 g1171 => ?_))
        refine wp_of e130 c130_25 (rw_aload_n (pc' := 26) (v := .ref r0) rfl rfl rfl ?_)
        have k1172 : H1153 r0 6 = H r0 6 := (f1158 r0 6 _ g0 rfl)
        have q1173 : H1153 r0 6 = (cu : Int) := k1172.trans qcu
        refine wp_of e130 c130_26 (xg_K (pc' := 29) lf_0_51 w1157 g0 sh_1 (by decide) (by decide) rfl q1173 rfl ?_)
        refine wp_of e130 c130_29 (rw_aload_n (pc' := 30) (v := .ref r0) rfl rfl rfl ?_)
        have k1174 : H1153 r0 3 = H r0 3 := (f1158 r0 3 _ g0 rfl)
        have q1175 : H1153 r0 3 = (ce : Int) := k1174.trans qce
        refine wp_of e130 c130_30 (xg_K (pc' := 33) lf_0_30 w1157 g0 sh_1 (by decide) (by decide) rfl q1175 rfl ?_)
        refine wp_of e130 c130_33 (rw_iload_n (pc' := 34) (z := a1) rfl rfl ?_)
        refine wp_of e130 c130_34 (xc_V (pc' := 37) (r := r1169) (as := [.ref cu, .ref ce, vI a1]) (st := [.ref r0]) (lm_0_234) rfl rfl (Nat.le_of_ble_eq_true rfl) w1157 g1171 sh_20 (by decide) rfl (by decide) (s_131 w1157 g1171 gcu gce ⟨i1.1, i1.2⟩) (fun R1176 T1177 H1178 p1179 => ?_))
        obtain ⟨e1180, w1182, f1183, z1184, e1181, b1185⟩ := p1179
        subst e1180
        subst e1181
        have f1186 := f1167.tr f1183 rfl
        show wp _ _ 130 37 [(2, vI z1159), (0, .ref r0), (1, vI a1)] [vI z1184, .ref r0] _ H1178 _
        refine wp_of e130 c130_37 (xc_V (pc' := 40) (r := r0) (as := [vI z1184]) (st := []) (lm_0_99) rfl rfl (Nat.le_of_ble_eq_true rfl) w1182 g0 sh_1 (by decide) rfl (by decide) (s_51 w1182 g0 ⟨b1185.1, b1185.2⟩) (fun R1187 T1188 H1189 p1190 => ?_))
        obtain ⟨e1191, w1193, f1194, z1195, e1192, b1196⟩ := p1190
        subst e1191
        subst e1192
        have f1197 := f1186.tr f1194 rfl
        show wp _ _ 130 40 [(2, vI z1159), (0, .ref r0), (1, vI a1)] [vI z1195] _ H1189 _
        have h1198 : CEN T H1189 ce e d := (CEN_fr w1182 gce f1194 rfl (CEN_fr w1157 gce f1183 rfl a1164))
        exact wp_ireturn e130 c130_40 rfl ⟨rfl, w1193, f1197, z1195, rfl, ⟨b1196.1, b1196.2⟩, (h1198)⟩
      · exfalso
        omega
    · have f1199 := f0.tr f1158 rfl
      show wp _ _ 130 9 [(0, .ref r0), (1, vI a1)] [vI z1159] _ H1153 _
      refine wp_of e130 c130_9 (rw_istore_n (pc' := 10) (z := z1159) (L' := [(2, vI z1159), (0, .ref r0), (1, vI a1)]) rfl rfl rfl ?_)
      refine wp_of e130 c130_10 (rw_iload_n (pc' := 11) (z := z1159) rfl rfl ?_)
      refine wp_of e130 c130_11 (rw_if_eq (p1 := 20) (p2 := 14) (by decide) rfl ⟨Int.le_trans (by decide) b1160.1, Int.le_trans b1160.2 (by decide)⟩ (fun c1200 => ?_) (fun c1200 => ?_))
      · exfalso
        omega
      · refine wp_of e130 c130_14 (rw_aload_n (pc' := 15) (v := .ref r0) rfl rfl rfl ?_)
        refine wp_of e130 c130_15 (rw_iload_n (pc' := 16) (z := z1159) rfl rfl ?_)
        refine wp_of e130 c130_16 (xc_V (pc' := 19) (r := r0) (as := [vI z1159]) (st := []) (lm_0_70) rfl rfl (Nat.le_of_ble_eq_true rfl) w1157 g0 sh_1 (by decide) rfl (by decide) (s_12 w1157 g0 ⟨Int.le_trans (by decide) b1160.1, Int.le_trans b1160.2 (by decide)⟩) (fun R1201 T1202 H1203 p1204 => ?_))
        obtain ⟨e1205, w1207, f1208, z1209, e1206, b1210⟩ := p1204
        subst e1205
        subst e1206
        have f1211 := f1199.tr f1208 rfl
        show wp _ _ 130 19 [(2, vI z1159), (0, .ref r0), (1, vI a1)] [vI z1209] _ H1203 _
        have h1212 : CEN T H1203 ce e d := (CEN_fr w1157 gce f1208 rfl a1166)
        exact wp_ireturn e130 c130_19 rfl ⟨rfl, w1207, f1211, z1209, rfl, ⟨b1210.1, b1210.2⟩, (h1212)⟩
  · show wp _ _ 130 6 [(0, .ref r0), (1, vI a1)] [vI z1144, .ref r0] _ H _
    refine wp_of e130 c130_6 (xc_V (pc' := 9) (r := r0) (as := [vI z1144]) (st := []) (lm_0_227) rfl rfl (Nat.le_of_ble_eq_true rfl) hW g0 sh_1 (by decide) rfl (by decide) (u_121 (e := e) (d := d) (n := n) hW g0 ⟨b1145.1, b1145.2⟩ qcu gcu qwa gwa qce gce (by assumption) (by assumption) (by omega) (by omega) (by omega) hCU_cu hCEN_ce hHDR_ce) (fun R1213 T1214 H1215 p1216 => ?_))
    obtain ⟨e1217, w1219, f1220, z1221, e1218, b1222, p1223⟩ := p1216
    subst e1217
    subst e1218
    rcases p1223 with ⟨a1224, a1225, a1226⟩ | ⟨a1227, a1228⟩
    · exfalso
      omega
    · have f1229 := f0.tr f1220 rfl
      show wp _ _ 130 9 [(0, .ref r0), (1, vI a1)] [vI z1221] _ H1215 _
      refine wp_of e130 c130_9 (rw_istore_n (pc' := 10) (z := z1221) (L' := [(2, vI z1221), (0, .ref r0), (1, vI a1)]) rfl rfl rfl ?_)
      refine wp_of e130 c130_10 (rw_iload_n (pc' := 11) (z := z1221) rfl rfl ?_)
      refine wp_of e130 c130_11 (rw_if_eq (p1 := 20) (p2 := 14) (by decide) rfl ⟨Int.le_trans (by decide) b1222.1, Int.le_trans b1222.2 (by decide)⟩ (fun c1230 => ?_) (fun c1230 => ?_))
      · exfalso
        omega
      · refine wp_of e130 c130_14 (rw_aload_n (pc' := 15) (v := .ref r0) rfl rfl rfl ?_)
        refine wp_of e130 c130_15 (rw_iload_n (pc' := 16) (z := z1221) rfl rfl ?_)
        refine wp_of e130 c130_16 (xc_V (pc' := 19) (r := r0) (as := [vI z1221]) (st := []) (lm_0_70) rfl rfl (Nat.le_of_ble_eq_true rfl) w1219 g0 sh_1 (by decide) rfl (by decide) (s_12 w1219 g0 ⟨Int.le_trans (by decide) b1222.1, Int.le_trans b1222.2 (by decide)⟩) (fun R1231 T1232 H1233 p1234 => ?_))
        obtain ⟨e1235, w1237, f1238, z1239, e1236, b1240⟩ := p1234
        subst e1235
        subst e1236
        have f1241 := f1229.tr f1238 rfl
        show wp _ _ 130 19 [(2, vI z1221), (0, .ref r0), (1, vI a1)] [vI z1239] _ H1233 _
        have h1242 : CEN T H1233 ce e d := (CEN_fr w1219 gce f1238 rfl a1228)
        exact wp_ireturn e130 c130_19 rfl ⟨rfl, w1237, f1241, z1239, rfl, ⟨b1240.1, b1240.2⟩, (h1242)⟩
/-! StrikeAwake.lie(I)I  -/
abbrev uq_132 (r0 : Nat) (a1 : Int) (cu : Nat) (wa : Nat) (ce : Nat) (e : xD) (d : xD) (n : Int) (T : wq_T) (H : wq_H) : Option Value → wq_T → wq_H → Prop := fun r T' H' => T = T' ∧ WT T H' ∧ wfr [(12, 5), (12, 6), (12, 7), (12, 8), (12, 9), (1, 10), (6, 5), (8, 999), (10, 999), (15, 999), (9, 999), (18, 999), (19, 999), (7, 999), (11, 999), (17, 999), (13, 999)] T H H' ∧ ∃ z : Int, some (vI z) = r ∧ ((-2147483648) ≤ z ∧ z ≤ 2147483647) ∧ ((CEN T H' ce e d))
set_option maxHeartbeats 4000000 in
theorem u_132 {kt : Nat → Option mc_E} {T : wq_T} {H : wq_H} {r0 : Nat} {a1 : Int} {cu : Nat} {wa : Nat} {ce : Nat} {e : xD} {d : xD} {n : Int} (hW : WT T H) (g0 : T.2.2.2 r0 = some 1) (i1 : (-2147483648) ≤ a1 ∧ a1 ≤ 2147483647) (qcu : H r0 6 = (cu : Int)) (gcu : T.2.2.2 cu = some 27) (qwa : H r0 2 = (wa : Int)) (gwa : T.2.2.2 wa = some 6) (qce : H r0 3 = (ce : Int)) (gce : T.2.2.2 ce = some 12) (p0 : ∀ i, i ≠ 13 → e i = d i) (p1 : XW d) (p2 : e 0 3 = d 0 3) (p3 : e 0 0 = d 0 0) (p4 : H r0 8 = 0 ∨ n = xlots d) (p5 : H r0 8 ≠ 0 ∨ (d 0 3 = 0 ∧ d 0 0 = 0)) (hCU_cu : CU T H cu e d n) (hCEN_ce : CEN T H ce e d) (hHDR_ce : HDR T H ce ) : wpc kt 6 132 [.ref r0, vI a1] T H (uq_132 r0 a1 cu wa ce e d n T H) := by
  refine wp_enter e132 (Nat.le_of_ble_eq_true rfl) rfl ?_
  have f0 : wfr [(12, 5), (12, 6), (12, 7), (12, 8), (12, 9), (1, 10), (6, 5), (8, 999), (10, 999), (15, 999), (9, 999), (18, 999), (19, 999), (7, 999), (11, 999), (17, 999), (13, 999)] T H H := wfr.rf
  show wp _ _ 132 0 [(0, .ref r0), (1, vI a1)] [] _ H _
  have u1157 := CU_k hCU_cu
  have b1158 : 0 ≤ H r0 8 ∧ H r0 8 ≤ 1 := hW.box g0 (n := 13) rfl (by decide) rfl
  have _c7 : d 0 0 ≤ 24 := p1.2.1.2.1
  have _xc := p1.2.1
  unfold XC at _xc
  have _e6 : e 0 6 = d 0 6 := by rw [p0 0 (by decide)]
  have _t6 : d 0 3 ≤ 0 → d 0 6 ≤ 0 := fun q => by
    by_cases c : 0 < d 0 6
    · have h := p1.2.2.2.2.2.1 0 c
      unfold xwB at h
      omega
    · omega
  refine wp_of e132 c132_0 (rw_aload_n (pc' := 1) (v := .ref r0) rfl rfl rfl ?_)
  refine wp_of e132 c132_1 (rw_aload_n (pc' := 2) (v := .ref r0) rfl rfl rfl ?_)
  refine wp_of e132 c132_2 (rw_iload_n (pc' := 3) (z := a1) rfl rfl ?_)
  refine wp_of e132 c132_3 (xc_V (pc' := 6) (r := r0) (as := [vI a1]) (st := [.ref r0]) (lm_0_238) rfl rfl (Nat.le_of_ble_eq_true rfl) hW g0 sh_1 (by decide) rfl (by decide) (u_133  hW g0 ⟨i1.1, i1.2⟩ qcu gcu) (fun R1159 T1160 H1161 p1162 => ?_))
  obtain ⟨e1163, e1165, z1166, e1164, b1167, p1168⟩ := p1162
  subst e1163
  subst e1164
  subst e1165
  rcases p1168 with ⟨a1169, a1170⟩ | ⟨a1171, a1172⟩
  · show wp _ _ 132 6 [(0, .ref r0), (1, vI a1)] [vI z1166, .ref r0] _ H _
    refine wp_of e132 c132_6 (xc_V (pc' := 9) (r := r0) (as := [vI z1166]) (st := []) (lm_0_174) rfl rfl (Nat.le_of_ble_eq_true rfl) hW g0 sh_1 (by decide) rfl (by decide) (u_83 (e := e) (d := d) (n := n) hW g0 ⟨b1167.1, b1167.2⟩ qcu gcu qwa gwa qce gce (by assumption) (by assumption) (by omega) (by omega) (by omega) hCU_cu hCEN_ce hHDR_ce) (fun R1173 T1174 H1175 p1176 => ?_))
    obtain ⟨e1177, w1179, f1180, z1181, e1178, b1182, p1183⟩ := p1176
    subst e1177
    subst e1178
    rcases p1183 with ⟨a1184, a1185, a1186, a1187, a1188, a1189⟩ | ⟨a1190, a1191, a1192⟩
    · have f1193 := f0.tr f1180 rfl
      show wp _ _ 132 9 [(0, .ref r0), (1, vI a1)] [vI z1181] _ H1175 _
      refine wp_of e132 c132_9 (rw_istore_n (pc' := 10) (z := z1181) (L' := [(2, vI z1181), (0, .ref r0), (1, vI a1)]) rfl rfl rfl ?_)
      refine wp_of e132 c132_10 (rw_iload_n (pc' := 11) (z := z1181) rfl rfl ?_)
      refine wp_of e132 c132_11 (rw_if_eq (p1 := 20) (p2 := 14) (by decide) rfl ⟨Int.le_trans (by decide) b1182.1, Int.le_trans b1182.2 (by decide)⟩ (fun c1194 => ?_) (fun c1194 => ?_))
      · refine wp_of e132 c132_20 (rw_aload_n (pc' := 21) (v := .ref r0) rfl rfl rfl ?_)
        refine wp_of e132 c132_21 (rw_aload_n (pc' := 22) (v := .ref r0) rfl rfl rfl ?_)
        have k1195 : H1175 r0 3 = H r0 3 := (f1180 r0 3 _ g0 rfl)
        have q1196 : H1175 r0 3 = (ce : Int) := k1195.trans qce
        refine wp_of e132 c132_22 (xg_K (pc' := 25) lf_0_30 w1179 g0 sh_1 (by decide) (by decide) rfl q1196 rfl ?_)
        refine wp_of e132 c132_25 (rw_aload_n (pc' := 26) (v := .ref r0) rfl rfl rfl ?_)
        have k1197 : H1175 r0 6 = H r0 6 := (f1180 r0 6 _ g0 rfl)
        have q1198 : H1175 r0 6 = (cu : Int) := k1197.trans qcu
        refine wp_of e132 c132_26 (xg_K (pc' := 29) lf_0_51 w1179 g0 sh_1 (by decide) (by decide) rfl q1198 rfl ?_)
        refine wp_of e132 c132_29 (rw_iload_n (pc' := 30) (z := a1) rfl rfl ?_)
        refine wp_of e132 c132_30 (xc_V (pc' := 33) (r := ce) (as := [.ref cu, vI a1]) (st := [.ref r0]) (lm_0_241) rfl rfl (Nat.le_of_ble_eq_true rfl) w1179 gce sh_12 (by decide) rfl (by decide) (s_134 w1179 gce gcu ⟨by omega, by omega⟩) (fun R1199 T1200 H1201 p1202 => ?_))
        obtain ⟨e1203, e1205, z1206, e1204, b1207⟩ := p1202
        subst e1203
        subst e1204
        subst e1205
        show wp _ _ 132 33 [(2, vI z1181), (0, .ref r0), (1, vI a1)] [vI z1206, .ref r0] _ H1175 _
        refine wp_of e132 c132_33 (rw_if_eq (p1 := 40) (p2 := 36) (by decide) rfl ⟨Int.le_trans (by decide) b1207.1, Int.le_trans b1207.2 (by decide)⟩ (fun c1208 => ?_) (fun c1208 => ?_))
        · refine wp_of e132 c132_40 (rw_iconst (pc' := 41) rfl ?_)
          refine wp_of e132 c132_41 (xc_V (pc' := 44) (r := r0) (as := [vI 1]) (st := []) (lm_0_99) rfl rfl (Nat.le_of_ble_eq_true rfl) w1179 g0 sh_1 (by decide) rfl (by decide) (s_51 w1179 g0 ⟨by decide, by decide⟩) (fun R1209 T1210 H1211 p1212 => ?_))
          obtain ⟨e1213, w1215, f1216, z1217, e1214, b1218⟩ := p1212
          subst e1213
          subst e1214
          have f1219 := f1193.tr f1216 rfl
          show wp _ _ 132 44 [(2, vI z1181), (0, .ref r0), (1, vI a1)] [vI z1217] _ H1211 _
          have h1220 : CEN T H1211 ce e d := (CEN_fr w1179 gce f1216 rfl a1187)
          exact wp_ireturn e132 c132_44 rfl ⟨rfl, w1215, f1219, z1217, rfl, ⟨b1218.1, b1218.2⟩, (h1220)⟩
        · refine wp_of e132 c132_36 (rw_iconst (pc' := 37) rfl ?_)
          refine wp_of e132 c132_37 (rw_goto (p1 := 41) (by decide) ?_)
          refine wp_of e132 c132_41 (xc_V (pc' := 44) (r := r0) (as := [vI 0]) (st := []) (lm_0_99) rfl rfl (Nat.le_of_ble_eq_true rfl) w1179 g0 sh_1 (by decide) rfl (by decide) (s_51 w1179 g0 ⟨by decide, by decide⟩) (fun R1221 T1222 H1223 p1224 => ?_))
          obtain ⟨e1225, w1227, f1228, z1229, e1226, b1230⟩ := p1224
          subst e1225
          subst e1226
          have f1231 := f1193.tr f1228 rfl
          show wp _ _ 132 44 [(2, vI z1181), (0, .ref r0), (1, vI a1)] [vI z1229] _ H1223 _
          have h1232 : CEN T H1223 ce e d := (CEN_fr w1179 gce f1228 rfl a1187)
          exact wp_ireturn e132 c132_44 rfl ⟨rfl, w1227, f1231, z1229, rfl, ⟨b1230.1, b1230.2⟩, (h1232)⟩
      · exfalso
        omega
    · have f1233 := f0.tr f1180 rfl
      show wp _ _ 132 9 [(0, .ref r0), (1, vI a1)] [vI z1181] _ H1175 _
      refine wp_of e132 c132_9 (rw_istore_n (pc' := 10) (z := z1181) (L' := [(2, vI z1181), (0, .ref r0), (1, vI a1)]) rfl rfl rfl ?_)
      refine wp_of e132 c132_10 (rw_iload_n (pc' := 11) (z := z1181) rfl rfl ?_)
      refine wp_of e132 c132_11 (rw_if_eq (p1 := 20) (p2 := 14) (by decide) rfl ⟨Int.le_trans (by decide) b1182.1, Int.le_trans b1182.2 (by decide)⟩ (fun c1234 => ?_) (fun c1234 => ?_))
      · exfalso
        omega
      · refine wp_of e132 c132_14 (rw_aload_n (pc' := 15) (v := .ref r0) rfl rfl rfl ?_)
        refine wp_of e132 c132_15 (rw_iload_n (pc' := 16) (z := z1181) rfl rfl ?_)
        refine wp_of e132 c132_16 (xc_V (pc' := 19) (r := r0) (as := [vI z1181]) (st := []) (lm_0_70) rfl rfl (Nat.le_of_ble_eq_true rfl) w1179 g0 sh_1 (by decide) rfl (by decide) (s_12 w1179 g0 ⟨Int.le_trans (by decide) b1182.1, Int.le_trans b1182.2 (by decide)⟩) (fun R1235 T1236 H1237 p1238 => ?_))
        obtain ⟨e1239, w1241, f1242, z1243, e1240, b1244⟩ := p1238
        subst e1239
        subst e1240
        have f1245 := f1233.tr f1242 rfl
        show wp _ _ 132 19 [(2, vI z1181), (0, .ref r0), (1, vI a1)] [vI z1243] _ H1237 _
        have h1246 : CEN T H1237 ce e d := (CEN_fr w1179 gce f1242 rfl a1192)
        exact wp_ireturn e132 c132_19 rfl ⟨rfl, w1241, f1245, z1243, rfl, ⟨b1244.1, b1244.2⟩, (h1246)⟩
  · show wp _ _ 132 6 [(0, .ref r0), (1, vI a1)] [vI z1166, .ref r0] _ H _
    refine wp_of e132 c132_6 (xc_V (pc' := 9) (r := r0) (as := [vI z1166]) (st := []) (lm_0_174) rfl rfl (Nat.le_of_ble_eq_true rfl) hW g0 sh_1 (by decide) rfl (by decide) (u_83 (e := e) (d := d) (n := n) hW g0 ⟨b1167.1, b1167.2⟩ qcu gcu qwa gwa qce gce (by assumption) (by assumption) (by omega) (by omega) (by omega) hCU_cu hCEN_ce hHDR_ce) (fun R1247 T1248 H1249 p1250 => ?_))
    obtain ⟨e1251, w1253, f1254, z1255, e1252, b1256, p1257⟩ := p1250
    subst e1251
    subst e1252
    rcases p1257 with ⟨a1258, a1259, a1260, a1261, a1262, a1263⟩ | ⟨a1264, a1265, a1266⟩
    · exfalso
      omega
    · have f1267 := f0.tr f1254 rfl
      show wp _ _ 132 9 [(0, .ref r0), (1, vI a1)] [vI z1255] _ H1249 _
      refine wp_of e132 c132_9 (rw_istore_n (pc' := 10) (z := z1255) (L' := [(2, vI z1255), (0, .ref r0), (1, vI a1)]) rfl rfl rfl ?_)
      refine wp_of e132 c132_10 (rw_iload_n (pc' := 11) (z := z1255) rfl rfl ?_)
      refine wp_of e132 c132_11 (rw_if_eq (p1 := 20) (p2 := 14) (by decide) rfl ⟨Int.le_trans (by decide) b1256.1, Int.le_trans b1256.2 (by decide)⟩ (fun c1268 => ?_) (fun c1268 => ?_))
      · exfalso
        omega
      · refine wp_of e132 c132_14 (rw_aload_n (pc' := 15) (v := .ref r0) rfl rfl rfl ?_)
        refine wp_of e132 c132_15 (rw_iload_n (pc' := 16) (z := z1255) rfl rfl ?_)
        refine wp_of e132 c132_16 (xc_V (pc' := 19) (r := r0) (as := [vI z1255]) (st := []) (lm_0_70) rfl rfl (Nat.le_of_ble_eq_true rfl) w1253 g0 sh_1 (by decide) rfl (by decide) (s_12 w1253 g0 ⟨Int.le_trans (by decide) b1256.1, Int.le_trans b1256.2 (by decide)⟩) (fun R1269 T1270 H1271 p1272 => ?_))
        obtain ⟨e1273, w1275, f1276, z1277, e1274, b1278⟩ := p1272
        subst e1273
        subst e1274
        have f1279 := f1267.tr f1276 rfl
        show wp _ _ 132 19 [(2, vI z1255), (0, .ref r0), (1, vI a1)] [vI z1277] _ H1271 _
        have h1280 : CEN T H1271 ce e d := (CEN_fr w1253 gce f1276 rfl a1266)
        exact wp_ireturn e132 c132_19 rfl ⟨rfl, w1275, f1279, z1277, rfl, ⟨b1278.1, b1278.2⟩, (h1280)⟩
/-! StrikeAwake.bars(I)I  -/
abbrev uq_135 (r0 : Nat) (a1 : Int) (cu : Nat) (wa : Nat) (ce : Nat) (e : xD) (d : xD) (n : Int) (T : wq_T) (H : wq_H) : Option Value → wq_T → wq_H → Prop := fun r T' H' => T = T' ∧ WT T H' ∧ wfr [(1, 10), (6, 5), (8, 999), (10, 999), (9, 999), (7, 999), (11, 999)] T H H' ∧ ∃ z : Int, some (vI z) = r ∧ ((-2147483648) ≤ z ∧ z ≤ 2147483647) ∧ ((CEN T H' ce e d))
set_option maxHeartbeats 4000000 in
theorem u_135 {kt : Nat → Option mc_E} {T : wq_T} {H : wq_H} {r0 : Nat} {a1 : Int} {cu : Nat} {wa : Nat} {ce : Nat} {e : xD} {d : xD} {n : Int} (hW : WT T H) (g0 : T.2.2.2 r0 = some 1) (i1 : (-2147483648) ≤ a1 ∧ a1 ≤ 2147483647) (qcu : H r0 6 = (cu : Int)) (gcu : T.2.2.2 cu = some 27) (qwa : H r0 2 = (wa : Int)) (gwa : T.2.2.2 wa = some 6) (qce : H r0 3 = (ce : Int)) (gce : T.2.2.2 ce = some 12) (p0 : ∀ i, i ≠ 13 → e i = d i) (p1 : XW d) (p2 : e 0 3 = d 0 3) (p3 : e 0 0 = d 0 0) (p4 : H r0 8 = 0 ∨ n = xlots d) (p5 : H r0 8 ≠ 0 ∨ (d 0 3 = 0 ∧ d 0 0 = 0)) (hCU_cu : CU T H cu e d n) (hCEN_ce : CEN T H ce e d) (hHDR_ce : HDR T H ce ) : wpc kt 5 135 [.ref r0, vI a1] T H (uq_135 r0 a1 cu wa ce e d n T H) := by
  refine wp_enter e135 (Nat.le_of_ble_eq_true rfl) rfl ?_
  have f0 : wfr [(1, 10), (6, 5), (8, 999), (10, 999), (9, 999), (7, 999), (11, 999)] T H H := wfr.rf
  show wp _ _ 135 0 [(0, .ref r0), (1, vI a1)] [] _ H _
  have u1064 := CU_k hCU_cu
  have b1065 : 0 ≤ H r0 8 ∧ H r0 8 ≤ 1 := hW.box g0 (n := 13) rfl (by decide) rfl
  have _c7 : d 0 0 ≤ 24 := p1.2.1.2.1
  refine wp_of e135 c135_0 (rw_aload_n (pc' := 1) (v := .ref r0) rfl rfl rfl ?_)
  refine wp_of e135 c135_1 (rw_aload_n (pc' := 2) (v := .ref r0) rfl rfl rfl ?_)
  refine wp_of e135 c135_2 (rw_iload_n (pc' := 3) (z := a1) rfl rfl ?_)
  refine wp_of e135 c135_3 (xc_V (pc' := 6) (r := r0) (as := [vI a1]) (st := [.ref r0]) (lm_0_238) rfl rfl (Nat.le_of_ble_eq_true rfl) hW g0 sh_1 (by decide) rfl (by decide) (s_133 hW g0 ⟨i1.1, i1.2⟩) (fun R1066 T1067 H1068 p1069 => ?_))
  obtain ⟨e1070, e1072, z1074, e1071, b1075, p1073⟩ := p1069
  subst e1070
  subst e1071
  subst e1072
  show wp _ _ 135 6 [(0, .ref r0), (1, vI a1)] [vI z1074, .ref r0] _ H _
  refine wp_of e135 c135_6 (xc_V (pc' := 9) (r := r0) (as := [vI z1074]) (st := []) (lm_0_245) rfl rfl (Nat.le_of_ble_eq_true rfl) hW g0 sh_1 (by decide) rfl (by decide) (u_84 (e := e) (d := d) (n := n) hW g0 ⟨b1075.1, b1075.2⟩ qcu gcu hCU_cu) (fun R1076 T1077 H1078 p1079 => ?_))
  obtain ⟨e1080, e1082, z1083, e1081, b1084, p1085⟩ := p1079
  subst e1080
  subst e1081
  subst e1082
  rcases p1085 with ⟨a1086, a1087, a1088⟩ | ⟨a1089, a1090⟩
  · show wp _ _ 135 9 [(0, .ref r0), (1, vI a1)] [vI z1083] _ H _
    refine wp_of e135 c135_9 (rw_istore_n (pc' := 10) (z := z1083) (L' := [(2, vI z1083), (0, .ref r0), (1, vI a1)]) rfl rfl rfl ?_)
    refine wp_of e135 c135_10 (rw_iload_n (pc' := 11) (z := z1083) rfl rfl ?_)
    refine wp_of e135 c135_11 (rw_if_eq (p1 := 20) (p2 := 14) (by decide) rfl ⟨Int.le_trans (by decide) b1084.1, Int.le_trans b1084.2 (by decide)⟩ (fun c1091 => ?_) (fun c1091 => ?_))
    · refine wp_of e135 c135_20 (rw_aload_n (pc' := 21) (v := .ref r0) rfl rfl rfl ?_)
      refine wp_of e135 c135_21 (rw_aload_n (pc' := 22) (v := .ref r0) rfl rfl rfl ?_)
      refine wp_of e135 c135_22 (xg_R (pc' := 25) lf_0_44 hW g0 sh_1 (by decide) (by decide) ty_1_5 rfl rfl (fun r1092 q1093 g1094 => ?_))
      refine wp_of e135 c135_25 (rw_aload_n (pc' := 26) (v := .ref r0) rfl rfl rfl ?_)
      refine wp_of e135 c135_26 (xg_K (pc' := 29) lf_0_51 hW g0 sh_1 (by decide) (by decide) rfl qcu rfl ?_)
      refine wp_of e135 c135_29 (rw_aload_n (pc' := 30) (v := .ref r0) rfl rfl rfl ?_)
      refine wp_of e135 c135_30 (xg_K (pc' := 33) lf_0_23 hW g0 sh_1 (by decide) (by decide) rfl qwa rfl ?_)
      refine wp_of e135 c135_33 (rw_iload_n (pc' := 34) (z := a1) rfl rfl ?_)
      refine wp_of e135 c135_34 (xc_V (pc' := 37) (r := r1092) (as := [.ref cu, .ref wa, vI a1]) (st := [.ref r0]) (lm_0_248) rfl rfl (Nat.le_of_ble_eq_true rfl) hW g1094 sh_25 (by decide) rfl (by decide) (s_136 hW g1094 gcu gwa ⟨by omega, by omega⟩) (fun R1095 T1096 H1097 p1098 => ?_))
      obtain ⟨e1099, w1101, f1102, z1103, e1100, b1104⟩ := p1098
      subst e1099
      subst e1100
      have f1105 := f0.tr f1102 rfl
      show wp _ _ 135 37 [(2, vI z1083), (0, .ref r0), (1, vI a1)] [vI z1103, .ref r0] _ H1097 _
      refine wp_of e135 c135_37 (xc_V (pc' := 40) (r := r0) (as := [vI z1103]) (st := []) (lm_0_99) rfl rfl (Nat.le_of_ble_eq_true rfl) w1101 g0 sh_1 (by decide) rfl (by decide) (s_51 w1101 g0 ⟨b1104.1, b1104.2⟩) (fun R1106 T1107 H1108 p1109 => ?_))
      obtain ⟨e1110, w1112, f1113, z1114, e1111, b1115⟩ := p1109
      subst e1110
      subst e1111
      have f1116 := f1105.tr f1113 rfl
      show wp _ _ 135 40 [(2, vI z1083), (0, .ref r0), (1, vI a1)] [vI z1114] _ H1108 _
      have h1117 : CEN T H1108 ce e d := (CEN_fr w1101 gce f1113 rfl (CEN_fr hW gce f1102 rfl hCEN_ce))
      exact wp_ireturn e135 c135_40 rfl ⟨rfl, w1112, f1116, z1114, rfl, ⟨b1115.1, b1115.2⟩, (h1117)⟩
    · exfalso
      omega
  · show wp _ _ 135 9 [(0, .ref r0), (1, vI a1)] [vI z1083] _ H _
    refine wp_of e135 c135_9 (rw_istore_n (pc' := 10) (z := z1083) (L' := [(2, vI z1083), (0, .ref r0), (1, vI a1)]) rfl rfl rfl ?_)
    refine wp_of e135 c135_10 (rw_iload_n (pc' := 11) (z := z1083) rfl rfl ?_)
    refine wp_of e135 c135_11 (rw_if_eq (p1 := 20) (p2 := 14) (by decide) rfl ⟨Int.le_trans (by decide) b1084.1, Int.le_trans b1084.2 (by decide)⟩ (fun c1118 => ?_) (fun c1118 => ?_))
    · exfalso
      omega
    · refine wp_of e135 c135_14 (rw_aload_n (pc' := 15) (v := .ref r0) rfl rfl rfl ?_)
      refine wp_of e135 c135_15 (rw_iload_n (pc' := 16) (z := z1083) rfl rfl ?_)
      refine wp_of e135 c135_16 (xc_V (pc' := 19) (r := r0) (as := [vI z1083]) (st := []) (lm_0_70) rfl rfl (Nat.le_of_ble_eq_true rfl) hW g0 sh_1 (by decide) rfl (by decide) (s_12 hW g0 ⟨Int.le_trans (by decide) b1084.1, Int.le_trans b1084.2 (by decide)⟩) (fun R1119 T1120 H1121 p1122 => ?_))
      obtain ⟨e1123, w1125, f1126, z1127, e1124, b1128⟩ := p1122
      subst e1123
      subst e1124
      have f1129 := f0.tr f1126 rfl
      show wp _ _ 135 19 [(2, vI z1083), (0, .ref r0), (1, vI a1)] [vI z1127] _ H1121 _
      have h1130 : CEN T H1121 ce e d := (CEN_fr hW gce f1126 rfl hCEN_ce)
      exact wp_ireturn e135 c135_19 rfl ⟨rfl, w1125, f1129, z1127, rfl, ⟨b1128.1, b1128.2⟩, (h1130)⟩
/-! StrikeAwake.proof()I  -/
abbrev uq_137 (r0 : Nat) (cu : Nat) (wa : Nat) (ce : Nat) (gr : Nat) (e : xD) (d : xD) (n : Int) (T : wq_T) (H : wq_H) : Option Value → wq_T → wq_H → Prop := fun r T' H' => T = T' ∧ WT T H' ∧ wfr [(12, 5), (12, 6), (12, 7), (12, 8), (12, 9), (25, 1), (25, 2), (1, 10), (6, 5), (8, 999), (10, 999), (26, 999), (15, 999), (9, 999), (18, 999), (19, 999), (7, 999), (11, 999), (17, 999), (13, 999)] T H H' ∧ ∃ z : Int, some (vI z) = r ∧ ((-2147483648) ≤ z ∧ z ≤ 2147483647) ∧ (((z = -1) ∧ (H r0 8 = 0 ∨ 5000 < n ∨ 0 < xcn (xwf e d) (xlots d).toNat) ∧ CEN T H' ce e d) ∨ ((-2 ≤ z ∧ z ≤ 16777215) ∧ (H r0 8 ≠ 0 ∧ n ≤ 5000 ∧ xcn (xwf e d) (xlots d).toNat ≤ 0) ∧ (XPF (e 13) (XPV e d (xlots d).toNat) z) ∧ CEN T H' ce e d))
set_option maxHeartbeats 4000000 in
theorem u_137 {kt : Nat → Option mc_E} {T : wq_T} {H : wq_H} {r0 : Nat} {cu : Nat} {wa : Nat} {ce : Nat} {gr : Nat} {e : xD} {d : xD} {n : Int} (hW : WT T H) (g0 : T.2.2.2 r0 = some 1) (qcu : H r0 6 = (cu : Int)) (gcu : T.2.2.2 cu = some 27) (qwa : H r0 2 = (wa : Int)) (gwa : T.2.2.2 wa = some 6) (qce : H r0 3 = (ce : Int)) (gce : T.2.2.2 ce = some 12) (qgr : H r0 5 = (gr : Int)) (ggr : T.2.2.2 gr = some 25) (p0 : ∀ i, i ≠ 13 → e i = d i) (p1 : XW d) (p2 : e 0 3 = d 0 3) (p3 : e 0 0 = d 0 0) (p4 : H r0 8 = 0 ∨ n = xlots d) (p5 : H r0 8 ≠ 0 ∨ (d 0 3 = 0 ∧ d 0 0 = 0)) (hCU_cu : CU T H cu e d n) (hCEN_ce : CEN T H ce e d) (hHDR_ce : HDR T H ce ) : wpc kt 6 137 [.ref r0] T H (uq_137 r0 cu wa ce gr e d n T H) := by
  refine wp_enter e137 (Nat.le_of_ble_eq_true rfl) rfl ?_
  have f0 : wfr [(12, 5), (12, 6), (12, 7), (12, 8), (12, 9), (25, 1), (25, 2), (1, 10), (6, 5), (8, 999), (10, 999), (26, 999), (15, 999), (9, 999), (18, 999), (19, 999), (7, 999), (11, 999), (17, 999), (13, 999)] T H H := wfr.rf
  show wp _ _ 137 0 [(0, .ref r0)] [] _ H _
  have u1103 := CU_k hCU_cu
  have b1104 : 0 ≤ H r0 8 ∧ H r0 8 ≤ 1 := hW.box g0 (n := 13) rfl (by decide) rfl
  have _c7 : d 0 0 ≤ 24 := p1.2.1.2.1
  have _x0 : 0 ≤ xlots d := (xpr_b hCU_cu.2.1.1 _ _).1
  refine wp_of e137 c137_0 (rw_aload_n (pc' := 1) (v := .ref r0) rfl rfl rfl ?_)
  refine wp_of e137 c137_1 (xg_I (pc' := 4) lf_0_58 hW g0 sh_1 (by decide) (by decide) ty_1_8 rfl rfl (fun b1105 b1106 => ?_))
  refine wp_of e137 c137_4 (rw_if_ne (p1 := 13) (p2 := 7) (by decide) rfl ⟨Int.le_trans (by decide) b1105, Int.le_trans b1106 (by decide)⟩ (fun c1107 => ?_) (fun c1107 => ?_))
  · refine wp_of e137 c137_13 (rw_aload_n (pc' := 14) (v := .ref r0) rfl rfl rfl ?_)
    refine wp_of e137 c137_14 (xg_K (pc' := 17) lf_0_51 hW g0 sh_1 (by decide) (by decide) rfl qcu rfl ?_)
    refine wp_of e137 c137_17 (xg_L (pc' := 20) lf_0_141 hW gcu sh_27 (by decide) (by decide) ty_27_18 rfl rfl (fun b1108 b1109 => ?_))
    refine wp_of e137 c137_20 (rw_ldc2 (pc' := 23) (z := 5000) rfl rfl rfl ?_)
    refine wp_of e137 c137_23 (rw_lcmp (pc' := 24) rfl ⟨b1108, b1109⟩ ⟨by decide, by decide⟩ ?_)
    have b1110 := wq_cmp_b (H cu 18) 5000
    refine wp_of e137 c137_24 (rw_if_le (p1 := 33) (p2 := 27) (by decide) rfl ⟨by omega, by omega⟩ (fun c1111 => ?_) (fun c1111 => ?_))
    · refine wp_of e137 c137_33 (rw_aload_n (pc' := 34) (v := .ref r0) rfl rfl rfl ?_)
      refine wp_of e137 c137_34 (xg_K (pc' := 37) lf_0_30 hW g0 sh_1 (by decide) (by decide) rfl qce rfl ?_)
      refine wp_of e137 c137_37 (rw_aload_n (pc' := 38) (v := .ref r0) rfl rfl rfl ?_)
      refine wp_of e137 c137_38 (xg_K (pc' := 41) lf_0_51 hW g0 sh_1 (by decide) (by decide) rfl qcu rfl ?_)
      refine wp_of e137 c137_41 (rw_aload_n (pc' := 42) (v := .ref r0) rfl rfl rfl ?_)
      refine wp_of e137 c137_42 (xg_K (pc' := 45) lf_0_23 hW g0 sh_1 (by decide) (by decide) rfl qwa rfl ?_)
      refine wp_of e137 c137_45 (xc_V (pc' := 48) (r := ce) (as := [.ref cu, .ref wa]) (st := []) (lm_0_254) rfl rfl (Nat.le_of_ble_eq_true rfl) hW gce sh_12 (by decide) rfl (by decide) (u_85 (e := e) (d := d) (n := n) hW gce gcu gwa (by assumption) (by assumption) (by omega) (by omega) (by omega) (by omega) hCU_cu hCEN_ce hHDR_ce) (fun R1112 T1113 H1114 p1115 => ?_))
      obtain ⟨e1116, w1118, f1119, e1117, p1120⟩ := p1115
      subst e1116
      subst e1117
      obtain ⟨a1121, a1122, a1123, a1124⟩ := p1120
      have f1125 := f0.tr f1119 rfl
      show wp _ _ 137 48 [(0, .ref r0)] [] _ H1114 _
      refine wp_of e137 c137_48 (rw_aload_n (pc' := 49) (v := .ref r0) rfl rfl rfl ?_)
      have _cbb := a1122
      have _cb := _cbb.1
      have _cb6 := _cbb.2.1
      have _cb8 := _cbb.2.2.1
      have _cb7 := _cbb.2.2.2.1
      have h1126 : CEM T H1114 ce (xwf e d) (xlots d).toNat := _cbb.2.2.2.2
      have k1127 : H1114 r0 3 = H r0 3 := (f1119 r0 3 _ g0 rfl)
      have q1128 : H1114 r0 3 = (ce : Int) := k1127.trans qce
      refine wp_of e137 c137_49 (xg_K (pc' := 52) lf_0_30 w1118 g0 sh_1 (by decide) (by decide) rfl q1128 rfl ?_)
      refine wp_of e137 c137_52 (xg_I (pc' := 55) lf_0_177 w1118 gce sh_12 (by decide) (by decide) ty_12_5 rfl rfl (fun b1129 b1130 => ?_))
      refine wp_of e137 c137_55 (rw_if_le (p1 := 64) (p2 := 58) (by decide) rfl ⟨b1129, b1130⟩ (fun c1131 => ?_) (fun c1131 => ?_))
      · refine wp_of e137 c137_64 (rw_aload_n (pc' := 65) (v := .ref r0) rfl rfl rfl ?_)
        refine wp_of e137 c137_65 (rw_aload_n (pc' := 66) (v := .ref r0) rfl rfl rfl ?_)
        have k1132 : H1114 r0 5 = H r0 5 := (f1119 r0 5 _ g0 rfl)
        have q1133 : H1114 r0 5 = (gr : Int) := k1132.trans qgr
        refine wp_of e137 c137_66 (xg_K (pc' := 69) lf_0_44 w1118 g0 sh_1 (by decide) (by decide) rfl q1133 rfl ?_)
        refine wp_of e137 c137_69 (rw_aload_n (pc' := 70) (v := .ref r0) rfl rfl rfl ?_)
        have k1134 : H1114 r0 6 = H r0 6 := (f1119 r0 6 _ g0 rfl)
        have q1135 : H1114 r0 6 = (cu : Int) := k1134.trans qcu
        refine wp_of e137 c137_70 (xg_K (pc' := 73) lf_0_51 w1118 g0 sh_1 (by decide) (by decide) rfl q1135 rfl ?_)
        refine wp_of e137 c137_73 (rw_aload_n (pc' := 74) (v := .ref r0) rfl rfl rfl ?_)
        have k1136 : H1114 r0 2 = H r0 2 := (f1119 r0 2 _ g0 rfl)
        have q1137 : H1114 r0 2 = (wa : Int) := k1136.trans qwa
        refine wp_of e137 c137_74 (xg_K (pc' := 77) lf_0_23 w1118 g0 sh_1 (by decide) (by decide) rfl q1137 rfl ?_)
        have k1138 : H1114 cu 18 = H cu 18 := (f1119 cu 18 _ gcu rfl)
        have h1139 : CU T H1114 cu e d n := (CU_fr hW gcu f1119 rfl hCU_cu)
        refine wp_of e137 c137_77 (xc_V (pc' := 80) (r := gr) (as := [.ref cu, .ref wa]) (st := [.ref r0]) (lm_0_258) rfl rfl (Nat.le_of_ble_eq_true rfl) w1118 ggr sh_25 (by decide) rfl (by decide) (u_138 (e := e) (d := d) (n := n) w1118 ggr gcu gwa (by assumption) (by assumption) (by omega) (by omega) (by omega) (by omega) h1139) (fun R1140 T1141 H1142 p1143 => ?_))
        obtain ⟨e1144, w1146, f1147, z1148, e1145, b1149, p1150⟩ := p1143
        subst e1144
        subst e1145
        have f1152 := f1125.tr f1147 rfl
        show wp _ _ 137 80 [(0, .ref r0)] [vI z1148, .ref r0] _ H1142 _
        refine wp_of e137 c137_80 (xc_V (pc' := 83) (r := r0) (as := [vI z1148]) (st := []) (lm_0_99) rfl rfl (Nat.le_of_ble_eq_true rfl) w1146 g0 sh_1 (by decide) rfl (by decide) (u_51  w1146 g0 ⟨Int.le_trans (by decide) b1149.1, Int.le_trans b1149.2 (by decide)⟩) (fun R1153 T1154 H1155 p1156 => ?_))
        obtain ⟨e1157, w1159, f1160, z1161, e1158, b1162, p1163⟩ := p1156
        subst e1157
        subst e1158
        obtain ⟨a1164, a1165⟩ := p1163
        have f1166 := f1152.tr f1160 rfl
        show wp _ _ 137 83 [(0, .ref r0)] [vI z1161] _ H1155 _
        have h1167 : CEN T H1155 ce e d := (CEN_fr w1146 gce f1160 rfl (CEN_fr w1118 gce f1147 rfl a1124))
        exact wp_ireturn e137 c137_83 rfl ⟨rfl, w1159, f1166, z1161, rfl, ⟨b1162.1, b1162.2⟩, (Or.inr ⟨by omega, by omega, XPF_z (by assumption) (by omega), h1167⟩)⟩
      · refine wp_of e137 c137_58 (rw_aload_n (pc' := 59) (v := .ref r0) rfl rfl rfl ?_)
        refine wp_of e137 c137_59 (rw_iconst (pc' := 60) rfl ?_)
        refine wp_of e137 c137_60 (xc_V (pc' := 63) (r := r0) (as := [vI 5]) (st := []) (lm_0_70) rfl rfl (Nat.le_of_ble_eq_true rfl) w1118 g0 sh_1 (by decide) rfl (by decide) (u_12  w1118 g0 ⟨by decide, by decide⟩) (fun R1168 T1169 H1170 p1171 => ?_))
        obtain ⟨e1172, w1174, f1175, z1176, e1173, b1177, p1178⟩ := p1171
        subst e1172
        subst e1173
        obtain ⟨a1179, a1180⟩ := p1178
        have f1181 := f1125.tr f1175 rfl
        show wp _ _ 137 63 [(0, .ref r0)] [vI z1176] _ H1170 _
        have h1182 : CEN T H1170 ce e d := (CEN_fr w1118 gce f1175 rfl a1124)
        exact wp_ireturn e137 c137_63 rfl ⟨rfl, w1174, f1181, z1176, rfl, ⟨b1177.1, b1177.2⟩, (Or.inl ⟨by omega, by omega, h1182⟩)⟩
    · refine wp_of e137 c137_27 (rw_aload_n (pc' := 28) (v := .ref r0) rfl rfl rfl ?_)
      refine wp_of e137 c137_28 (rw_iconst (pc' := 29) rfl ?_)
      refine wp_of e137 c137_29 (xc_V (pc' := 32) (r := r0) (as := [vI 3]) (st := []) (lm_0_70) rfl rfl (Nat.le_of_ble_eq_true rfl) hW g0 sh_1 (by decide) rfl (by decide) (u_12  hW g0 ⟨by decide, by decide⟩) (fun R1183 T1184 H1185 p1186 => ?_))
      obtain ⟨e1187, w1189, f1190, z1191, e1188, b1192, p1193⟩ := p1186
      subst e1187
      subst e1188
      obtain ⟨a1194, a1195⟩ := p1193
      have f1196 := f0.tr f1190 rfl
      show wp _ _ 137 32 [(0, .ref r0)] [vI z1191] _ H1185 _
      have h1197 : CEN T H1185 ce e d := (CEN_fr hW gce f1190 rfl hCEN_ce)
      exact wp_ireturn e137 c137_32 rfl ⟨rfl, w1189, f1196, z1191, rfl, ⟨b1192.1, b1192.2⟩, (Or.inl ⟨by omega, by omega, h1197⟩)⟩
  · refine wp_of e137 c137_7 (rw_aload_n (pc' := 8) (v := .ref r0) rfl rfl rfl ?_)
    refine wp_of e137 c137_8 (rw_iconst (pc' := 9) rfl ?_)
    refine wp_of e137 c137_9 (xc_V (pc' := 12) (r := r0) (as := [vI 1]) (st := []) (lm_0_70) rfl rfl (Nat.le_of_ble_eq_true rfl) hW g0 sh_1 (by decide) rfl (by decide) (u_12  hW g0 ⟨by decide, by decide⟩) (fun R1198 T1199 H1200 p1201 => ?_))
    obtain ⟨e1202, w1204, f1205, z1206, e1203, b1207, p1208⟩ := p1201
    subst e1202
    subst e1203
    obtain ⟨a1209, a1210⟩ := p1208
    have f1211 := f0.tr f1205 rfl
    show wp _ _ 137 12 [(0, .ref r0)] [vI z1206] _ H1200 _
    have h1212 : CEN T H1200 ce e d := (CEN_fr hW gce f1205 rfl hCEN_ce)
    exact wp_ireturn e137 c137_12 rfl ⟨rfl, w1204, f1211, z1206, rfl, ⟨b1207.1, b1207.2⟩, (Or.inl ⟨by omega, by omega, h1212⟩)⟩
/-! StrikeAwake.part(IZ)I  -/
abbrev uq_146 (r0 : Nat) (a1 : Int) (a2 : Int) (cu : Nat) (wa : Nat) (ce : Nat) (e : xD) (d : xD) (n : Int) (T : wq_T) (H : wq_H) : Option Value → wq_T → wq_H → Prop := fun r T' H' => T = T' ∧ WT T H' ∧ wfr [(12, 5), (12, 6), (12, 7), (12, 8), (12, 9), (1, 10), (6, 5), (8, 999), (10, 999), (15, 999), (9, 999), (18, 999), (19, 999), (7, 999), (11, 999), (17, 999), (13, 999)] T H H' ∧ ∃ z : Int, some (vI z) = r ∧ ((-2147483648) ≤ z ∧ z ≤ 2147483647) ∧ ((CEN T H' ce e d))
set_option maxHeartbeats 4000000 in
theorem u_146 {kt : Nat → Option mc_E} {T : wq_T} {H : wq_H} {r0 : Nat} {a1 : Int} {a2 : Int} {cu : Nat} {wa : Nat} {ce : Nat} {e : xD} {d : xD} {n : Int} (hW : WT T H) (g0 : T.2.2.2 r0 = some 1) (i1 : (-2147483648) ≤ a1 ∧ a1 ≤ 2147483647) (i2 : 0 ≤ a2 ∧ a2 ≤ 1) (qcu : H r0 6 = (cu : Int)) (gcu : T.2.2.2 cu = some 27) (qwa : H r0 2 = (wa : Int)) (gwa : T.2.2.2 wa = some 6) (qce : H r0 3 = (ce : Int)) (gce : T.2.2.2 ce = some 12) (p0 : ∀ i, i ≠ 13 → e i = d i) (p1 : XW d) (p2 : e 0 3 = d 0 3) (p3 : e 0 0 = d 0 0) (p4 : H r0 8 = 0 ∨ n = xlots d) (p5 : H r0 8 ≠ 0 ∨ (d 0 3 = 0 ∧ d 0 0 = 0)) (hCU_cu : CU T H cu e d n) (hCEN_ce : CEN T H ce e d) (hHDR_ce : HDR T H ce ) : wpc kt 7 146 [.ref r0, vI a1, vI a2] T H (uq_146 r0 a1 a2 cu wa ce e d n T H) := by
  refine wp_enter e146 (Nat.le_of_ble_eq_true rfl) rfl ?_
  have f0 : wfr [(12, 5), (12, 6), (12, 7), (12, 8), (12, 9), (1, 10), (6, 5), (8, 999), (10, 999), (15, 999), (9, 999), (18, 999), (19, 999), (7, 999), (11, 999), (17, 999), (13, 999)] T H H := wfr.rf
  show wp _ _ 146 0 [(0, .ref r0), (1, vI a1), (2, vI a2)] [] _ H _
  have u1278 := CU_k hCU_cu
  have b1279 : 0 ≤ H r0 8 ∧ H r0 8 ≤ 1 := hW.box g0 (n := 13) rfl (by decide) rfl
  have _c7 : d 0 0 ≤ 24 := p1.2.1.2.1
  refine wp_of e146 c146_0 (rw_aload_n (pc' := 1) (v := .ref r0) rfl rfl rfl ?_)
  refine wp_of e146 c146_1 (rw_aload_n (pc' := 2) (v := .ref r0) rfl rfl rfl ?_)
  refine wp_of e146 c146_2 (rw_iload_n (pc' := 3) (z := a1) rfl rfl ?_)
  refine wp_of e146 c146_3 (xc_V (pc' := 6) (r := r0) (as := [vI a1]) (st := [.ref r0]) (lm_0_132) rfl rfl (Nat.le_of_ble_eq_true rfl) hW g0 sh_1 (by decide) rfl (by decide) (u_60  hW g0 ⟨i1.1, i1.2⟩ qcu gcu) (fun R1280 T1281 H1282 p1283 => ?_))
  obtain ⟨e1284, e1286, z1287, e1285, b1288, p1289⟩ := p1283
  subst e1284
  subst e1285
  subst e1286
  rcases p1289 with ⟨a1290, a1291⟩ | ⟨a1292, a1293⟩
  · show wp _ _ 146 6 [(0, .ref r0), (1, vI a1), (2, vI a2)] [vI z1287, .ref r0] _ H _
    refine wp_of e146 c146_6 (rw_if_eq (p1 := 25) (p2 := 9) (by decide) rfl ⟨Int.le_trans (by decide) b1288.1, Int.le_trans b1288.2 (by decide)⟩ (fun c1294 => ?_) (fun c1294 => ?_))
    · exfalso
      omega
    · refine wp_of e146 c146_9 (rw_aload_n (pc' := 10) (v := .ref r0) rfl rfl rfl ?_)
      refine wp_of e146 c146_10 (xg_K (pc' := 13) lf_0_51 hW g0 sh_1 (by decide) (by decide) rfl qcu rfl ?_)
      refine wp_of e146 c146_13 (xg_R (pc' := 16) lf_0_262 hW gcu sh_27 (by decide) (by decide) ty_27_1 rfl rfl (fun r1295 q1296 g1297 => ?_))
      refine wp_of e146 c146_16 (rw_iload_n (pc' := 17) (z := a1) rfl rfl ?_)
      refine wp_of e146 c146_17 (xa_I (so := 0) (pc' := 18) hW g1297 sh_29 (by decide) (ty_29 _) (by omega) (by omega) rfl (fun b1298 b1299 => ?_))
      refine wp_of e146 c146_18 (rw_if_lt (p1 := 25) (p2 := 21) (by decide) rfl ⟨b1298, b1299⟩ (fun c1300 => ?_) (fun c1300 => ?_))
      · refine wp_of e146 c146_25 (rw_iconst (pc' := 26) rfl ?_)
        refine wp_of e146 c146_26 (xc_V (pc' := 29) (r := r0) (as := [vI 0]) (st := []) (lm_0_198) rfl rfl (Nat.le_of_ble_eq_true rfl) hW g0 sh_1 (by decide) rfl (by decide) (u_102 (e := e) (d := d) (n := n) hW g0 ⟨by decide, by decide⟩ qcu gcu qwa gwa qce gce (by assumption) (by assumption) (by omega) (by omega) (by omega) hCU_cu hCEN_ce hHDR_ce) (fun R1301 T1302 H1303 p1304 => ?_))
        obtain ⟨e1305, w1307, f1308, z1309, e1306, b1310, p1311⟩ := p1304
        subst e1305
        subst e1306
        rcases p1311 with ⟨a1312, a1313, a1314, a1315, a1316, a1317, a1318⟩ | ⟨a1319, a1320, a1321⟩
        · exfalso
          omega
        · have f1322 := f0.tr f1308 rfl
          show wp _ _ 146 29 [(0, .ref r0), (1, vI a1), (2, vI a2)] [vI z1309] _ H1303 _
          refine wp_of e146 c146_29 (rw_istore_n (pc' := 30) (z := z1309) (L' := [(3, vI z1309), (0, .ref r0), (1, vI a1), (2, vI a2)]) rfl rfl rfl ?_)
          refine wp_of e146 c146_30 (rw_iload_n (pc' := 31) (z := z1309) rfl rfl ?_)
          refine wp_of e146 c146_31 (rw_if_eq (p1 := 43) (p2 := 34) (by decide) rfl ⟨Int.le_trans (by decide) b1310.1, Int.le_trans b1310.2 (by decide)⟩ (fun c1323 => ?_) (fun c1323 => ?_))
          · exfalso
            omega
          · refine wp_of e146 c146_34 (rw_aload_n (pc' := 35) (v := .ref r0) rfl rfl rfl ?_)
            refine wp_of e146 c146_35 (rw_iload_n (pc' := 36) (z := z1309) rfl rfl ?_)
            refine wp_of e146 c146_36 (xp_I (pc' := 39) lf_0_102 w1307 g0 sh_1 (by decide) (by decide) ty_1_10 rfl rfl (Int.le_trans (by decide) b1310.1) (Int.le_trans b1310.2 (by decide)) ⟨Int.le_trans (by decide) b1310.1, Int.le_trans b1310.2 (by decide)⟩ rfl (fun H1324 e1325 w1326 => ?_))
            have f1327 := f1322.put' e1325 g0 rfl
            have k1328 : H1324 r0 10 = z1309 := wq_u_s e1325
            refine wp_of e146 c146_39 (rw_sipush (pc' := 42) (z := -1000) rfl (by decide) ?_)
            have h1329 : CEN T H1324 ce e d := (CEN_fr w1307 gce ((wfr.rf (l := [(1, 10)])).put' e1325 g0 rfl) rfl a1321)
            exact wp_ireturn e146 c146_42 rfl ⟨rfl, w1326, f1327, -1000, rfl, ⟨by decide, by decide⟩, (h1329)⟩
      · refine wp_of e146 c146_21 (rw_iconst (pc' := 22) rfl ?_)
        refine wp_of e146 c146_22 (rw_goto (p1 := 26) (by decide) ?_)
        refine wp_of e146 c146_26 (xc_V (pc' := 29) (r := r0) (as := [vI 1]) (st := []) (lm_0_198) rfl rfl (Nat.le_of_ble_eq_true rfl) hW g0 sh_1 (by decide) rfl (by decide) (u_102 (e := e) (d := d) (n := n) hW g0 ⟨by decide, by decide⟩ qcu gcu qwa gwa qce gce (by assumption) (by assumption) (by omega) (by omega) (by omega) hCU_cu hCEN_ce hHDR_ce) (fun R1330 T1331 H1332 p1333 => ?_))
        obtain ⟨e1334, w1336, f1337, z1338, e1335, b1339, p1340⟩ := p1333
        subst e1334
        subst e1335
        rcases p1340 with ⟨a1341, a1342, a1343, a1344, a1345, a1346, a1347⟩ | ⟨a1348, a1349, a1350⟩
        · have f1351 := f0.tr f1337 rfl
          show wp _ _ 146 29 [(0, .ref r0), (1, vI a1), (2, vI a2)] [vI z1338] _ H1332 _
          refine wp_of e146 c146_29 (rw_istore_n (pc' := 30) (z := z1338) (L' := [(3, vI z1338), (0, .ref r0), (1, vI a1), (2, vI a2)]) rfl rfl rfl ?_)
          refine wp_of e146 c146_30 (rw_iload_n (pc' := 31) (z := z1338) rfl rfl ?_)
          refine wp_of e146 c146_31 (rw_if_eq (p1 := 43) (p2 := 34) (by decide) rfl ⟨Int.le_trans (by decide) b1339.1, Int.le_trans b1339.2 (by decide)⟩ (fun c1352 => ?_) (fun c1352 => ?_))
          · refine wp_of e146 c146_43 (rw_iload_n (pc' := 44) (z := a2) rfl rfl ?_)
            refine wp_of e146 c146_44 (rw_if_eq (p1 := 59) (p2 := 47) (by decide) rfl ⟨Int.le_trans (by decide) i2.1, Int.le_trans i2.2 (by decide)⟩ (fun c1353 => ?_) (fun c1353 => ?_))
            · refine wp_of e146 c146_59 (rw_aload_n (pc' := 60) (v := .ref r0) rfl rfl rfl ?_)
              have k1354 : H1332 r0 3 = H r0 3 := (f1337 r0 3 _ g0 rfl)
              have q1355 : H1332 r0 3 = (ce : Int) := k1354.trans qce
              refine wp_of e146 c146_60 (xg_K (pc' := 63) lf_0_30 w1336 g0 sh_1 (by decide) (by decide) rfl q1355 rfl ?_)
              refine wp_of e146 c146_63 (xg_R (pc' := 66) lf_0_268 w1336 gce sh_12 (by decide) (by decide) ty_12_4 rfl rfl (fun r1356 q1357 g1358 => ?_))
              refine wp_of e146 c146_66 (rw_iload_n (pc' := 67) (z := a1) rfl rfl ?_)
              refine wp_of e146 c146_67 (xa_I (so := 0) (pc' := 68) w1336 g1358 sh_19 (by decide) (ty_19 _) (by omega) (by omega) rfl (fun b1359 b1360 => ?_))
              refine wp_of e146 c146_68 (rw_istore (pc' := 70) (z := H1332 r1356 (a1.toNat)) (L' := [(4, vI (H1332 r1356 (a1.toNat))), (3, vI z1338), (0, .ref r0), (1, vI a1), (2, vI a2)]) rfl rfl rfl ?_)
              refine wp_of e146 c146_70 (rw_aload_n (pc' := 71) (v := .ref r0) rfl rfl rfl ?_)
              refine wp_of e146 c146_71 (rw_aload_n (pc' := 72) (v := .ref r0) rfl rfl rfl ?_)
              have k1361 : H1332 r0 6 = H r0 6 := (f1337 r0 6 _ g0 rfl)
              have q1362 : H1332 r0 6 = (cu : Int) := k1361.trans qcu
              refine wp_of e146 c146_72 (xg_K (pc' := 75) lf_0_51 w1336 g0 sh_1 (by decide) (by decide) rfl q1362 rfl ?_)
              have k1363 : H1332 cu 1 = H cu 1 := (f1337 cu 1 _ gcu rfl)
              have q1364 : H1332 cu 1 = (r1295 : Int) := k1363.trans q1296
              refine wp_of e146 c146_75 (xg_K (pc' := 78) lf_0_262 w1336 gcu sh_27 (by decide) (by decide) rfl q1364 rfl ?_)
              refine wp_of e146 c146_78 (rw_iload_n (pc' := 79) (z := a1) rfl rfl ?_)
              have k1365 : H1332 r1295 (a1.toNat) = H r1295 (a1.toNat) := (f1337 r1295 (a1.toNat) _ g1297 rfl)
              refine wp_of e146 c146_79 (xa_I (so := 0) (pc' := 80) w1336 g1297 sh_29 (by decide) (ty_29 _) (by omega) (by omega) rfl (fun b1366 b1367 => ?_))
              refine wp_of e146 c146_80 (rw_iload (pc' := 82) (z := H1332 r1356 (a1.toNat)) rfl rfl ?_)
              refine wp_of e146 c146_82 (rw_isubw (pc' := 83) rfl ?_)
              obtain ⟨v1368, e1369⟩ : ∃ x : Int, x = wq_w ((H1332 r1295 (a1.toNat)) - (H1332 r1356 (a1.toNat))) := ⟨_, rfl⟩
              rw [← e1369]
              have b1370 : -2147483648 ≤ v1368 ∧ v1368 ≤ 2147483647 := by
                rw [e1369]
                exact wI_w _
              have b1371 : (-2147483648 ≤ (H1332 r1295 (a1.toNat)) - (H1332 r1356 (a1.toNat)) ∧ (H1332 r1295 (a1.toNat)) - (H1332 r1356 (a1.toNat)) ≤ 2147483647) → v1368 = (H1332 r1295 (a1.toNat)) - (H1332 r1356 (a1.toNat)) := fun h => by rw [e1369]; exact wq_w_id h
              refine wp_of e146 c146_83 (xc_V (pc' := 86) (r := r0) (as := [vI v1368]) (st := []) (lm_0_99) rfl rfl (Nat.le_of_ble_eq_true rfl) w1336 g0 sh_1 (by decide) rfl (by decide) (s_51 w1336 g0 ⟨b1370.1, b1370.2⟩) (fun R1372 T1373 H1374 p1375 => ?_))
              obtain ⟨e1376, w1378, f1379, z1380, e1377, b1381⟩ := p1375
              subst e1376
              subst e1377
              have f1382 := f1351.tr f1379 rfl
              show wp _ _ 146 86 [(4, vI (H1332 r1356 (a1.toNat))), (3, vI z1338), (0, .ref r0), (1, vI a1), (2, vI a2)] [vI z1380] _ H1374 _
              have h1383 : CEN T H1374 ce e d := (CEN_fr w1336 gce f1379 rfl a1345)
              exact wp_ireturn e146 c146_86 rfl ⟨rfl, w1378, f1382, z1380, rfl, ⟨b1381.1, b1381.2⟩, (h1383)⟩
            · refine wp_of e146 c146_47 (rw_aload_n (pc' := 48) (v := .ref r0) rfl rfl rfl ?_)
              have k1384 : H1332 r0 3 = H r0 3 := (f1337 r0 3 _ g0 rfl)
              have q1385 : H1332 r0 3 = (ce : Int) := k1384.trans qce
              refine wp_of e146 c146_48 (xg_K (pc' := 51) lf_0_30 w1336 g0 sh_1 (by decide) (by decide) rfl q1385 rfl ?_)
              refine wp_of e146 c146_51 (xg_R (pc' := 54) lf_0_265 w1336 gce sh_12 (by decide) (by decide) ty_12_3 rfl rfl (fun r1386 q1387 g1388 => ?_))
              refine wp_of e146 c146_54 (rw_iload_n (pc' := 55) (z := a1) rfl rfl ?_)
              refine wp_of e146 c146_55 (xa_I (so := 0) (pc' := 56) w1336 g1388 sh_18 (by decide) (ty_18 _) (by omega) (by omega) rfl (fun b1389 b1390 => ?_))
              refine wp_of e146 c146_56 (rw_goto (p1 := 68) (by decide) ?_)
              refine wp_of e146 c146_68 (rw_istore (pc' := 70) (z := H1332 r1386 (a1.toNat)) (L' := [(4, vI (H1332 r1386 (a1.toNat))), (3, vI z1338), (0, .ref r0), (1, vI a1), (2, vI a2)]) rfl rfl rfl ?_)
              refine wp_of e146 c146_70 (rw_aload_n (pc' := 71) (v := .ref r0) rfl rfl rfl ?_)
              refine wp_of e146 c146_71 (rw_aload_n (pc' := 72) (v := .ref r0) rfl rfl rfl ?_)
              have k1391 : H1332 r0 6 = H r0 6 := (f1337 r0 6 _ g0 rfl)
              have q1392 : H1332 r0 6 = (cu : Int) := k1391.trans qcu
              refine wp_of e146 c146_72 (xg_K (pc' := 75) lf_0_51 w1336 g0 sh_1 (by decide) (by decide) rfl q1392 rfl ?_)
              have k1393 : H1332 cu 1 = H cu 1 := (f1337 cu 1 _ gcu rfl)
              have q1394 : H1332 cu 1 = (r1295 : Int) := k1393.trans q1296
              refine wp_of e146 c146_75 (xg_K (pc' := 78) lf_0_262 w1336 gcu sh_27 (by decide) (by decide) rfl q1394 rfl ?_)
              refine wp_of e146 c146_78 (rw_iload_n (pc' := 79) (z := a1) rfl rfl ?_)
              have k1395 : H1332 r1295 (a1.toNat) = H r1295 (a1.toNat) := (f1337 r1295 (a1.toNat) _ g1297 rfl)
              refine wp_of e146 c146_79 (xa_I (so := 0) (pc' := 80) w1336 g1297 sh_29 (by decide) (ty_29 _) (by omega) (by omega) rfl (fun b1396 b1397 => ?_))
              refine wp_of e146 c146_80 (rw_iload (pc' := 82) (z := H1332 r1386 (a1.toNat)) rfl rfl ?_)
              refine wp_of e146 c146_82 (rw_isubw (pc' := 83) rfl ?_)
              obtain ⟨v1398, e1399⟩ : ∃ x : Int, x = wq_w ((H1332 r1295 (a1.toNat)) - (H1332 r1386 (a1.toNat))) := ⟨_, rfl⟩
              rw [← e1399]
              have b1400 : -2147483648 ≤ v1398 ∧ v1398 ≤ 2147483647 := by
                rw [e1399]
                exact wI_w _
              have b1401 : (-2147483648 ≤ (H1332 r1295 (a1.toNat)) - (H1332 r1386 (a1.toNat)) ∧ (H1332 r1295 (a1.toNat)) - (H1332 r1386 (a1.toNat)) ≤ 2147483647) → v1398 = (H1332 r1295 (a1.toNat)) - (H1332 r1386 (a1.toNat)) := fun h => by rw [e1399]; exact wq_w_id h
              refine wp_of e146 c146_83 (xc_V (pc' := 86) (r := r0) (as := [vI v1398]) (st := []) (lm_0_99) rfl rfl (Nat.le_of_ble_eq_true rfl) w1336 g0 sh_1 (by decide) rfl (by decide) (s_51 w1336 g0 ⟨b1400.1, b1400.2⟩) (fun R1402 T1403 H1404 p1405 => ?_))
              obtain ⟨e1406, w1408, f1409, z1410, e1407, b1411⟩ := p1405
              subst e1406
              subst e1407
              have f1412 := f1351.tr f1409 rfl
              show wp _ _ 146 86 [(4, vI (H1332 r1386 (a1.toNat))), (3, vI z1338), (0, .ref r0), (1, vI a1), (2, vI a2)] [vI z1410] _ H1404 _
              have h1413 : CEN T H1404 ce e d := (CEN_fr w1336 gce f1409 rfl a1345)
              exact wp_ireturn e146 c146_86 rfl ⟨rfl, w1408, f1412, z1410, rfl, ⟨b1411.1, b1411.2⟩, (h1413)⟩
          · exfalso
            omega
        · have f1414 := f0.tr f1337 rfl
          show wp _ _ 146 29 [(0, .ref r0), (1, vI a1), (2, vI a2)] [vI z1338] _ H1332 _
          refine wp_of e146 c146_29 (rw_istore_n (pc' := 30) (z := z1338) (L' := [(3, vI z1338), (0, .ref r0), (1, vI a1), (2, vI a2)]) rfl rfl rfl ?_)
          refine wp_of e146 c146_30 (rw_iload_n (pc' := 31) (z := z1338) rfl rfl ?_)
          refine wp_of e146 c146_31 (rw_if_eq (p1 := 43) (p2 := 34) (by decide) rfl ⟨Int.le_trans (by decide) b1339.1, Int.le_trans b1339.2 (by decide)⟩ (fun c1415 => ?_) (fun c1415 => ?_))
          · exfalso
            omega
          · refine wp_of e146 c146_34 (rw_aload_n (pc' := 35) (v := .ref r0) rfl rfl rfl ?_)
            refine wp_of e146 c146_35 (rw_iload_n (pc' := 36) (z := z1338) rfl rfl ?_)
            refine wp_of e146 c146_36 (xp_I (pc' := 39) lf_0_102 w1336 g0 sh_1 (by decide) (by decide) ty_1_10 rfl rfl (Int.le_trans (by decide) b1339.1) (Int.le_trans b1339.2 (by decide)) ⟨Int.le_trans (by decide) b1339.1, Int.le_trans b1339.2 (by decide)⟩ rfl (fun H1416 e1417 w1418 => ?_))
            have f1419 := f1414.put' e1417 g0 rfl
            have k1420 : H1416 r0 10 = z1338 := wq_u_s e1417
            refine wp_of e146 c146_39 (rw_sipush (pc' := 42) (z := -1000) rfl (by decide) ?_)
            have h1421 : CEN T H1416 ce e d := (CEN_fr w1336 gce ((wfr.rf (l := [(1, 10)])).put' e1417 g0 rfl) rfl a1350)
            exact wp_ireturn e146 c146_42 rfl ⟨rfl, w1418, f1419, -1000, rfl, ⟨by decide, by decide⟩, (h1421)⟩
  · show wp _ _ 146 6 [(0, .ref r0), (1, vI a1), (2, vI a2)] [vI z1287, .ref r0] _ H _
    refine wp_of e146 c146_6 (rw_if_eq (p1 := 25) (p2 := 9) (by decide) rfl ⟨Int.le_trans (by decide) b1288.1, Int.le_trans b1288.2 (by decide)⟩ (fun c1422 => ?_) (fun c1422 => ?_))
    · refine wp_of e146 c146_25 (rw_iconst (pc' := 26) rfl ?_)
      refine wp_of e146 c146_26 (xc_V (pc' := 29) (r := r0) (as := [vI 0]) (st := []) (lm_0_198) rfl rfl (Nat.le_of_ble_eq_true rfl) hW g0 sh_1 (by decide) rfl (by decide) (u_102 (e := e) (d := d) (n := n) hW g0 ⟨by decide, by decide⟩ qcu gcu qwa gwa qce gce (by assumption) (by assumption) (by omega) (by omega) (by omega) hCU_cu hCEN_ce hHDR_ce) (fun R1423 T1424 H1425 p1426 => ?_))
      obtain ⟨e1427, w1429, f1430, z1431, e1428, b1432, p1433⟩ := p1426
      subst e1427
      subst e1428
      rcases p1433 with ⟨a1434, a1435, a1436, a1437, a1438, a1439, a1440⟩ | ⟨a1441, a1442, a1443⟩
      · exfalso
        omega
      · have f1444 := f0.tr f1430 rfl
        show wp _ _ 146 29 [(0, .ref r0), (1, vI a1), (2, vI a2)] [vI z1431] _ H1425 _
        refine wp_of e146 c146_29 (rw_istore_n (pc' := 30) (z := z1431) (L' := [(3, vI z1431), (0, .ref r0), (1, vI a1), (2, vI a2)]) rfl rfl rfl ?_)
        refine wp_of e146 c146_30 (rw_iload_n (pc' := 31) (z := z1431) rfl rfl ?_)
        refine wp_of e146 c146_31 (rw_if_eq (p1 := 43) (p2 := 34) (by decide) rfl ⟨Int.le_trans (by decide) b1432.1, Int.le_trans b1432.2 (by decide)⟩ (fun c1445 => ?_) (fun c1445 => ?_))
        · exfalso
          omega
        · refine wp_of e146 c146_34 (rw_aload_n (pc' := 35) (v := .ref r0) rfl rfl rfl ?_)
          refine wp_of e146 c146_35 (rw_iload_n (pc' := 36) (z := z1431) rfl rfl ?_)
          refine wp_of e146 c146_36 (xp_I (pc' := 39) lf_0_102 w1429 g0 sh_1 (by decide) (by decide) ty_1_10 rfl rfl (Int.le_trans (by decide) b1432.1) (Int.le_trans b1432.2 (by decide)) ⟨Int.le_trans (by decide) b1432.1, Int.le_trans b1432.2 (by decide)⟩ rfl (fun H1446 e1447 w1448 => ?_))
          have f1449 := f1444.put' e1447 g0 rfl
          have k1450 : H1446 r0 10 = z1431 := wq_u_s e1447
          refine wp_of e146 c146_39 (rw_sipush (pc' := 42) (z := -1000) rfl (by decide) ?_)
          have h1451 : CEN T H1446 ce e d := (CEN_fr w1429 gce ((wfr.rf (l := [(1, 10)])).put' e1447 g0 rfl) rfl a1443)
          exact wp_ireturn e146 c146_42 rfl ⟨rfl, w1448, f1449, -1000, rfl, ⟨by decide, by decide⟩, (h1451)⟩
    · exfalso
      omega
/-! StrikeAwake.nothing()I  -/
abbrev uq_147 (r0 : Nat) (cu : Nat) (wa : Nat) (ce : Nat) (e : xD) (d : xD) (n : Int) (T : wq_T) (H : wq_H) : Option Value → wq_T → wq_H → Prop := fun r T' H' => T = T' ∧ WT T H' ∧ wfr [(1, 10), (6, 5), (8, 999), (10, 999), (9, 999), (7, 999), (11, 999)] T H H' ∧ ∃ z : Int, some (vI z) = r ∧ ((-2147483648) ≤ z ∧ z ≤ 2147483647) ∧ ((CEN T H' ce e d))
set_option maxHeartbeats 4000000 in
theorem u_147 {kt : Nat → Option mc_E} {T : wq_T} {H : wq_H} {r0 : Nat} {cu : Nat} {wa : Nat} {ce : Nat} {e : xD} {d : xD} {n : Int} (hW : WT T H) (g0 : T.2.2.2 r0 = some 1) (qcu : H r0 6 = (cu : Int)) (gcu : T.2.2.2 cu = some 27) (qwa : H r0 2 = (wa : Int)) (gwa : T.2.2.2 wa = some 6) (qce : H r0 3 = (ce : Int)) (gce : T.2.2.2 ce = some 12) (p0 : ∀ i, i ≠ 13 → e i = d i) (p1 : XW d) (p2 : e 0 3 = d 0 3) (p3 : e 0 0 = d 0 0) (p4 : H r0 8 = 0 ∨ n = xlots d) (p5 : H r0 8 ≠ 0 ∨ (d 0 3 = 0 ∧ d 0 0 = 0)) (hCU_cu : CU T H cu e d n) (hCEN_ce : CEN T H ce e d) (hHDR_ce : HDR T H ce ) : wpc kt 4 147 [.ref r0] T H (uq_147 r0 cu wa ce e d n T H) := by
  refine wp_enter e147 (Nat.le_of_ble_eq_true rfl) rfl ?_
  have f0 : wfr [(1, 10), (6, 5), (8, 999), (10, 999), (9, 999), (7, 999), (11, 999)] T H H := wfr.rf
  show wp _ _ 147 0 [(0, .ref r0)] [] _ H _
  have u1504 := CU_k hCU_cu
  have b1505 : 0 ≤ H r0 8 ∧ H r0 8 ≤ 1 := hW.box g0 (n := 13) rfl (by decide) rfl
  have _c7 : d 0 0 ≤ 24 := p1.2.1.2.1
  refine wp_of e147 c147_0 (rw_aload_n (pc' := 1) (v := .ref r0) rfl rfl rfl ?_)
  refine wp_of e147 c147_1 (rw_aload_n (pc' := 2) (v := .ref r0) rfl rfl rfl ?_)
  refine wp_of e147 c147_2 (xg_I (pc' := 5) lf_0_58 hW g0 sh_1 (by decide) (by decide) ty_1_8 rfl rfl (fun b1506 b1507 => ?_))
  refine wp_of e147 c147_5 (xc_V (pc' := 8) (r := r0) (as := [vI (H r0 8)]) (st := []) (lm_0_245) rfl rfl (Nat.le_of_ble_eq_true rfl) hW g0 sh_1 (by decide) rfl (by decide) (u_84 (e := e) (d := d) (n := n) hW g0 ⟨b1506, b1507⟩ qcu gcu hCU_cu) (fun R1508 T1509 H1510 p1511 => ?_))
  obtain ⟨e1512, e1514, z1515, e1513, b1516, p1517⟩ := p1511
  subst e1512
  subst e1513
  subst e1514
  rcases p1517 with ⟨a1518, a1519, a1520⟩ | ⟨a1521, a1522⟩
  · show wp _ _ 147 8 [(0, .ref r0)] [vI z1515] _ H _
    refine wp_of e147 c147_8 (rw_istore_n (pc' := 9) (z := z1515) (L' := [(1, vI z1515), (0, .ref r0)]) rfl rfl rfl ?_)
    refine wp_of e147 c147_9 (rw_iload_n (pc' := 10) (z := z1515) rfl rfl ?_)
    refine wp_of e147 c147_10 (rw_if_eq (p1 := 19) (p2 := 13) (by decide) rfl ⟨Int.le_trans (by decide) b1516.1, Int.le_trans b1516.2 (by decide)⟩ (fun c1523 => ?_) (fun c1523 => ?_))
    · refine wp_of e147 c147_19 (rw_iconst (pc' := 20) rfl ?_)
      refine wp_of e147 c147_20 (rw_istore_n (pc' := 21) (z := 0) (L' := [(2, vI 0), (1, vI z1515), (0, .ref r0)]) rfl rfl rfl ?_)
      refine wp_of e147 c147_21 (rw_aload_n (pc' := 22) (v := .ref r0) rfl rfl rfl ?_)
      refine wp_of e147 c147_22 (xg_K (pc' := 25) lf_0_23 hW g0 sh_1 (by decide) (by decide) rfl qwa rfl ?_)
      refine wp_of e147 c147_25 (rw_aload_n (pc' := 26) (v := .ref r0) rfl rfl rfl ?_)
      refine wp_of e147 c147_26 (xg_K (pc' := 29) lf_0_51 hW g0 sh_1 (by decide) (by decide) rfl qcu rfl ?_)
      refine wp_of e147 c147_29 (xc_V (pc' := 32) (r := wa) (as := [.ref cu]) (st := []) (lm_0_271) rfl rfl (Nat.le_of_ble_eq_true rfl) hW gwa sh_6 (by decide) rfl (by decide) (s_87 hW gwa gcu) (fun R1524 T1525 H1526 p1527 => ?_))
      obtain ⟨e1528, w1530, f1531, e1529⟩ := p1527
      subst e1528
      subst e1529
      have f1532 := f0.tr f1531 rfl
      show wp _ _ 147 32 [(2, vI 0), (1, vI z1515), (0, .ref r0)] [] _ H1526 _
      refine wp_of e147 c147_32 (rw_iconst (pc' := 33) rfl ?_)
      refine wp_of e147 c147_33 (rw_istore_n (pc' := 34) (z := 0) (L' := [(3, vI 0), (2, vI 0), (1, vI z1515), (0, .ref r0)]) rfl rfl rfl ?_)
      have lp1925 : ∀ (n1926 : Nat) (v1928 : Int) (v1929 : Int) (H1930 : wq_H), WT T H1930 → wfr [(8, 999), (10, 999), (9, 999), (7, 999), (11, 999)] T H1526 H1930 → (0 ≤ v1928 ∧ v1928 ≤ 20000) → ((-2147483648) ≤ v1929 ∧ v1929 ≤ 2147483647) → (20000 - v1928).toNat = n1926 → wp kt 3 147 34 [(3, vI v1928), (2, vI v1929), (0, .ref r0)] [] T H1930 (uq_147 r0 cu wa ce e d n T H) := by
        intro n1926
        induction n1926 using Nat.strongRecOn with
        | _ n1926 ih1927 =>
          intro v1928 v1929 H1930 w1931 f1932 b1933 b1934 m1935
          have f1936 := f1532.tr f1932 rfl
          refine wp_of e147 c147_34 (rw_iload_n (pc' := 35) (z := v1928) rfl rfl ?_)
          refine wp_of e147 c147_35 (rw_i2l (pc' := 36) rfl ⟨Int.le_trans (by decide) b1933.1, Int.le_trans b1933.2 (by decide)⟩ ?_)
          refine wp_of e147 c147_36 (rw_aload_n (pc' := 37) (v := .ref r0) rfl rfl rfl ?_)
          have k1937 : H1930 r0 6 = H r0 6 := ((f1932 r0 6 _ g0 rfl).trans (f1531 r0 6 _ g0 rfl))
          have q1938 : H1930 r0 6 = (cu : Int) := k1937.trans qcu
          refine wp_of e147 c147_37 (xg_K (pc' := 40) lf_0_51 w1931 g0 sh_1 (by decide) (by decide) rfl q1938 rfl ?_)
          have k1939 : H1930 cu 18 = H cu 18 := ((f1932 cu 18 _ gcu rfl).trans (f1531 cu 18 _ gcu rfl))
          refine wp_of e147 c147_40 (xg_L (pc' := 43) lf_0_141 w1931 gcu sh_27 (by decide) (by decide) ty_27_18 rfl rfl (fun b1940 b1941 => ?_))
          refine wp_of e147 c147_43 (rw_lcmp (pc' := 44) rfl ⟨Int.le_trans (by decide) b1933.1, Int.le_trans b1933.2 (by decide)⟩ ⟨b1940, b1941⟩ ?_)
          have b1942 := wq_cmp_b v1928 (H1930 cu 18)
          refine wp_of e147 c147_44 (rw_if_ge (p1 := 95) (p2 := 47) (by decide) rfl ⟨by omega, by omega⟩ (fun c1943 => ?_) (fun c1943 => ?_))
          · refine wp_of e147 c147_95 (rw_aload_n (pc' := 96) (v := .ref r0) rfl rfl rfl ?_)
            refine wp_of e147 c147_96 (rw_iload_n (pc' := 97) (z := v1929) rfl rfl ?_)
            refine wp_of e147 c147_97 (xc_V (pc' := 100) (r := r0) (as := [vI v1929]) (st := []) (lm_0_99) rfl rfl (Nat.le_of_ble_eq_true rfl) w1931 g0 sh_1 (by decide) rfl (by decide) (s_51 w1931 g0 ⟨b1934.1, b1934.2⟩) (fun R1944 T1945 H1946 p1947 => ?_))
            obtain ⟨e1948, w1950, f1951, z1952, e1949, b1953⟩ := p1947
            subst e1948
            subst e1949
            have f1954 := f1936.tr f1951 rfl
            show wp _ _ 147 100 [(3, vI v1928), (2, vI v1929), (0, .ref r0)] [vI z1952] _ H1946 _
            have h1955 : CEN T H1946 ce e d := (CEN_fr w1931 gce f1951 rfl (CEN_fr w1530 gce f1932 rfl (CEN_fr hW gce f1531 rfl hCEN_ce)))
            exact wp_ireturn e147 c147_100 rfl ⟨rfl, w1950, f1954, z1952, rfl, ⟨b1953.1, b1953.2⟩, (h1955)⟩
          · refine wp_of e147 c147_47 (rw_iload_n (pc' := 48) (z := v1928) rfl rfl ?_)
            refine wp_of e147 c147_48 (rw_sipush (pc' := 51) (z := 20000) rfl (by decide) ?_)
            refine wp_of e147 c147_51 (rw_icmp_ge (p1 := 95) (p2 := 54) (by decide) rfl ⟨Int.le_trans (by decide) b1933.1, Int.le_trans b1933.2 (by decide)⟩ ⟨by decide, by decide⟩ (fun c1956 => ?_) (fun c1956 => ?_))
            · refine wp_of e147 c147_95 (rw_aload_n (pc' := 96) (v := .ref r0) rfl rfl rfl ?_)
              refine wp_of e147 c147_96 (rw_iload_n (pc' := 97) (z := v1929) rfl rfl ?_)
              refine wp_of e147 c147_97 (xc_V (pc' := 100) (r := r0) (as := [vI v1929]) (st := []) (lm_0_99) rfl rfl (Nat.le_of_ble_eq_true rfl) w1931 g0 sh_1 (by decide) rfl (by decide) (s_51 w1931 g0 ⟨b1934.1, b1934.2⟩) (fun R1957 T1958 H1959 p1960 => ?_))
              obtain ⟨e1961, w1963, f1964, z1965, e1962, b1966⟩ := p1960
              subst e1961
              subst e1962
              have f1967 := f1936.tr f1964 rfl
              show wp _ _ 147 100 [(3, vI v1928), (2, vI v1929), (0, .ref r0)] [vI z1965] _ H1959 _
              have h1968 : CEN T H1959 ce e d := (CEN_fr w1931 gce f1964 rfl (CEN_fr w1530 gce f1932 rfl (CEN_fr hW gce f1531 rfl hCEN_ce)))
              exact wp_ireturn e147 c147_100 rfl ⟨rfl, w1963, f1967, z1965, rfl, ⟨b1966.1, b1966.2⟩, (h1968)⟩
            · refine wp_of e147 c147_54 (rw_aload_n (pc' := 55) (v := .ref r0) rfl rfl rfl ?_)
              have k1969 : H1930 r0 2 = H r0 2 := ((f1932 r0 2 _ g0 rfl).trans (f1531 r0 2 _ g0 rfl))
              have q1970 : H1930 r0 2 = (wa : Int) := k1969.trans qwa
              refine wp_of e147 c147_55 (xg_K (pc' := 58) lf_0_23 w1931 g0 sh_1 (by decide) (by decide) rfl q1970 rfl ?_)
              refine wp_of e147 c147_58 (xc_V (pc' := 61) (r := wa) (as := []) (st := []) (lm_0_275) rfl rfl (Nat.le_of_ble_eq_true rfl) w1931 gwa sh_6 (by decide) rfl (by decide) (s_80 w1931 gwa) (fun R1971 T1972 H1973 p1974 => ?_))
              obtain ⟨e1975, e1977, z1978, e1976, b1979⟩ := p1974
              subst e1975
              subst e1976
              subst e1977
              show wp _ _ 147 61 [(3, vI v1928), (2, vI v1929), (0, .ref r0)] [vI z1978] _ H1930 _
              refine wp_of e147 c147_61 (rw_if_ne (p1 := 78) (p2 := 64) (by decide) rfl ⟨Int.le_trans (by decide) b1979.1, Int.le_trans b1979.2 (by decide)⟩ (fun c1980 => ?_) (fun c1980 => ?_))
              · refine wp_of e147 c147_78 (rw_aload_n (pc' := 79) (v := .ref r0) rfl rfl rfl ?_)
                refine wp_of e147 c147_79 (xg_K (pc' := 82) lf_0_23 w1931 g0 sh_1 (by decide) (by decide) rfl q1970 rfl ?_)
                refine wp_of e147 c147_82 (rw_aload_n (pc' := 83) (v := .ref r0) rfl rfl rfl ?_)
                refine wp_of e147 c147_83 (xg_K (pc' := 86) lf_0_51 w1931 g0 sh_1 (by decide) (by decide) rfl q1938 rfl ?_)
                refine wp_of e147 c147_86 (xc_V (pc' := 89) (r := wa) (as := [.ref cu]) (st := []) (lm_0_281) rfl rfl (Nat.le_of_ble_eq_true rfl) w1931 gwa sh_6 (by decide) rfl (by decide) (s_91 w1931 gwa gcu) (fun R1981 T1982 H1983 p1984 => ?_))
                obtain ⟨e1985, w1987, f1988, e1986⟩ := p1984
                subst e1985
                subst e1986
                have f1989 := f1936.tr f1988 rfl
                have f1990 := f1932.tr f1988 rfl
                show wp _ _ 147 89 [(3, vI v1928), (2, vI v1929), (0, .ref r0)] [] _ H1983 _
                refine wp_of e147 c147_89 (rw_iinc (pc' := 92) (z := v1928) (L' := [(3, vI (v1928 + 1)), (2, vI v1929), (0, .ref r0)]) rfl rfl rfl rfl ?_)
                refine wp_of e147 c147_92 (rw_goto (p1 := 34) (by decide) ?_)
                exact wp_lc (ks := [3, 2, 0]) (wl_c rfl (wl_c rfl (wl_c rfl wl_n))) rfl (by decide) (ih1927 _ (by omega) (v1928 + 1) v1929 H1983 w1987 f1990 ⟨by omega, by omega⟩ ⟨b1934.1, b1934.2⟩ rfl)
              · refine wp_of e147 c147_64 (rw_iload_n (pc' := 65) (z := v1929) rfl rfl ?_)
                refine wp_of e147 c147_65 (rw_aload_n (pc' := 66) (v := .ref r0) rfl rfl rfl ?_)
                refine wp_of e147 c147_66 (xg_K (pc' := 69) lf_0_23 w1931 g0 sh_1 (by decide) (by decide) rfl q1970 rfl ?_)
                refine wp_of e147 c147_69 (rw_aload_n (pc' := 70) (v := .ref r0) rfl rfl rfl ?_)
                refine wp_of e147 c147_70 (xg_K (pc' := 73) lf_0_51 w1931 g0 sh_1 (by decide) (by decide) rfl q1938 rfl ?_)
                refine wp_of e147 c147_73 (xc_V (pc' := 76) (r := wa) (as := [.ref cu]) (st := [vI v1929]) (lm_0_278) rfl rfl (Nat.le_of_ble_eq_true rfl) w1931 gwa sh_6 (by decide) rfl (by decide) (s_148 w1931 gwa gcu) (fun R1991 T1992 H1993 p1994 => ?_))
                obtain ⟨e1995, e1997, z1998, e1996, b1999⟩ := p1994
                subst e1995
                subst e1996
                subst e1997
                show wp _ _ 147 76 [(3, vI v1928), (2, vI v1929), (0, .ref r0)] [vI z1998, vI v1929] _ H1930 _
                refine wp_of e147 c147_76 (rw_ior (pc' := 77) rfl ?_)
                obtain ⟨v2000, e2001⟩ : ∃ x : Int, x = wq_or v1929 z1998 := ⟨_, rfl⟩
                rw [← e2001]
                have b2002 : -2147483648 ≤ v2000 ∧ v2000 ≤ 2147483647 := by
                  rw [e2001]
                  exact wI_or _ _
                refine wp_of e147 c147_77 (rw_istore_n (pc' := 78) (z := v2000) (L' := [(2, vI v2000), (3, vI v1928), (0, .ref r0)]) rfl rfl rfl ?_)
                refine wp_of e147 c147_78 (rw_aload_n (pc' := 79) (v := .ref r0) rfl rfl rfl ?_)
                refine wp_of e147 c147_79 (xg_K (pc' := 82) lf_0_23 w1931 g0 sh_1 (by decide) (by decide) rfl q1970 rfl ?_)
                refine wp_of e147 c147_82 (rw_aload_n (pc' := 83) (v := .ref r0) rfl rfl rfl ?_)
                refine wp_of e147 c147_83 (xg_K (pc' := 86) lf_0_51 w1931 g0 sh_1 (by decide) (by decide) rfl q1938 rfl ?_)
                refine wp_of e147 c147_86 (xc_V (pc' := 89) (r := wa) (as := [.ref cu]) (st := []) (lm_0_281) rfl rfl (Nat.le_of_ble_eq_true rfl) w1931 gwa sh_6 (by decide) rfl (by decide) (s_91 w1931 gwa gcu) (fun R2003 T2004 H2005 p2006 => ?_))
                obtain ⟨e2007, w2009, f2010, e2008⟩ := p2006
                subst e2007
                subst e2008
                have f2011 := f1936.tr f2010 rfl
                have f2012 := f1932.tr f2010 rfl
                show wp _ _ 147 89 [(2, vI v2000), (3, vI v1928), (0, .ref r0)] [] _ H2005 _
                refine wp_of e147 c147_89 (rw_iinc (pc' := 92) (z := v1928) (L' := [(3, vI (v1928 + 1)), (2, vI v2000), (0, .ref r0)]) rfl rfl rfl rfl ?_)
                refine wp_of e147 c147_92 (rw_goto (p1 := 34) (by decide) ?_)
                exact wp_lc (ks := [3, 2, 0]) (wl_c rfl (wl_c rfl (wl_c rfl wl_n))) rfl (by decide) (ih1927 _ (by omega) (v1928 + 1) v2000 H2005 w2009 f2012 ⟨by omega, by omega⟩ ⟨b2002.1, b2002.2⟩ rfl)
      exact wp_lc (ks := [3, 2, 1, 0]) (wl_c rfl (wl_c rfl (wl_c rfl wl_n))) rfl (by decide) (lp1925 _ 0 0 H1526 w1530 wfr.rf ⟨by decide, by decide⟩ ⟨by decide, by decide⟩ rfl)
    · exfalso
      omega
  · show wp _ _ 147 8 [(0, .ref r0)] [vI z1515] _ H _
    refine wp_of e147 c147_8 (rw_istore_n (pc' := 9) (z := z1515) (L' := [(1, vI z1515), (0, .ref r0)]) rfl rfl rfl ?_)
    refine wp_of e147 c147_9 (rw_iload_n (pc' := 10) (z := z1515) rfl rfl ?_)
    refine wp_of e147 c147_10 (rw_if_eq (p1 := 19) (p2 := 13) (by decide) rfl ⟨Int.le_trans (by decide) b1516.1, Int.le_trans b1516.2 (by decide)⟩ (fun c2013 => ?_) (fun c2013 => ?_))
    · exfalso
      omega
    · refine wp_of e147 c147_13 (rw_aload_n (pc' := 14) (v := .ref r0) rfl rfl rfl ?_)
      refine wp_of e147 c147_14 (rw_iload_n (pc' := 15) (z := z1515) rfl rfl ?_)
      refine wp_of e147 c147_15 (xc_V (pc' := 18) (r := r0) (as := [vI z1515]) (st := []) (lm_0_70) rfl rfl (Nat.le_of_ble_eq_true rfl) hW g0 sh_1 (by decide) rfl (by decide) (s_12 hW g0 ⟨Int.le_trans (by decide) b1516.1, Int.le_trans b1516.2 (by decide)⟩) (fun R2014 T2015 H2016 p2017 => ?_))
      obtain ⟨e2018, w2020, f2021, z2022, e2019, b2023⟩ := p2017
      subst e2018
      subst e2019
      have f2024 := f0.tr f2021 rfl
      show wp _ _ 147 18 [(1, vI z1515), (0, .ref r0)] [vI z2022] _ H2016 _
      have h2025 : CEN T H2016 ce e d := (CEN_fr hW gce f2021 rfl hCEN_ce)
      exact wp_ireturn e147 c147_18 rfl ⟨rfl, w2020, f2024, z2022, rfl, ⟨b2023.1, b2023.2⟩, (h2025)⟩
/-! StrikeAwake.seek()I  -/
abbrev uq_156 (r0 : Nat) (cu : Nat) (wa : Nat) (ce : Nat) (e : xD) (d : xD) (n : Int) (T : wq_T) (H : wq_H) : Option Value → wq_T → wq_H → Prop := fun r T' H' => T = T' ∧ WT T H' ∧ wfr [(12, 5), (12, 6), (12, 7), (12, 8), (12, 9), (27, 17), (1, 10), (6, 5), (8, 999), (10, 999), (15, 999), (9, 999), (18, 999), (19, 999), (7, 999), (11, 999), (17, 999), (13, 999)] T H H' ∧ ∃ z : Int, some (vI z) = r ∧ ((-2147483648) ≤ z ∧ z ≤ 2147483647) ∧ ((CEN T H' ce e d))
set_option maxHeartbeats 4000000 in
theorem u_156 {kt : Nat → Option mc_E} {T : wq_T} {H : wq_H} {r0 : Nat} {cu : Nat} {wa : Nat} {ce : Nat} {e : xD} {d : xD} {n : Int} (hW : WT T H) (g0 : T.2.2.2 r0 = some 1) (qcu : H r0 6 = (cu : Int)) (gcu : T.2.2.2 cu = some 27) (qwa : H r0 2 = (wa : Int)) (gwa : T.2.2.2 wa = some 6) (qce : H r0 3 = (ce : Int)) (gce : T.2.2.2 ce = some 12) (p0 : ∀ i, i ≠ 13 → e i = d i) (p1 : XW d) (p2 : e 0 3 = d 0 3) (p3 : e 0 0 = d 0 0) (p4 : H r0 8 = 0 ∨ n = xlots d) (p5 : H r0 8 ≠ 0 ∨ (d 0 3 = 0 ∧ d 0 0 = 0)) (hCU_cu : CU T H cu e d n) (hCEN_ce : CEN T H ce e d) (hHDR_ce : HDR T H ce ) : wpc kt 6 156 [.ref r0] T H (uq_156 r0 cu wa ce e d n T H) := by
  refine wp_enter e156 (Nat.le_of_ble_eq_true rfl) rfl ?_
  have f0 : wfr [(12, 5), (12, 6), (12, 7), (12, 8), (12, 9), (27, 17), (1, 10), (6, 5), (8, 999), (10, 999), (15, 999), (9, 999), (18, 999), (19, 999), (7, 999), (11, 999), (17, 999), (13, 999)] T H H := wfr.rf
  show wp _ _ 156 0 [(0, .ref r0)] [] _ H _
  have u1081 := CU_k hCU_cu
  have b1082 : 0 ≤ H r0 8 ∧ H r0 8 ≤ 1 := hW.box g0 (n := 13) rfl (by decide) rfl
  have _c7 : d 0 0 ≤ 24 := p1.2.1.2.1
  refine wp_of e156 c156_0 (rw_aload_n (pc' := 1) (v := .ref r0) rfl rfl rfl ?_)
  refine wp_of e156 c156_1 (rw_aload_n (pc' := 2) (v := .ref r0) rfl rfl rfl ?_)
  refine wp_of e156 c156_2 (xg_I (pc' := 5) lf_0_58 hW g0 sh_1 (by decide) (by decide) ty_1_8 rfl rfl (fun b1083 b1084 => ?_))
  refine wp_of e156 c156_5 (xc_V (pc' := 8) (r := r0) (as := [vI (H r0 8)]) (st := []) (lm_0_174) rfl rfl (Nat.le_of_ble_eq_true rfl) hW g0 sh_1 (by decide) rfl (by decide) (u_83 (e := e) (d := d) (n := n) hW g0 ⟨b1083, b1084⟩ qcu gcu qwa gwa qce gce (by assumption) (by assumption) (by omega) (by omega) (by omega) hCU_cu hCEN_ce hHDR_ce) (fun R1085 T1086 H1087 p1088 => ?_))
  obtain ⟨e1089, w1091, f1092, z1093, e1090, b1094, p1095⟩ := p1088
  subst e1089
  subst e1090
  rcases p1095 with ⟨a1096, a1097, a1098, a1099, a1100, a1101⟩ | ⟨a1102, a1103, a1104⟩
  · have f1105 := f0.tr f1092 rfl
    show wp _ _ 156 8 [(0, .ref r0)] [vI z1093] _ H1087 _
    refine wp_of e156 c156_8 (rw_istore_n (pc' := 9) (z := z1093) (L' := [(1, vI z1093), (0, .ref r0)]) rfl rfl rfl ?_)
    refine wp_of e156 c156_9 (rw_iload_n (pc' := 10) (z := z1093) rfl rfl ?_)
    refine wp_of e156 c156_10 (rw_if_eq (p1 := 19) (p2 := 13) (by decide) rfl ⟨Int.le_trans (by decide) b1094.1, Int.le_trans b1094.2 (by decide)⟩ (fun c1106 => ?_) (fun c1106 => ?_))
    · refine wp_of e156 c156_19 (rw_aload_n (pc' := 20) (v := .ref r0) rfl rfl rfl ?_)
      have k1107 : H1087 r0 3 = H r0 3 := (f1092 r0 3 _ g0 rfl)
      have q1108 : H1087 r0 3 = (ce : Int) := k1107.trans qce
      refine wp_of e156 c156_20 (xg_K (pc' := 23) lf_0_30 w1091 g0 sh_1 (by decide) (by decide) rfl q1108 rfl ?_)
      refine wp_of e156 c156_23 (rw_aload_n (pc' := 24) (v := .ref r0) rfl rfl rfl ?_)
      have k1109 : H1087 r0 6 = H r0 6 := (f1092 r0 6 _ g0 rfl)
      have q1110 : H1087 r0 6 = (cu : Int) := k1109.trans qcu
      refine wp_of e156 c156_24 (xg_K (pc' := 27) lf_0_51 w1091 g0 sh_1 (by decide) (by decide) rfl q1110 rfl ?_)
      refine wp_of e156 c156_27 (xg_I (pc' := 30) lf_0_298 w1091 gcu sh_27 (by decide) (by decide) ty_27_17 rfl rfl (fun b1111 b1112 => ?_))
      refine wp_of e156 c156_30 (rw_aload_n (pc' := 31) (v := .ref r0) rfl rfl rfl ?_)
      refine wp_of e156 c156_31 (xg_K (pc' := 34) lf_0_51 w1091 g0 sh_1 (by decide) (by decide) rfl q1110 rfl ?_)
      refine wp_of e156 c156_34 (xc_V (pc' := 37) (r := ce) (as := [vI (H1087 cu 17), .ref cu]) (st := []) (lm_0_301) rfl rfl (Nat.le_of_ble_eq_true rfl) w1091 gce sh_12 (by decide) rfl (by decide) (s_124 w1091 gce ⟨b1111, b1112⟩ gcu) (fun R1113 T1114 H1115 p1116 => ?_))
      obtain ⟨e1117, e1119, z1120, e1118, b1121⟩ := p1116
      subst e1117
      subst e1118
      subst e1119
      show wp _ _ 156 37 [(1, vI z1093), (0, .ref r0)] [vI z1120] _ H1087 _
      refine wp_of e156 c156_37 (rw_istore_n (pc' := 38) (z := z1120) (L' := [(2, vI z1120), (1, vI z1093), (0, .ref r0)]) rfl rfl rfl ?_)
      refine wp_of e156 c156_38 (rw_iload_n (pc' := 39) (z := z1120) rfl rfl ?_)
      refine wp_of e156 c156_39 (rw_if_ge (p1 := 49) (p2 := 42) (by decide) rfl ⟨Int.le_trans (by decide) b1121.1, Int.le_trans b1121.2 (by decide)⟩ (fun c1122 => ?_) (fun c1122 => ?_))
      · refine wp_of e156 c156_49 (rw_aload_n (pc' := 50) (v := .ref r0) rfl rfl rfl ?_)
        refine wp_of e156 c156_50 (xg_K (pc' := 53) lf_0_51 w1091 g0 sh_1 (by decide) (by decide) rfl q1110 rfl ?_)
        refine wp_of e156 c156_53 (rw_iload_n (pc' := 54) (z := z1120) rfl rfl ?_)
        refine wp_of e156 c156_54 (rw_iconst (pc' := 55) rfl ?_)
        refine wp_of e156 c156_55 (rw_iadd (pc' := 56) rfl ?_)
        refine wp_of e156 c156_56 (xp_I (pc' := 59) lf_0_298 w1091 gcu sh_27 (by decide) (by decide) ty_27_17 rfl rfl (by omega) (by omega) ⟨by omega, by omega⟩ rfl (fun H1123 e1124 w1125 => ?_))
        have f1126 := f1105.put' e1124 gcu rfl
        have k1127 : H1123 cu 17 = z1120 + 1 := wq_u_s e1124
        refine wp_of e156 c156_59 (rw_aload_n (pc' := 60) (v := .ref r0) rfl rfl rfl ?_)
        refine wp_of e156 c156_60 (rw_iload_n (pc' := 61) (z := z1120) rfl rfl ?_)
        refine wp_of e156 c156_61 (xc_V (pc' := 64) (r := r0) (as := [vI z1120]) (st := []) (lm_0_99) rfl rfl (Nat.le_of_ble_eq_true rfl) w1125 g0 sh_1 (by decide) rfl (by decide) (s_51 w1125 g0 ⟨Int.le_trans (by decide) b1121.1, Int.le_trans b1121.2 (by decide)⟩) (fun R1128 T1129 H1130 p1131 => ?_))
        obtain ⟨e1132, w1134, f1135, z1136, e1133, b1137⟩ := p1131
        subst e1132
        subst e1133
        have f1138 := f1126.tr f1135 rfl
        show wp _ _ 156 64 [(2, vI z1120), (1, vI z1093), (0, .ref r0)] [vI z1136] _ H1130 _
        have h1139 : CEN T H1130 ce e d := (CEN_fr w1125 gce f1135 rfl (CEN_fr w1091 gce ((wfr.rf (l := [(27, 17)])).put' e1124 gcu rfl) rfl a1099))
        exact wp_ireturn e156 c156_64 rfl ⟨rfl, w1134, f1138, z1136, rfl, ⟨b1137.1, b1137.2⟩, (h1139)⟩
      · refine wp_of e156 c156_42 (rw_aload_n (pc' := 43) (v := .ref r0) rfl rfl rfl ?_)
        refine wp_of e156 c156_43 (rw_bipush (pc' := 45) (z := 6) rfl (by decide) ?_)
        refine wp_of e156 c156_45 (xc_V (pc' := 48) (r := r0) (as := [vI 6]) (st := []) (lm_0_70) rfl rfl (Nat.le_of_ble_eq_true rfl) w1091 g0 sh_1 (by decide) rfl (by decide) (s_12 w1091 g0 ⟨by decide, by decide⟩) (fun R1140 T1141 H1142 p1143 => ?_))
        obtain ⟨e1144, w1146, f1147, z1148, e1145, b1149⟩ := p1143
        subst e1144
        subst e1145
        have f1150 := f1105.tr f1147 rfl
        show wp _ _ 156 48 [(2, vI z1120), (1, vI z1093), (0, .ref r0)] [vI z1148] _ H1142 _
        have h1151 : CEN T H1142 ce e d := (CEN_fr w1091 gce f1147 rfl a1099)
        exact wp_ireturn e156 c156_48 rfl ⟨rfl, w1146, f1150, z1148, rfl, ⟨b1149.1, b1149.2⟩, (h1151)⟩
    · exfalso
      omega
  · have f1152 := f0.tr f1092 rfl
    show wp _ _ 156 8 [(0, .ref r0)] [vI z1093] _ H1087 _
    refine wp_of e156 c156_8 (rw_istore_n (pc' := 9) (z := z1093) (L' := [(1, vI z1093), (0, .ref r0)]) rfl rfl rfl ?_)
    refine wp_of e156 c156_9 (rw_iload_n (pc' := 10) (z := z1093) rfl rfl ?_)
    refine wp_of e156 c156_10 (rw_if_eq (p1 := 19) (p2 := 13) (by decide) rfl ⟨Int.le_trans (by decide) b1094.1, Int.le_trans b1094.2 (by decide)⟩ (fun c1153 => ?_) (fun c1153 => ?_))
    · exfalso
      omega
    · refine wp_of e156 c156_13 (rw_aload_n (pc' := 14) (v := .ref r0) rfl rfl rfl ?_)
      refine wp_of e156 c156_14 (rw_iload_n (pc' := 15) (z := z1093) rfl rfl ?_)
      refine wp_of e156 c156_15 (xc_V (pc' := 18) (r := r0) (as := [vI z1093]) (st := []) (lm_0_70) rfl rfl (Nat.le_of_ble_eq_true rfl) w1091 g0 sh_1 (by decide) rfl (by decide) (s_12 w1091 g0 ⟨Int.le_trans (by decide) b1094.1, Int.le_trans b1094.2 (by decide)⟩) (fun R1154 T1155 H1156 p1157 => ?_))
      obtain ⟨e1158, w1160, f1161, z1162, e1159, b1163⟩ := p1157
      subst e1158
      subst e1159
      have f1164 := f1152.tr f1161 rfl
      show wp _ _ 156 18 [(1, vI z1093), (0, .ref r0)] [vI z1162] _ H1156 _
      have h1165 : CEN T H1156 ce e d := (CEN_fr w1091 gce f1161 rfl a1104)
      exact wp_ireturn e156 c156_18 rfl ⟨rfl, w1160, f1164, z1162, rfl, ⟨b1163.1, b1163.2⟩, (h1165)⟩
end
section
/-! A PARISH OF THE REFERENCE, MADE (own work): nothing is told yet -/
abbrev uq_171 (T0 : wq_T) (H0 : wq_H) : Option Value → wq_T → wq_H → Prop := fun r T' H' => q_171 T0 H0 r T' H' ∧ (∀ m, T0.2.2.2 m = some 42 → H0 m 16 = 0 → DM T' H' (256 + T0.2.1) m xD0) ∧ (∀ j, 9 ≤ j → j ≤ 26 → ((256 + T0.2.1 : Nat) : Int) ≤ H' (256 + T0.2.1) j) ∧ ∀ a t, T'.2.2.2 a = some t → T0.2.2.2 a = some t ∨ 54 ≤ t
theorem wNP.allf {T0 : wq_T} {H0 : wq_H} {T : wq_T} {H : wq_H} (h : wNP T0 H0 T H 18) (hx : H (256 + T0.2.1) 8 = -1) (hW : WT T0 H0) (hf : ∀ a, 256 + T0.2.1 ≤ a → T0.1 a = none) : uq_171 T0 H0 none (T.1, T.2.1, T.2.2.1, wNPg T0) H := by
  refine ⟨h.all (by rw [hx]; exact ⟨by decide, by decide⟩) hW hf, fun m gm h16 => ?_, fun j h1 h2 => by
    have h3 := h.fr (j - 9) (by omega)
    rw [show 9 + (j - 9) = j by omega] at h3
    rw [h3]
    omega, fun a t h => by
    have h : wNPg T0 a = some t := h
    unfold wNPg at h
    split at h
    · cases h
      exact Or.inr (by decide)
    · split at h
      · have := Option.some.inj h
        exact Or.inr (by omega)
      · exact Or.inl h⟩
  have hm : m < 256 + T0.2.1 := by
    by_cases q : m < 256 + T0.2.1
    · exact q
    · have h1 := (hW.2 m 42 gm).1
      rw [hf m (by omega)] at h1
      cases h1
  have e16 : H m 16 = 0 := by rw [(h.old m hm).2]; exact h16
  refine ⟨wNPg_mono hW hf m 42 gm, ⟨h.f0 0 (by omega), h.f0 1 (by omega), h.f0 2 (by omega), h.f0 3 (by omega), h.f0 4 (by omega), h.f0 5 (by omega), h.f0 6 (by omega), h.f0 7 (by omega), hx, e16, by decide, by decide⟩, xdP_0, ⟨257 + T0.2.1 + 0, h.fr 0 (by omega), wNP.tag (by omega), fun k _ => (h.ar 0 (by omega)).2 k⟩, ⟨257 + T0.2.1 + 1, h.fr 1 (by omega), wNP.tag (by omega), fun k _ => (h.ar 1 (by omega)).2 k⟩, ⟨257 + T0.2.1 + 2, h.fr 2 (by omega), wNP.tag (by omega), fun k _ => (h.ar 2 (by omega)).2 k⟩, ⟨257 + T0.2.1 + 3, h.fr 3 (by omega), wNP.tag (by omega), fun k _ => (h.ar 3 (by omega)).2 k⟩, ⟨257 + T0.2.1 + 4, h.fr 4 (by omega), wNP.tag (by omega), fun k _ => (h.ar 4 (by omega)).2 k⟩, ⟨257 + T0.2.1 + 5, h.fr 5 (by omega), wNP.tag (by omega), fun k _ => (h.ar 5 (by omega)).2 k⟩, ⟨257 + T0.2.1 + 6, h.fr 6 (by omega), wNP.tag (by omega), fun k _ => (h.ar 6 (by omega)).2 k⟩, ⟨257 + T0.2.1 + 7, h.fr 7 (by omega), wNP.tag (by omega), fun k _ => (h.ar 7 (by omega)).2 k⟩, ⟨257 + T0.2.1 + 8, h.fr 8 (by omega), wNP.tag (by omega), fun k _ => (h.ar 8 (by omega)).2 k⟩, ⟨257 + T0.2.1 + 9, h.fr 9 (by omega), wNP.tag (by omega), fun k _ => (h.ar 9 (by omega)).2 k⟩, ⟨257 + T0.2.1 + 10, h.fr 10 (by omega), wNP.tag (by omega), fun k _ => (h.ar 10 (by omega)).2 k⟩, ⟨257 + T0.2.1 + 11, h.fr 11 (by omega), wNP.tag (by omega), fun k _ => (h.ar 11 (by omega)).2 k⟩, ⟨257 + T0.2.1 + 12, h.fr 12 (by omega), wNP.tag (by omega), fun k _ => (h.ar 12 (by omega)).2 k⟩, ⟨257 + T0.2.1 + 13, h.fr 13 (by omega), wNP.tag (by omega), fun k _ => (h.ar 13 (by omega)).2 k⟩, ⟨257 + T0.2.1 + 14, h.fr 14 (by omega), wNP.tag (by omega), fun k _ => (h.ar 14 (by omega)).2 k⟩, ⟨257 + T0.2.1 + 16, h.fr 16 (by omega), wNP.tag (by omega), fun k _ => (h.ar 16 (by omega)).2 k⟩, ⟨257 + T0.2.1 + 17, h.fr 17 (by omega), wNP.tag (by omega), fun k _ => (h.ar 17 (by omega)).2 k⟩⟩
theorem wPI_dm {T : wq_T} {H : wq_H} {R m : Nat} {d : xD} (h : DM T H R m d) : wPI H R = 1 := by
  obtain ⟨-, -, hp, -, ⟨b1, q1, -, a1⟩, ⟨b2, q2, -, a2⟩, ⟨b3, q3, -, a3⟩, ⟨b4, q4, -, a4⟩, -⟩ := h
  refine wPI_of q1 q2 q3 q4 (fun k hk => ?_)
  rw [a1 k hk, a2 k hk, a3 k hk, a4 k hk]
  have := hp k
  omega
set_option maxHeartbeats 4000000 in
theorem u_171 {kt : Nat → Option mc_E} {T : wq_T} {H : wq_H} (hW : WT T H) (hf : ∀ a, 256 + T.2.1 ≤ a → T.1 a = none) : wpc kt 1 171 [.ref (256 + T.2.1)] (wq_gT T (110, 27) 27) (wq_gH H (256 + T.2.1) (wq_d 10)) (uq_171 T H) := by
  refine wp_enter e171 (Nat.le_of_ble_eq_true rfl) rfl ?_
  have G18 : (∀ T' H', wNP T H T' H' 18 → H' (256 + T.2.1) 8 = -1 → wp kt 0 171 147 [(0, .ref (256 + T.2.1))] [] T' H' (uq_171 T H)) := fun T' H' np hx => wp.ghost (wNPg T) (wp_return e171 c171_147 rfl (np.allf hx hW hf))
  have G17 : (∀ T' H', wNP T H T' H' 17 → H' (256 + T.2.1) 8 = -1 → wp kt 0 171 139 [(0, .ref (256 + T.2.1))] [] T' H' (uq_171 T H)) := fun T' H' np hx => by
    have hn := np.n
    refine wp_of e171 c171_139 (rw_aload_n (pc' := 140) (v := .ref (256 + T.2.1)) rfl rfl rfl ?_)
    refine wp_of e171 c171_140 (rw_bipush (pc' := 142) (z := 6) rfl (by decide) ?_)
    refine wp_of e171 c171_142 (rw_newa (pc' := 144) (tt := 0) (n := 6) rfl (by decide) (by decide) (by decide) rfl rfl ?_)
    refine wp_of e171 c171_144 (px_R (pc' := 147) (z := ((256 + T'.2.1 : Nat) : Int)) lf_10_69 (by show (if _ = _ then _ else T'.1 _) = _; rw [if_neg (by omega)]; exact np.ob) (by omega) (by decide) rfl (vR_of _) trivial rfl ?_)
    exact G18 _ _ (np.next (i := 17) sh_72 (by decide)) (by rw [wq_u_ne (by omega), wq_gH_ne (by omega)]; exact hx)
  have G16 : (∀ T' H', wNP T H T' H' 16 → H' (256 + T.2.1) 8 = -1 → wp kt 0 171 131 [(0, .ref (256 + T.2.1))] [] T' H' (uq_171 T H)) := fun T' H' np hx => by
    have hn := np.n
    refine wp_of e171 c171_131 (rw_aload_n (pc' := 132) (v := .ref (256 + T.2.1)) rfl rfl rfl ?_)
    refine wp_of e171 c171_132 (rw_bipush (pc' := 134) (z := 6) rfl (by decide) ?_)
    refine wp_of e171 c171_134 (rw_newa (pc' := 136) (tt := 0) (n := 6) rfl (by decide) (by decide) (by decide) rfl rfl ?_)
    refine wp_of e171 c171_136 (px_R (pc' := 139) (z := ((256 + T'.2.1 : Nat) : Int)) lf_10_66 (by show (if _ = _ then _ else T'.1 _) = _; rw [if_neg (by omega)]; exact np.ob) (by omega) (by decide) rfl (vR_of _) trivial rfl ?_)
    exact G17 _ _ (np.next (i := 16) sh_71 (by decide)) (by rw [wq_u_ne (by omega), wq_gH_ne (by omega)]; exact hx)
  have G15 : (∀ T' H', wNP T H T' H' 15 → H' (256 + T.2.1) 8 = -1 → wp kt 0 171 124 [(0, .ref (256 + T.2.1))] [] T' H' (uq_171 T H)) := fun T' H' np hx => by
    have hn := np.n
    refine wp_of e171 c171_124 (rw_aload_n (pc' := 125) (v := .ref (256 + T.2.1)) rfl rfl rfl ?_)
    refine wp_of e171 c171_125 (rw_iconst (pc' := 126) rfl ?_)
    refine wp_of e171 c171_126 (rw_newa (pc' := 128) (tt := 0) (n := 4) rfl (by decide) (by decide) (by decide) rfl rfl ?_)
    refine wp_of e171 c171_128 (px_R (pc' := 131) (z := ((256 + T'.2.1 : Nat) : Int)) lf_10_63 (by show (if _ = _ then _ else T'.1 _) = _; rw [if_neg (by omega)]; exact np.ob) (by omega) (by decide) rfl (vR_of _) trivial rfl ?_)
    exact G16 _ _ (np.next (i := 15) sh_70 (by decide)) (by rw [wq_u_ne (by omega), wq_gH_ne (by omega)]; exact hx)
  have G14 : (∀ T' H', wNP T H T' H' 14 → H' (256 + T.2.1) 8 = -1 → wp kt 0 171 117 [(0, .ref (256 + T.2.1))] [] T' H' (uq_171 T H)) := fun T' H' np hx => by
    have hn := np.n
    refine wp_of e171 c171_117 (rw_aload_n (pc' := 118) (v := .ref (256 + T.2.1)) rfl rfl rfl ?_)
    refine wp_of e171 c171_118 (rw_iconst (pc' := 119) rfl ?_)
    refine wp_of e171 c171_119 (rw_newa (pc' := 121) (tt := 0) (n := 4) rfl (by decide) (by decide) (by decide) rfl rfl ?_)
    refine wp_of e171 c171_121 (px_R (pc' := 124) (z := ((256 + T'.2.1 : Nat) : Int)) lf_10_60 (by show (if _ = _ then _ else T'.1 _) = _; rw [if_neg (by omega)]; exact np.ob) (by omega) (by decide) rfl (vR_of _) trivial rfl ?_)
    exact G15 _ _ (np.next (i := 14) sh_69 (by decide)) (by rw [wq_u_ne (by omega), wq_gH_ne (by omega)]; exact hx)
  have G13 : (∀ T' H', wNP T H T' H' 13 → H' (256 + T.2.1) 8 = -1 → wp kt 0 171 110 [(0, .ref (256 + T.2.1))] [] T' H' (uq_171 T H)) := fun T' H' np hx => by
    have hn := np.n
    refine wp_of e171 c171_110 (rw_aload_n (pc' := 111) (v := .ref (256 + T.2.1)) rfl rfl rfl ?_)
    refine wp_of e171 c171_111 (rw_iconst (pc' := 112) rfl ?_)
    refine wp_of e171 c171_112 (rw_newa (pc' := 114) (tt := 0) (n := 4) rfl (by decide) (by decide) (by decide) rfl rfl ?_)
    refine wp_of e171 c171_114 (px_R (pc' := 117) (z := ((256 + T'.2.1 : Nat) : Int)) lf_10_57 (by show (if _ = _ then _ else T'.1 _) = _; rw [if_neg (by omega)]; exact np.ob) (by omega) (by decide) rfl (vR_of _) trivial rfl ?_)
    exact G14 _ _ (np.next (i := 13) sh_68 (by decide)) (by rw [wq_u_ne (by omega), wq_gH_ne (by omega)]; exact hx)
  have G12 : (∀ T' H', wNP T H T' H' 12 → H' (256 + T.2.1) 8 = -1 → wp kt 0 171 102 [(0, .ref (256 + T.2.1))] [] T' H' (uq_171 T H)) := fun T' H' np hx => by
    have hn := np.n
    refine wp_of e171 c171_102 (rw_aload_n (pc' := 103) (v := .ref (256 + T.2.1)) rfl rfl rfl ?_)
    refine wp_of e171 c171_103 (rw_bipush (pc' := 105) (z := 24) rfl (by decide) ?_)
    refine wp_of e171 c171_105 (rw_newa (pc' := 107) (tt := 0) (n := 24) rfl (by decide) (by decide) (by decide) rfl rfl ?_)
    refine wp_of e171 c171_107 (px_R (pc' := 110) (z := ((256 + T'.2.1 : Nat) : Int)) lf_10_54 (by show (if _ = _ then _ else T'.1 _) = _; rw [if_neg (by omega)]; exact np.ob) (by omega) (by decide) rfl (vR_of _) trivial rfl ?_)
    exact G13 _ _ (np.next (i := 12) sh_67 (by decide)) (by rw [wq_u_ne (by omega), wq_gH_ne (by omega)]; exact hx)
  have G11 : (∀ T' H', wNP T H T' H' 11 → H' (256 + T.2.1) 8 = -1 → wp kt 0 171 95 [(0, .ref (256 + T.2.1))] [] T' H' (uq_171 T H)) := fun T' H' np hx => by
    have hn := np.n
    refine wp_of e171 c171_95 (rw_aload_n (pc' := 96) (v := .ref (256 + T.2.1)) rfl rfl rfl ?_)
    refine wp_of e171 c171_96 (rw_iconst (pc' := 97) rfl ?_)
    refine wp_of e171 c171_97 (rw_newa (pc' := 99) (tt := 0) (n := 3) rfl (by decide) (by decide) (by decide) rfl rfl ?_)
    refine wp_of e171 c171_99 (px_R (pc' := 102) (z := ((256 + T'.2.1 : Nat) : Int)) lf_10_51 (by show (if _ = _ then _ else T'.1 _) = _; rw [if_neg (by omega)]; exact np.ob) (by omega) (by decide) rfl (vR_of _) trivial rfl ?_)
    exact G12 _ _ (np.next (i := 11) sh_66 (by decide)) (by rw [wq_u_ne (by omega), wq_gH_ne (by omega)]; exact hx)
  have G10 : (∀ T' H', wNP T H T' H' 10 → H' (256 + T.2.1) 8 = -1 → wp kt 0 171 88 [(0, .ref (256 + T.2.1))] [] T' H' (uq_171 T H)) := fun T' H' np hx => by
    have hn := np.n
    refine wp_of e171 c171_88 (rw_aload_n (pc' := 89) (v := .ref (256 + T.2.1)) rfl rfl rfl ?_)
    refine wp_of e171 c171_89 (rw_iconst (pc' := 90) rfl ?_)
    refine wp_of e171 c171_90 (rw_newa (pc' := 92) (tt := 0) (n := 3) rfl (by decide) (by decide) (by decide) rfl rfl ?_)
    refine wp_of e171 c171_92 (px_R (pc' := 95) (z := ((256 + T'.2.1 : Nat) : Int)) lf_10_48 (by show (if _ = _ then _ else T'.1 _) = _; rw [if_neg (by omega)]; exact np.ob) (by omega) (by decide) rfl (vR_of _) trivial rfl ?_)
    exact G11 _ _ (np.next (i := 10) sh_65 (by decide)) (by rw [wq_u_ne (by omega), wq_gH_ne (by omega)]; exact hx)
  have G9 : (∀ T' H', wNP T H T' H' 9 → H' (256 + T.2.1) 8 = -1 → wp kt 0 171 81 [(0, .ref (256 + T.2.1))] [] T' H' (uq_171 T H)) := fun T' H' np hx => by
    have hn := np.n
    refine wp_of e171 c171_81 (rw_aload_n (pc' := 82) (v := .ref (256 + T.2.1)) rfl rfl rfl ?_)
    refine wp_of e171 c171_82 (rw_iconst (pc' := 83) rfl ?_)
    refine wp_of e171 c171_83 (rw_newa (pc' := 85) (tt := 0) (n := 3) rfl (by decide) (by decide) (by decide) rfl rfl ?_)
    refine wp_of e171 c171_85 (px_R (pc' := 88) (z := ((256 + T'.2.1 : Nat) : Int)) lf_10_45 (by show (if _ = _ then _ else T'.1 _) = _; rw [if_neg (by omega)]; exact np.ob) (by omega) (by decide) rfl (vR_of _) trivial rfl ?_)
    exact G10 _ _ (np.next (i := 9) sh_64 (by decide)) (by rw [wq_u_ne (by omega), wq_gH_ne (by omega)]; exact hx)
  have G8 : (∀ T' H', wNP T H T' H' 8 → H' (256 + T.2.1) 8 = -1 → wp kt 0 171 73 [(0, .ref (256 + T.2.1))] [] T' H' (uq_171 T H)) := fun T' H' np hx => by
    have hn := np.n
    refine wp_of e171 c171_73 (rw_aload_n (pc' := 74) (v := .ref (256 + T.2.1)) rfl rfl rfl ?_)
    refine wp_of e171 c171_74 (rw_bipush (pc' := 76) (z := 6) rfl (by decide) ?_)
    refine wp_of e171 c171_76 (rw_newa (pc' := 78) (tt := 3) (n := 6) rfl (by decide) (by decide) (by decide) rfl rfl ?_)
    refine wp_of e171 c171_78 (px_R (pc' := 81) (z := ((256 + T'.2.1 : Nat) : Int)) lf_10_41 (by show (if _ = _ then _ else T'.1 _) = _; rw [if_neg (by omega)]; exact np.ob) (by omega) (by decide) rfl (vR_of _) trivial rfl ?_)
    exact G9 _ _ (np.next (i := 8) sh_63 (by decide)) (by rw [wq_u_ne (by omega), wq_gH_ne (by omega)]; exact hx)
  have G7 : (∀ T' H', wNP T H T' H' 7 → H' (256 + T.2.1) 8 = -1 → wp kt 0 171 65 [(0, .ref (256 + T.2.1))] [] T' H' (uq_171 T H)) := fun T' H' np hx => by
    have hn := np.n
    refine wp_of e171 c171_65 (rw_aload_n (pc' := 66) (v := .ref (256 + T.2.1)) rfl rfl rfl ?_)
    refine wp_of e171 c171_66 (rw_bipush (pc' := 68) (z := 6) rfl (by decide) ?_)
    refine wp_of e171 c171_68 (rw_newa (pc' := 70) (tt := 0) (n := 6) rfl (by decide) (by decide) (by decide) rfl rfl ?_)
    refine wp_of e171 c171_70 (px_R (pc' := 73) (z := ((256 + T'.2.1 : Nat) : Int)) lf_10_38 (by show (if _ = _ then _ else T'.1 _) = _; rw [if_neg (by omega)]; exact np.ob) (by omega) (by decide) rfl (vR_of _) trivial rfl ?_)
    exact G8 _ _ (np.next (i := 7) sh_62 (by decide)) (by rw [wq_u_ne (by omega), wq_gH_ne (by omega)]; exact hx)
  have G6 : (∀ T' H', wNP T H T' H' 6 → H' (256 + T.2.1) 8 = -1 → wp kt 0 171 57 [(0, .ref (256 + T.2.1))] [] T' H' (uq_171 T H)) := fun T' H' np hx => by
    have hn := np.n
    refine wp_of e171 c171_57 (rw_aload_n (pc' := 58) (v := .ref (256 + T.2.1)) rfl rfl rfl ?_)
    refine wp_of e171 c171_58 (rw_bipush (pc' := 60) (z := 6) rfl (by decide) ?_)
    refine wp_of e171 c171_60 (rw_newa (pc' := 62) (tt := 0) (n := 6) rfl (by decide) (by decide) (by decide) rfl rfl ?_)
    refine wp_of e171 c171_62 (px_R (pc' := 65) (z := ((256 + T'.2.1 : Nat) : Int)) lf_10_35 (by show (if _ = _ then _ else T'.1 _) = _; rw [if_neg (by omega)]; exact np.ob) (by omega) (by decide) rfl (vR_of _) trivial rfl ?_)
    exact G7 _ _ (np.next (i := 6) sh_61 (by decide)) (by rw [wq_u_ne (by omega), wq_gH_ne (by omega)]; exact hx)
  have G5 : (∀ T' H', wNP T H T' H' 5 → H' (256 + T.2.1) 8 = -1 → wp kt 0 171 49 [(0, .ref (256 + T.2.1))] [] T' H' (uq_171 T H)) := fun T' H' np hx => by
    have hn := np.n
    refine wp_of e171 c171_49 (rw_aload_n (pc' := 50) (v := .ref (256 + T.2.1)) rfl rfl rfl ?_)
    refine wp_of e171 c171_50 (rw_bipush (pc' := 52) (z := 6) rfl (by decide) ?_)
    refine wp_of e171 c171_52 (rw_newa (pc' := 54) (tt := 0) (n := 6) rfl (by decide) (by decide) (by decide) rfl rfl ?_)
    refine wp_of e171 c171_54 (px_R (pc' := 57) (z := ((256 + T'.2.1 : Nat) : Int)) lf_10_32 (by show (if _ = _ then _ else T'.1 _) = _; rw [if_neg (by omega)]; exact np.ob) (by omega) (by decide) rfl (vR_of _) trivial rfl ?_)
    exact G6 _ _ (np.next (i := 5) sh_60 (by decide)) (by rw [wq_u_ne (by omega), wq_gH_ne (by omega)]; exact hx)
  have G4 : (∀ T' H', wNP T H T' H' 4 → H' (256 + T.2.1) 8 = -1 → wp kt 0 171 41 [(0, .ref (256 + T.2.1))] [] T' H' (uq_171 T H)) := fun T' H' np hx => by
    have hn := np.n
    refine wp_of e171 c171_41 (rw_aload_n (pc' := 42) (v := .ref (256 + T.2.1)) rfl rfl rfl ?_)
    refine wp_of e171 c171_42 (rw_bipush (pc' := 44) (z := 6) rfl (by decide) ?_)
    refine wp_of e171 c171_44 (rw_newa (pc' := 46) (tt := 0) (n := 6) rfl (by decide) (by decide) (by decide) rfl rfl ?_)
    refine wp_of e171 c171_46 (px_R (pc' := 49) (z := ((256 + T'.2.1 : Nat) : Int)) lf_10_29 (by show (if _ = _ then _ else T'.1 _) = _; rw [if_neg (by omega)]; exact np.ob) (by omega) (by decide) rfl (vR_of _) trivial rfl ?_)
    exact G5 _ _ (np.next (i := 4) sh_59 (by decide)) (by rw [wq_u_ne (by omega), wq_gH_ne (by omega)]; exact hx)
  have G3 : (∀ T' H', wNP T H T' H' 3 → H' (256 + T.2.1) 8 = -1 → wp kt 0 171 33 [(0, .ref (256 + T.2.1))] [] T' H' (uq_171 T H)) := fun T' H' np hx => by
    have hn := np.n
    refine wp_of e171 c171_33 (rw_aload_n (pc' := 34) (v := .ref (256 + T.2.1)) rfl rfl rfl ?_)
    refine wp_of e171 c171_34 (rw_bipush (pc' := 36) (z := 6) rfl (by decide) ?_)
    refine wp_of e171 c171_36 (rw_newa (pc' := 38) (tt := 0) (n := 6) rfl (by decide) (by decide) (by decide) rfl rfl ?_)
    refine wp_of e171 c171_38 (px_R (pc' := 41) (z := ((256 + T'.2.1 : Nat) : Int)) lf_10_26 (by show (if _ = _ then _ else T'.1 _) = _; rw [if_neg (by omega)]; exact np.ob) (by omega) (by decide) rfl (vR_of _) trivial rfl ?_)
    exact G4 _ _ (np.next (i := 3) sh_58 (by decide)) (by rw [wq_u_ne (by omega), wq_gH_ne (by omega)]; exact hx)
  have G2 : (∀ T' H', wNP T H T' H' 2 → H' (256 + T.2.1) 8 = -1 → wp kt 0 171 25 [(0, .ref (256 + T.2.1))] [] T' H' (uq_171 T H)) := fun T' H' np hx => by
    have hn := np.n
    refine wp_of e171 c171_25 (rw_aload_n (pc' := 26) (v := .ref (256 + T.2.1)) rfl rfl rfl ?_)
    refine wp_of e171 c171_26 (rw_bipush (pc' := 28) (z := 6) rfl (by decide) ?_)
    refine wp_of e171 c171_28 (rw_newa (pc' := 30) (tt := 0) (n := 6) rfl (by decide) (by decide) (by decide) rfl rfl ?_)
    refine wp_of e171 c171_30 (px_R (pc' := 33) (z := ((256 + T'.2.1 : Nat) : Int)) lf_10_23 (by show (if _ = _ then _ else T'.1 _) = _; rw [if_neg (by omega)]; exact np.ob) (by omega) (by decide) rfl (vR_of _) trivial rfl ?_)
    exact G3 _ _ (np.next (i := 2) sh_57 (by decide)) (by rw [wq_u_ne (by omega), wq_gH_ne (by omega)]; exact hx)
  have G1 : (∀ T' H', wNP T H T' H' 1 → H' (256 + T.2.1) 8 = -1 → wp kt 0 171 17 [(0, .ref (256 + T.2.1))] [] T' H' (uq_171 T H)) := fun T' H' np hx => by
    have hn := np.n
    refine wp_of e171 c171_17 (rw_aload_n (pc' := 18) (v := .ref (256 + T.2.1)) rfl rfl rfl ?_)
    refine wp_of e171 c171_18 (rw_bipush (pc' := 20) (z := 6) rfl (by decide) ?_)
    refine wp_of e171 c171_20 (rw_newa (pc' := 22) (tt := 0) (n := 6) rfl (by decide) (by decide) (by decide) rfl rfl ?_)
    refine wp_of e171 c171_22 (px_R (pc' := 25) (z := ((256 + T'.2.1 : Nat) : Int)) lf_10_19 (by show (if _ = _ then _ else T'.1 _) = _; rw [if_neg (by omega)]; exact np.ob) (by omega) (by decide) rfl (vR_of _) trivial rfl ?_)
    exact G2 _ _ (np.next (i := 1) sh_56 (by decide)) (by rw [wq_u_ne (by omega), wq_gH_ne (by omega)]; exact hx)
  have G0 : (∀ T' H', wNP T H T' H' 0 → H' (256 + T.2.1) 8 = -1 → wp kt 0 171 9 [(0, .ref (256 + T.2.1))] [] T' H' (uq_171 T H)) := fun T' H' np hx => by
    have hn := np.n
    refine wp_of e171 c171_9 (rw_aload_n (pc' := 10) (v := .ref (256 + T.2.1)) rfl rfl rfl ?_)
    refine wp_of e171 c171_10 (rw_bipush (pc' := 12) (z := 6) rfl (by decide) ?_)
    refine wp_of e171 c171_12 (rw_newa (pc' := 14) (tt := 1) (n := 6) rfl (by decide) (by decide) (by decide) rfl rfl ?_)
    refine wp_of e171 c171_14 (px_R (pc' := 17) (z := ((256 + T'.2.1 : Nat) : Int)) lf_10_15 (by show (if _ = _ then _ else T'.1 _) = _; rw [if_neg (by omega)]; exact np.ob) (by omega) (by decide) rfl (vR_of _) trivial rfl ?_)
    exact G1 _ _ (np.next (i := 0) sh_55 (by decide)) (by rw [wq_u_ne (by omega), wq_gH_ne (by omega)]; exact hx)
  refine wp_of e171 c171_0 (rw_aload_n (pc' := 1) (v := .ref (256 + T.2.1)) rfl rfl rfl ?_)
  refine wp_of e171 c171_1 (rw_obj (pc' := 4) (e := _) rfl rfl (Nat.le_of_ble_eq_true rfl) rfl ?_)
  refine wp_of e171 c171_4 (rw_aload_n (pc' := 5) (v := .ref (256 + T.2.1)) rfl rfl rfl ?_)
  refine wp_of e171 c171_5 (rw_iconst (pc' := 6) rfl ?_)
  refine wp_of e171 c171_6 (px_R (pc' := 9) (z := -1) lf_10_9 (if_pos rfl) (by omega) (by decide) rfl rfl ⟨by decide, by decide⟩ rfl ?_)
  exact G0 _ _ wNP.zero.num (by rw [wq_u_eq])
end
