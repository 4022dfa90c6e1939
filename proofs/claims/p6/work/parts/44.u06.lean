/-! what methods do (own work, written by wip/gen3/sx3.py) -/
/-! StrikeAwake.awake(III)I  -/
abbrev uq_59 (r0 : Nat) (a1 : Int) (a2 : Int) (a3 : Int) (cu : Nat) (e : xD) (d : xD) (n : Int) (T : wq_T) (H : wq_H) : Option Value → wq_T → wq_H → Prop := fun r T' H' => T = T' ∧ WT T H' ∧ wfr [(1, 10)] T H H' ∧ ∃ z : Int, some (vI z) = r ∧ ((-2147483648) ≤ z ∧ z ≤ 2147483647) ∧ (((z = -1) ∧ (((a1 < 0 ∨ d 0 3 ≤ a1) ∨ a2 < 0 ∨ ((xsp d (a1).toNat).length : Int) ≤ a2) ∨ a3 < 0 ∨ d 0 0 ≤ a3)) ∨ ((0 ≤ z ∧ z ≤ 1) ∧ ((0 ≤ a1 ∧ a1 < d 0 3) ∧ 0 ≤ a2 ∧ a2 < ((xsp d (a1).toNat).length : Int)) ∧ (0 ≤ a3 ∧ a3 < d 0 0) ∧ ((z = 1 ∧ (wq_and (wq_shr (xwk d (a1).toNat ((xsp d (a1).toNat).getD (a2).toNat (0, 0))) a3) 1) ≠ 0) ∨ (z = 0 ∧ (wq_and (wq_shr (xwk d (a1).toNat ((xsp d (a1).toNat).getD (a2).toNat (0, 0))) a3) 1) = 0))))
set_option maxHeartbeats 4000000 in
theorem u_59 {kt : Nat → Option mc_E} {T : wq_T} {H : wq_H} {r0 : Nat} {a1 : Int} {a2 : Int} {a3 : Int} {cu : Nat} {e : xD} {d : xD} {n : Int} (hW : WT T H) (g0 : T.2.2.2 r0 = some 1) (i1 : (-2147483648) ≤ a1 ∧ a1 ≤ 2147483647) (i2 : (-2147483648) ≤ a2 ∧ a2 ≤ 2147483647) (i3 : (-2147483648) ≤ a3 ∧ a3 ≤ 2147483647) (qcu : H r0 6 = (cu : Int)) (gcu : T.2.2.2 cu = some 27) (p0 : e 0 3 = d 0 3) (p1 : e 0 0 = d 0 0) (hCU_cu : CU T H cu e d n) : wpc kt 3 59 [.ref r0, vI a1, vI a2, vI a3] T H (uq_59 r0 a1 a2 a3 cu e d n T H) := by
  refine wp_enter e59 (Nat.le_of_ble_eq_true rfl) rfl ?_
  have f0 : wfr [(1, 10)] T H H := wfr.rf
  show wp _ _ 59 0 [(0, .ref r0), (1, vI a1), (2, vI a2), (3, vI a3)] [] _ H _
  have u1116 := CU_k hCU_cu
  refine wp_of e59 c59_0 (rw_aload_n (pc' := 1) (v := .ref r0) rfl rfl rfl ?_)
  refine wp_of e59 c59_1 (rw_iload_n (pc' := 2) (z := a1) rfl rfl ?_)
  refine wp_of e59 c59_2 (rw_iload_n (pc' := 3) (z := a2) rfl rfl ?_)
  refine wp_of e59 c59_3 (xc_V (pc' := 6) (r := r0) (as := [vI a1, vI a2]) (st := []) (lm_0_118) rfl rfl (Nat.le_of_ble_eq_true rfl) hW g0 sh_1 (by decide) rfl (by decide) (u_57 (e := e) (d := d) (n := n) hW g0 ⟨by omega, by omega⟩ ⟨by omega, by omega⟩ qcu gcu (by omega) (by omega) hCU_cu) (fun R1117 T1118 H1119 p1120 => ?_))
  obtain ⟨e1121, e1123, z1124, e1122, b1125, p1126⟩ := p1120
  subst e1121
  subst e1122
  subst e1123
  rcases p1126 with ⟨a1127, a1128⟩ | ⟨a1129, a1130⟩
  · show wp _ _ 59 6 [(0, .ref r0), (1, vI a1), (2, vI a2), (3, vI a3)] [vI z1124] _ H _
    refine wp_of e59 c59_6 (rw_if_eq (p1 := 17) (p2 := 9) (by decide) rfl ⟨by omega, by omega⟩ (fun c1131 => ?_) (fun c1131 => ?_))
    · exfalso
      omega
    · refine wp_of e59 c59_9 (rw_aload_n (pc' := 10) (v := .ref r0) rfl rfl rfl ?_)
      refine wp_of e59 c59_10 (rw_iload_n (pc' := 11) (z := a3) rfl rfl ?_)
      refine wp_of e59 c59_11 (xc_V (pc' := 14) (r := r0) (as := [vI a3]) (st := []) (lm_0_132) rfl rfl (Nat.le_of_ble_eq_true rfl) hW g0 sh_1 (by decide) rfl (by decide) (u_60  hW g0 ⟨by omega, by omega⟩ qcu gcu) (fun R1132 T1133 H1134 p1135 => ?_))
      obtain ⟨e1136, e1138, z1139, e1137, b1140, p1141⟩ := p1135
      subst e1136
      subst e1137
      subst e1138
      rcases p1141 with ⟨a1142, a1143⟩ | ⟨a1144, a1145⟩
      · show wp _ _ 59 14 [(0, .ref r0), (1, vI a1), (2, vI a2), (3, vI a3)] [vI z1139] _ H _
        refine wp_of e59 c59_14 (rw_if_ne (p1 := 23) (p2 := 17) (by decide) rfl ⟨by omega, by omega⟩ (fun c1146 => ?_) (fun c1146 => ?_))
        · refine wp_of e59 c59_23 (rw_aload_n (pc' := 24) (v := .ref r0) rfl rfl rfl ?_)
          refine wp_of e59 c59_24 (rw_aload_n (pc' := 25) (v := .ref r0) rfl rfl rfl ?_)
          refine wp_of e59 c59_25 (xg_K (pc' := 28) lf_0_51 hW g0 sh_1 (by decide) (by decide) rfl qcu rfl ?_)
          refine wp_of e59 c59_28 (xg_R (pc' := 31) lf_0_109 hW gcu sh_27 (by decide) (by decide) ty_27_0 rfl rfl (fun r1147 q1148 g1149 => ?_))
          refine wp_of e59 c59_31 (rw_iload_n (pc' := 32) (z := a1) rfl rfl ?_)
          refine wp_of e59 c59_32 (xa_R (pc' := 33) (by decide) hW g1149 sh_28 (by decide) (ty_28 _) (by omega) (by omega) rfl (fun r1150 q1151 g1152 => ?_))
          have _z := CS_at (hCU_cu).2.1 q1148 q1151 (k := (a1).toNat) (by omega) (by omega)
          have _l := @xsp_len d (a1).toNat (hCU_cu).2.1.1
          have h1153 : PS T H r1150 d (a1).toNat (xsp d (a1).toNat) := _z.1
          have _n := h1153.1
          refine wp_of e59 c59_33 (xg_R (pc' := 36) lf_0_135 hW g1152 sh_35 (by decide) (by decide) ty_35_3 rfl rfl (fun r1154 q1155 g1156 => ?_))
          refine wp_of e59 c59_36 (rw_iload_n (pc' := 37) (z := a2) rfl rfl ?_)
          have _a := DA_at (h1153).2.2.2.2.1 q1155 (k := (a2).toNat) (by omega)
          have _x : xr4 d (a1).toNat (xsp d (a1).toNat) (a2).toNat = xwk d (a1).toNat ((xsp d (a1).toNat).getD (a2).toNat (0, 0)) := rfl
          refine wp_of e59 c59_37 (xa_I (so := 0) (pc' := 38) hW g1156 sh_39 (by decide) (ty_39 _) (by omega) (by omega) rfl (fun b1157 b1158 => ?_))
          have _e : wq_and (wq_shr (H r1154 (a2.toNat)) a3) 1 = wq_and (wq_shr (xwk d (a1).toNat ((xsp d (a1).toNat).getD (a2).toNat (0, 0))) a3) 1 := by
            rw [show H r1154 (a2.toNat) = xwk d (a1).toNat ((xsp d (a1).toNat).getD (a2).toNat (0, 0)) by omega]
          have _o := @and1_b (wq_shr (xwk d (a1).toNat ((xsp d (a1).toNat).getD (a2).toNat (0, 0))) a3)
          refine wp_of e59 c59_38 (rw_iload_n (pc' := 39) (z := a3) rfl rfl ?_)
          refine wp_of e59 c59_39 (xc_S (pc' := 42) (as := [vI (H r1154 (a2.toNat)), vI a3]) (st := [.ref r0]) (lm_0_138) rfl rfl (Nat.le_of_ble_eq_true rfl) rfl (by decide) (u_36  hW ⟨by omega, by omega⟩ ⟨by omega, by omega⟩) (fun R1159 T1160 H1161 p1162 => ?_))
          obtain ⟨e1163, e1165, z1166, e1164, b1167, p1168⟩ := p1162
          subst e1163
          subst e1164
          subst e1165
          rcases p1168 with ⟨a1169, a1170⟩ | ⟨a1171, a1172⟩
          · show wp _ _ 59 42 [(0, .ref r0), (1, vI a1), (2, vI a2), (3, vI a3)] [vI z1166, .ref r0] _ H _
            refine wp_of e59 c59_42 (rw_if_eq (p1 := 49) (p2 := 45) (by decide) rfl ⟨by omega, by omega⟩ (fun c1173 => ?_) (fun c1173 => ?_))
            · exfalso
              omega
            · refine wp_of e59 c59_45 (rw_iconst (pc' := 46) rfl ?_)
              refine wp_of e59 c59_46 (rw_goto (p1 := 50) (by decide) ?_)
              refine wp_of e59 c59_50 (xc_V (pc' := 53) (r := r0) (as := [vI 1]) (st := []) (lm_0_99) rfl rfl (Nat.le_of_ble_eq_true rfl) hW g0 sh_1 (by decide) rfl (by decide) (u_51  hW g0 ⟨by omega, by omega⟩) (fun R1174 T1175 H1176 p1177 => ?_))
              obtain ⟨e1178, w1180, f1181, z1182, e1179, b1183, p1184⟩ := p1177
              subst e1178
              subst e1179
              obtain ⟨a1185, a1186⟩ := p1184
              have f1187 := f0.tr f1181 rfl
              show wp _ _ 59 53 [(0, .ref r0), (1, vI a1), (2, vI a2), (3, vI a3)] [vI z1182] _ H1176 _
              exact wp_ireturn e59 c59_53 rfl ⟨rfl, w1180, f1187, z1182, rfl, ⟨by omega, by omega⟩, (Or.inr ⟨by omega, by omega, by omega, by omega⟩)⟩
          · show wp _ _ 59 42 [(0, .ref r0), (1, vI a1), (2, vI a2), (3, vI a3)] [vI z1166, .ref r0] _ H _
            refine wp_of e59 c59_42 (rw_if_eq (p1 := 49) (p2 := 45) (by decide) rfl ⟨by omega, by omega⟩ (fun c1188 => ?_) (fun c1188 => ?_))
            · refine wp_of e59 c59_49 (rw_iconst (pc' := 50) rfl ?_)
              refine wp_of e59 c59_50 (xc_V (pc' := 53) (r := r0) (as := [vI 0]) (st := []) (lm_0_99) rfl rfl (Nat.le_of_ble_eq_true rfl) hW g0 sh_1 (by decide) rfl (by decide) (u_51  hW g0 ⟨by omega, by omega⟩) (fun R1189 T1190 H1191 p1192 => ?_))
              obtain ⟨e1193, w1195, f1196, z1197, e1194, b1198, p1199⟩ := p1192
              subst e1193
              subst e1194
              obtain ⟨a1200, a1201⟩ := p1199
              have f1202 := f0.tr f1196 rfl
              show wp _ _ 59 53 [(0, .ref r0), (1, vI a1), (2, vI a2), (3, vI a3)] [vI z1197] _ H1191 _
              exact wp_ireturn e59 c59_53 rfl ⟨rfl, w1195, f1202, z1197, rfl, ⟨by omega, by omega⟩, (Or.inr ⟨by omega, by omega, by omega, by omega⟩)⟩
            · exfalso
              omega
        · exfalso
          omega
      · show wp _ _ 59 14 [(0, .ref r0), (1, vI a1), (2, vI a2), (3, vI a3)] [vI z1139] _ H _
        refine wp_of e59 c59_14 (rw_if_ne (p1 := 23) (p2 := 17) (by decide) rfl ⟨by omega, by omega⟩ (fun c1203 => ?_) (fun c1203 => ?_))
        · exfalso
          omega
        · refine wp_of e59 c59_17 (rw_aload_n (pc' := 18) (v := .ref r0) rfl rfl rfl ?_)
          refine wp_of e59 c59_18 (rw_iconst (pc' := 19) rfl ?_)
          refine wp_of e59 c59_19 (xc_V (pc' := 22) (r := r0) (as := [vI 1]) (st := []) (lm_0_70) rfl rfl (Nat.le_of_ble_eq_true rfl) hW g0 sh_1 (by decide) rfl (by decide) (u_12  hW g0 ⟨by omega, by omega⟩) (fun R1204 T1205 H1206 p1207 => ?_))
          obtain ⟨e1208, w1210, f1211, z1212, e1209, b1213, p1214⟩ := p1207
          subst e1208
          subst e1209
          obtain ⟨a1215, a1216⟩ := p1214
          have f1217 := f0.tr f1211 rfl
          show wp _ _ 59 22 [(0, .ref r0), (1, vI a1), (2, vI a2), (3, vI a3)] [vI z1212] _ H1206 _
          exact wp_ireturn e59 c59_22 rfl ⟨rfl, w1210, f1217, z1212, rfl, ⟨by omega, by omega⟩, (Or.inl ⟨by omega, by omega⟩)⟩
  · show wp _ _ 59 6 [(0, .ref r0), (1, vI a1), (2, vI a2), (3, vI a3)] [vI z1124] _ H _
    refine wp_of e59 c59_6 (rw_if_eq (p1 := 17) (p2 := 9) (by decide) rfl ⟨by omega, by omega⟩ (fun c1218 => ?_) (fun c1218 => ?_))
    · refine wp_of e59 c59_17 (rw_aload_n (pc' := 18) (v := .ref r0) rfl rfl rfl ?_)
      refine wp_of e59 c59_18 (rw_iconst (pc' := 19) rfl ?_)
      refine wp_of e59 c59_19 (xc_V (pc' := 22) (r := r0) (as := [vI 1]) (st := []) (lm_0_70) rfl rfl (Nat.le_of_ble_eq_true rfl) hW g0 sh_1 (by decide) rfl (by decide) (u_12  hW g0 ⟨by omega, by omega⟩) (fun R1219 T1220 H1221 p1222 => ?_))
      obtain ⟨e1223, w1225, f1226, z1227, e1224, b1228, p1229⟩ := p1222
      subst e1223
      subst e1224
      obtain ⟨a1230, a1231⟩ := p1229
      have f1232 := f0.tr f1226 rfl
      show wp _ _ 59 22 [(0, .ref r0), (1, vI a1), (2, vI a2), (3, vI a3)] [vI z1227] _ H1221 _
      exact wp_ireturn e59 c59_22 rfl ⟨rfl, w1225, f1232, z1227, rfl, ⟨by omega, by omega⟩, (Or.inl ⟨by omega, by omega⟩)⟩
    · exfalso
      omega
/-! StrikeAwake.lots()J  -/
abbrev uq_61 (r0 : Nat) (cu : Nat) (e : xD) (d : xD) (n : Int) (T : wq_T) (H : wq_H) : Option Value → wq_T → wq_H → Prop := fun r T' H' => T = T' ∧ WT T H' ∧ wfr [(1, 10)] T H H' ∧ ∃ z : Int, some (vL z) = r ∧ ((-9223372036854775808) ≤ z ∧ z ≤ 9223372036854775807) ∧ (((z = -1) ∧ (H r0 8 = 0)) ∨ ((H r0 8 = 1) ∧ (z = n)))
set_option maxHeartbeats 4000000 in
theorem u_61 {kt : Nat → Option mc_E} {T : wq_T} {H : wq_H} {r0 : Nat} {cu : Nat} {e : xD} {d : xD} {n : Int} (hW : WT T H) (g0 : T.2.2.2 r0 = some 1) (qcu : H r0 6 = (cu : Int)) (gcu : T.2.2.2 cu = some 27) (hCU_cu : CU T H cu e d n) : wpc kt 2 61 [.ref r0] T H (uq_61 r0 cu e d n T H) := by
  refine wp_enter e61 (Nat.le_of_ble_eq_true rfl) rfl ?_
  have f0 : wfr [(1, 10)] T H H := wfr.rf
  show wp _ _ 61 0 [(0, .ref r0)] [] _ H _
  have u1028 := CU_k hCU_cu
  have b1029 : 0 ≤ H r0 8 ∧ H r0 8 ≤ 1 := hW.box g0 (n := 13) rfl (by decide) rfl
  refine wp_of e61 c61_0 (rw_aload_n (pc' := 1) (v := .ref r0) rfl rfl rfl ?_)
  refine wp_of e61 c61_1 (xg_I (pc' := 4) lf_0_58 hW g0 sh_1 (by decide) (by decide) ty_1_8 rfl rfl (fun b1030 b1031 => ?_))
  refine wp_of e61 c61_4 (rw_if_ne (p1 := 14) (p2 := 7) (by decide) rfl ⟨by omega, by omega⟩ (fun c1032 => ?_) (fun c1032 => ?_))
  · refine wp_of e61 c61_14 (rw_aload_n (pc' := 15) (v := .ref r0) rfl rfl rfl ?_)
    refine wp_of e61 c61_15 (rw_iconst (pc' := 16) rfl ?_)
    refine wp_of e61 c61_16 (xp_I (pc' := 19) lf_0_102 hW g0 sh_1 (by decide) (by decide) ty_1_10 rfl rfl (by omega) (by omega) ⟨by omega, by omega⟩ rfl (fun H1033 e1034 w1035 => ?_))
    have f1036 := f0.put' e1034 g0 rfl
    have k1037 : H1033 r0 10 = 0 := wq_u_s e1034
    refine wp_of e61 c61_19 (rw_aload_n (pc' := 20) (v := .ref r0) rfl rfl rfl ?_)
    have k1038 : H1033 r0 6 = H r0 6 := (wq_u_j e1034 rfl)
    have q1039 : H1033 r0 6 = (cu : Int) := k1038.trans qcu
    refine wp_of e61 c61_20 (xg_K (pc' := 23) lf_0_51 w1035 g0 sh_1 (by decide) (by decide) rfl q1039 rfl ?_)
    have k1040 : H1033 cu 18 = H cu 18 := (wq_u_t e1034 g0 gcu rfl 18)
    refine wp_of e61 c61_23 (xg_L (pc' := 26) lf_0_141 w1035 gcu sh_27 (by decide) (by decide) ty_27_18 rfl rfl (fun b1041 b1042 => ?_))
    exact wp_lreturn e61 c61_26 rfl ⟨rfl, w1035, f1036, H1033 cu 18, rfl, ⟨by omega, by omega⟩, (Or.inr ⟨by omega, by omega⟩)⟩
  · refine wp_of e61 c61_7 (rw_aload_n (pc' := 8) (v := .ref r0) rfl rfl rfl ?_)
    refine wp_of e61 c61_8 (rw_iconst (pc' := 9) rfl ?_)
    refine wp_of e61 c61_9 (xc_V (pc' := 12) (r := r0) (as := [vI 1]) (st := []) (lm_0_70) rfl rfl (Nat.le_of_ble_eq_true rfl) hW g0 sh_1 (by decide) rfl (by decide) (u_12  hW g0 ⟨by omega, by omega⟩) (fun R1043 T1044 H1045 p1046 => ?_))
    obtain ⟨e1047, w1049, f1050, z1051, e1048, b1052, p1053⟩ := p1046
    subst e1047
    subst e1048
    obtain ⟨a1054, a1055⟩ := p1053
    have f1056 := f0.tr f1050 rfl
    show wp _ _ 61 12 [(0, .ref r0)] [vI z1051] _ H1045 _
    refine wp_of e61 c61_12 (rw_i2l (pc' := 13) rfl ⟨by omega, by omega⟩ ?_)
    exact wp_lreturn e61 c61_13 rfl ⟨rfl, w1049, f1056, z1051, rfl, ⟨by omega, by omega⟩, (Or.inl ⟨by omega, by omega⟩)⟩
/-! StrikeAwake.say(II)Z  -/
abbrev uq_62 (r0 : Nat) (a1 : Int) (a2 : Int) (cu : Nat) (e : xD) (d : xD) (n : Int) (T : wq_T) (H : wq_H) : Option Value → wq_T → wq_H → Prop := fun r T' H' => T = T' ∧ WT T H' ∧ wfr [(35, 16), (1, 10)] T H H' ∧ ∃ z : Int, some (vI z) = r ∧ (0 ≤ z ∧ z ≤ 1) ∧ (((z = 1) ∧ ((0 ≤ a1 ∧ a1 < d 0 3) ∧ 0 ≤ a2 ∧ a2 < ((xsp d (a1).toNat).length : Int))) ∨ ((z = 0) ∧ ((a1 < 0 ∨ d 0 3 ≤ a1) ∨ a2 < 0 ∨ ((xsp d (a1).toNat).length : Int) ≤ a2)))
set_option maxHeartbeats 4000000 in
theorem u_62 {kt : Nat → Option mc_E} {T : wq_T} {H : wq_H} {r0 : Nat} {a1 : Int} {a2 : Int} {cu : Nat} {e : xD} {d : xD} {n : Int} (hW : WT T H) (g0 : T.2.2.2 r0 = some 1) (i1 : (-2147483648) ≤ a1 ∧ a1 ≤ 2147483647) (i2 : (-2147483648) ≤ a2 ∧ a2 ≤ 2147483647) (qcu : H r0 6 = (cu : Int)) (gcu : T.2.2.2 cu = some 27) (p0 : e 0 3 = d 0 3) (p1 : e 0 0 = d 0 0) (hCU_cu : CU T H cu e d n) : wpc kt 3 62 [.ref r0, vI a1, vI a2] T H (uq_62 r0 a1 a2 cu e d n T H) := by
  refine wp_enter e62 (Nat.le_of_ble_eq_true rfl) rfl ?_
  have f0 : wfr [(35, 16), (1, 10)] T H H := wfr.rf
  show wp _ _ 62 0 [(0, .ref r0), (1, vI a1), (2, vI a2)] [] _ H _
  have u1056 := CU_k hCU_cu
  refine wp_of e62 c62_0 (rw_aload_n (pc' := 1) (v := .ref r0) rfl rfl rfl ?_)
  refine wp_of e62 c62_1 (rw_iload_n (pc' := 2) (z := a1) rfl rfl ?_)
  refine wp_of e62 c62_2 (rw_iload_n (pc' := 3) (z := a2) rfl rfl ?_)
  refine wp_of e62 c62_3 (xc_V (pc' := 6) (r := r0) (as := [vI a1, vI a2]) (st := []) (lm_0_118) rfl rfl (Nat.le_of_ble_eq_true rfl) hW g0 sh_1 (by decide) rfl (by decide) (u_57 (e := e) (d := d) (n := n) hW g0 ⟨by omega, by omega⟩ ⟨by omega, by omega⟩ qcu gcu (by omega) (by omega) hCU_cu) (fun R1057 T1058 H1059 p1060 => ?_))
  obtain ⟨e1061, e1063, z1064, e1062, b1065, p1066⟩ := p1060
  subst e1061
  subst e1062
  subst e1063
  rcases p1066 with ⟨a1067, a1068⟩ | ⟨a1069, a1070⟩
  · show wp _ _ 62 6 [(0, .ref r0), (1, vI a1), (2, vI a2)] [vI z1064] _ H _
    refine wp_of e62 c62_6 (rw_if_ne (p1 := 15) (p2 := 9) (by decide) rfl ⟨by omega, by omega⟩ (fun c1071 => ?_) (fun c1071 => ?_))
    · refine wp_of e62 c62_15 (rw_aload_n (pc' := 16) (v := .ref r0) rfl rfl rfl ?_)
      refine wp_of e62 c62_16 (xg_K (pc' := 19) lf_0_51 hW g0 sh_1 (by decide) (by decide) rfl qcu rfl ?_)
      refine wp_of e62 c62_19 (xg_R (pc' := 22) lf_0_109 hW gcu sh_27 (by decide) (by decide) ty_27_0 rfl rfl (fun r1072 q1073 g1074 => ?_))
      refine wp_of e62 c62_22 (rw_iload_n (pc' := 23) (z := a1) rfl rfl ?_)
      refine wp_of e62 c62_23 (xa_R (pc' := 24) (by decide) hW g1074 sh_28 (by decide) (ty_28 _) (by omega) (by omega) rfl (fun r1075 q1076 g1077 => ?_))
      refine wp_of e62 c62_24 (rw_iload_n (pc' := 25) (z := a2) rfl rfl ?_)
      refine wp_of e62 c62_25 (xp_I (pc' := 28) lf_0_148 hW g1077 sh_35 (by decide) (by decide) ty_35_16 rfl rfl (by omega) (by omega) ⟨by omega, by omega⟩ rfl (fun H1078 e1079 w1080 => ?_))
      have f1081 := f0.put' e1079 g1077 rfl
      have k1082 : H1078 r1075 16 = a2 := wq_u_s e1079
      refine wp_of e62 c62_28 (rw_aload_n (pc' := 29) (v := .ref r0) rfl rfl rfl ?_)
      refine wp_of e62 c62_29 (xc_V (pc' := 32) (r := r0) (as := []) (st := []) (lm_0_151) rfl rfl (Nat.le_of_ble_eq_true rfl) w1080 g0 sh_1 (by decide) rfl (by decide) (u_64  w1080 g0) (fun R1083 T1084 H1085 p1086 => ?_))
      obtain ⟨e1087, w1089, f1090, z1091, e1088, b1092, p1093⟩ := p1086
      subst e1087
      subst e1088
      obtain ⟨a1094, a1095⟩ := p1093
      have f1096 := f1081.tr f1090 rfl
      show wp _ _ 62 32 [(0, .ref r0), (1, vI a1), (2, vI a2)] [vI z1091] _ H1085 _
      exact wp_zreturn e62 c62_32 rfl (by omega) ⟨rfl, w1089, f1096, z1091, rfl, ⟨by omega, by omega⟩, (Or.inl ⟨by omega, by omega⟩)⟩
    · exfalso
      omega
  · show wp _ _ 62 6 [(0, .ref r0), (1, vI a1), (2, vI a2)] [vI z1064] _ H _
    refine wp_of e62 c62_6 (rw_if_ne (p1 := 15) (p2 := 9) (by decide) rfl ⟨by omega, by omega⟩ (fun c1097 => ?_) (fun c1097 => ?_))
    · exfalso
      omega
    · refine wp_of e62 c62_9 (rw_aload_n (pc' := 10) (v := .ref r0) rfl rfl rfl ?_)
      refine wp_of e62 c62_10 (rw_iconst (pc' := 11) rfl ?_)
      refine wp_of e62 c62_11 (xc_V (pc' := 14) (r := r0) (as := [vI 1]) (st := []) (lm_0_145) rfl rfl (Nat.le_of_ble_eq_true rfl) hW g0 sh_1 (by decide) rfl (by decide) (u_63  hW g0 ⟨by omega, by omega⟩) (fun R1098 T1099 H1100 p1101 => ?_))
      obtain ⟨e1102, w1104, f1105, z1106, e1103, b1107, p1108⟩ := p1101
      subst e1102
      subst e1103
      obtain ⟨a1109, a1110⟩ := p1108
      have f1111 := f0.tr f1105 rfl
      show wp _ _ 62 14 [(0, .ref r0), (1, vI a1), (2, vI a2)] [vI z1106] _ H1100 _
      exact wp_zreturn e62 c62_14 rfl (by omega) ⟨rfl, w1104, f1111, z1106, rfl, ⟨by omega, by omega⟩, (Or.inr ⟨by omega, by omega⟩)⟩
/-! StrikeAwake.strike(II)I  -/
abbrev uq_153 (r0 : Nat) (a1 : Int) (a2 : Int) (cu : Nat) (e : xD) (d : xD) (n : Int) (y : Int) (w : Int) (T : wq_T) (H : wq_H) : Option Value → wq_T → wq_H → Prop := fun r T' H' => T = T' ∧ WT T H' ∧ wfr [(12, 9), (27, 16), (1, 10), (29, 999), (30, 999)] T H H' ∧ ∃ z : Int, some (vI z) = r ∧ ((-2147483648) ≤ z ∧ z ≤ 2147483647) ∧ (((z = -1) ∧ ((y < 0 ∨ d 0 0 ≤ y) ∨ a2 < 0 ∨ 99 < a2) ∧ CU T H' cu e d n) ∨ ((0 ≤ z ∧ z ≤ 24) ∧ ((0 ≤ y ∧ y < d 0 0) ∧ 0 ≤ a2 ∧ a2 ≤ 99) ∧ (z = xcn ((wq_u e 13 (y).toNat w) 13) 24) ∧ CU T H' cu (wq_u e 13 (y).toNat w) d n))
set_option maxHeartbeats 4000000 in
theorem u_153 {kt : Nat → Option mc_E} {T : wq_T} {H : wq_H} {r0 : Nat} {a1 : Int} {a2 : Int} {cu : Nat} {e : xD} {d : xD} {n : Int} {y : Int} {w : Int} (hW : WT T H) (g0 : T.2.2.2 r0 = some 1) (i1 : (-2147483648) ≤ a1 ∧ a1 ≤ 2147483647) (i2 : (-2147483648) ≤ a2 ∧ a2 ≤ 2147483647) (qcu : H r0 6 = (cu : Int)) (gcu : T.2.2.2 cu = some 27) (p0 : e 0 3 = d 0 3) (p1 : e 0 0 = d 0 0) (p2 : a1 = y) (p3 : w = a2 + 1) (hCU_cu : CU T H cu e d n) : wpc kt 3 153 [.ref r0, vI a1, vI a2] T H (uq_153 r0 a1 a2 cu e d n y w T H) := by
  refine wp_enter e153 (Nat.le_of_ble_eq_true rfl) rfl ?_
  have f0 : wfr [(12, 9), (27, 16), (1, 10), (29, 999), (30, 999)] T H H := wfr.rf
  show wp _ _ 153 0 [(0, .ref r0), (1, vI a1), (2, vI a2)] [] _ H _
  have u1105 := CU_k hCU_cu
  have h1106 : DC T H cu e := hCU_cu.1
  have h1107 : CS T H cu d 0 := hCU_cu.2.1
  refine wp_of e153 c153_0 (rw_aload_n (pc' := 1) (v := .ref r0) rfl rfl rfl ?_)
  refine wp_of e153 c153_1 (rw_iload_n (pc' := 2) (z := a1) rfl rfl ?_)
  refine wp_of e153 c153_2 (xc_V (pc' := 5) (r := r0) (as := [vI a1]) (st := []) (lm_0_132) rfl rfl (Nat.le_of_ble_eq_true rfl) hW g0 sh_1 (by decide) rfl (by decide) (u_60  hW g0 ⟨by omega, by omega⟩ qcu gcu) (fun R1108 T1109 H1110 p1111 => ?_))
  obtain ⟨e1112, e1114, z1115, e1113, b1116, p1117⟩ := p1111
  subst e1112
  subst e1113
  subst e1114
  rcases p1117 with ⟨a1118, a1119⟩ | ⟨a1120, a1121⟩
  · show wp _ _ 153 5 [(0, .ref r0), (1, vI a1), (2, vI a2)] [vI z1115] _ H _
    refine wp_of e153 c153_5 (rw_if_ne (p1 := 14) (p2 := 8) (by decide) rfl ⟨by omega, by omega⟩ (fun c1122 => ?_) (fun c1122 => ?_))
    · refine wp_of e153 c153_14 (rw_iload_n (pc' := 15) (z := a2) rfl rfl ?_)
      refine wp_of e153 c153_15 (rw_if_lt (p1 := 24) (p2 := 18) (by decide) rfl ⟨by omega, by omega⟩ (fun c1123 => ?_) (fun c1123 => ?_))
      · refine wp_of e153 c153_24 (rw_aload_n (pc' := 25) (v := .ref r0) rfl rfl rfl ?_)
        refine wp_of e153 c153_25 (rw_iconst (pc' := 26) rfl ?_)
        refine wp_of e153 c153_26 (xc_V (pc' := 29) (r := r0) (as := [vI 2]) (st := []) (lm_0_70) rfl rfl (Nat.le_of_ble_eq_true rfl) hW g0 sh_1 (by decide) rfl (by decide) (u_12  hW g0 ⟨by omega, by omega⟩) (fun R1124 T1125 H1126 p1127 => ?_))
        obtain ⟨e1128, w1130, f1131, z1132, e1129, b1133, p1134⟩ := p1127
        subst e1128
        subst e1129
        obtain ⟨a1135, a1136⟩ := p1134
        have f1137 := f0.tr f1131 rfl
        show wp _ _ 153 29 [(0, .ref r0), (1, vI a1), (2, vI a2)] [vI z1132] _ H1126 _
        have h1138 : CU T H1126 cu e d n := (CU_fr hW gcu f1131 rfl hCU_cu)
        exact wp_ireturn e153 c153_29 rfl ⟨rfl, w1130, f1137, z1132, rfl, ⟨by omega, by omega⟩, (Or.inl ⟨by omega, by omega, h1138⟩)⟩
      · refine wp_of e153 c153_18 (rw_iload_n (pc' := 19) (z := a2) rfl rfl ?_)
        refine wp_of e153 c153_19 (rw_bipush (pc' := 21) (z := 99) rfl (by decide) ?_)
        refine wp_of e153 c153_21 (rw_icmp_le (p1 := 30) (p2 := 24) (by decide) rfl ⟨by omega, by omega⟩ ⟨by omega, by omega⟩ (fun c1139 => ?_) (fun c1139 => ?_))
        · refine wp_of e153 c153_30 (rw_aload_n (pc' := 31) (v := .ref r0) rfl rfl rfl ?_)
          refine wp_of e153 c153_31 (xg_K (pc' := 34) lf_0_51 hW g0 sh_1 (by decide) (by decide) rfl qcu rfl ?_)
          refine wp_of e153 c153_34 (rw_iload_n (pc' := 35) (z := a1) rfl rfl ?_)
          refine wp_of e153 c153_35 (rw_iload_n (pc' := 36) (z := a2) rfl rfl ?_)
          refine wp_of e153 c153_36 (xc_V (pc' := 39) (r := cu) (as := [vI a1, vI a2]) (st := []) (lm_0_291) rfl rfl (Nat.le_of_ble_eq_true rfl) hW gcu sh_27 (by decide) rfl (by decide) (u_40 (d := e) (w := w) (y := y) hW gcu ⟨by omega, by omega⟩ ⟨by omega, by omega⟩ (by omega) (by omega) h1106) (fun R1140 T1141 H1142 p1143 => ?_))
          obtain ⟨e1144, w1146, f1147, e1145, p1148⟩ := p1143
          subst e1144
          subst e1145
          have f1150 := f0.tr f1147 rfl
          show wp _ _ 153 39 [(0, .ref r0), (1, vI a1), (2, vI a2)] [] _ H1142 _
          have u1151 := DC_k p1148
          refine wp_of e153 c153_39 (rw_aload_n (pc' := 40) (v := .ref r0) rfl rfl rfl ?_)
          refine wp_of e153 c153_40 (xg_R (pc' := 43) lf_0_30 w1146 g0 sh_1 (by decide) (by decide) ty_1_3 rfl rfl (fun r1152 q1153 g1154 => ?_))
          refine wp_of e153 c153_43 (xc_V (pc' := 46) (r := r1152) (as := []) (st := []) (lm_0_93) rfl rfl (Nat.le_of_ble_eq_true rfl) w1146 g1154 sh_12 (by decide) rfl (by decide) (s_50 w1146 g1154) (fun R1155 T1156 H1157 p1158 => ?_))
          obtain ⟨e1159, w1161, f1162, e1160⟩ := p1158
          subst e1159
          subst e1160
          have f1163 := f1150.tr f1162 rfl
          show wp _ _ 153 46 [(0, .ref r0), (1, vI a1), (2, vI a2)] [] _ H1157 _
          refine wp_of e153 c153_46 (rw_aload_n (pc' := 47) (v := .ref r0) rfl rfl rfl ?_)
          refine wp_of e153 c153_47 (rw_aload_n (pc' := 48) (v := .ref r0) rfl rfl rfl ?_)
          have k1164 : H1157 r0 6 = H r0 6 := ((f1162 r0 6 _ g0 rfl).trans (f1147 r0 6 _ g0 rfl))
          have q1165 : H1157 r0 6 = (cu : Int) := k1164.trans qcu
          refine wp_of e153 c153_48 (xg_K (pc' := 51) lf_0_51 w1161 g0 sh_1 (by decide) (by decide) rfl q1165 rfl ?_)
          have k1166 : H1157 cu 16 = H1142 cu 16 := (f1162 cu 16 _ gcu rfl)
          refine wp_of e153 c153_51 (xg_I (pc' := 54) lf_0_295 w1161 gcu sh_27 (by decide) (by decide) ty_27_16 rfl rfl (fun b1167 b1168 => ?_))
          refine wp_of e153 c153_54 (xc_V (pc' := 57) (r := r0) (as := [vI (H1157 cu 16)]) (st := []) (lm_0_99) rfl rfl (Nat.le_of_ble_eq_true rfl) w1161 g0 sh_1 (by decide) rfl (by decide) (u_51  w1161 g0 ⟨by omega, by omega⟩) (fun R1169 T1170 H1171 p1172 => ?_))
          obtain ⟨e1173, w1175, f1176, z1177, e1174, b1178, p1179⟩ := p1172
          subst e1173
          subst e1174
          obtain ⟨a1180, a1181⟩ := p1179
          have f1182 := f1163.tr f1176 rfl
          show wp _ _ 153 57 [(0, .ref r0), (1, vI a1), (2, vI a2)] [vI z1177] _ H1171 _
          have k1183 : H1171 cu 18 = H cu 18 := ((f1176 cu 18 _ gcu rfl).trans ((f1162 cu 18 _ gcu rfl).trans (f1147 cu 18 _ gcu rfl)))
          have h1184 : DC T H1171 cu (wq_u e 13 y.toNat w) := (DC_fr w1161 gcu f1176 rfl (DC_fr w1146 gcu f1162 rfl p1148))
          have h1185 : CS T H1171 cu d 0 := (CS_fr w1161 gcu f1176 rfl (CS_fr w1146 gcu f1162 rfl (CS_fr hW gcu f1147 rfl h1107)))
          exact wp_ireturn e153 c153_57 rfl ⟨rfl, w1175, f1182, z1177, rfl, ⟨by omega, by omega⟩, (Or.inr ⟨by omega, by omega, by omega, ⟨h1184, h1185, by omega⟩⟩)⟩
        · refine wp_of e153 c153_24 (rw_aload_n (pc' := 25) (v := .ref r0) rfl rfl rfl ?_)
          refine wp_of e153 c153_25 (rw_iconst (pc' := 26) rfl ?_)
          refine wp_of e153 c153_26 (xc_V (pc' := 29) (r := r0) (as := [vI 2]) (st := []) (lm_0_70) rfl rfl (Nat.le_of_ble_eq_true rfl) hW g0 sh_1 (by decide) rfl (by decide) (u_12  hW g0 ⟨by omega, by omega⟩) (fun R1186 T1187 H1188 p1189 => ?_))
          obtain ⟨e1190, w1192, f1193, z1194, e1191, b1195, p1196⟩ := p1189
          subst e1190
          subst e1191
          obtain ⟨a1197, a1198⟩ := p1196
          have f1199 := f0.tr f1193 rfl
          show wp _ _ 153 29 [(0, .ref r0), (1, vI a1), (2, vI a2)] [vI z1194] _ H1188 _
          have h1200 : CU T H1188 cu e d n := (CU_fr hW gcu f1193 rfl hCU_cu)
          exact wp_ireturn e153 c153_29 rfl ⟨rfl, w1192, f1199, z1194, rfl, ⟨by omega, by omega⟩, (Or.inl ⟨by omega, by omega, h1200⟩)⟩
    · exfalso
      omega
  · show wp _ _ 153 5 [(0, .ref r0), (1, vI a1), (2, vI a2)] [vI z1115] _ H _
    refine wp_of e153 c153_5 (rw_if_ne (p1 := 14) (p2 := 8) (by decide) rfl ⟨by omega, by omega⟩ (fun c1201 => ?_) (fun c1201 => ?_))
    · exfalso
      omega
    · refine wp_of e153 c153_8 (rw_aload_n (pc' := 9) (v := .ref r0) rfl rfl rfl ?_)
      refine wp_of e153 c153_9 (rw_iconst (pc' := 10) rfl ?_)
      refine wp_of e153 c153_10 (xc_V (pc' := 13) (r := r0) (as := [vI 1]) (st := []) (lm_0_70) rfl rfl (Nat.le_of_ble_eq_true rfl) hW g0 sh_1 (by decide) rfl (by decide) (u_12  hW g0 ⟨by omega, by omega⟩) (fun R1202 T1203 H1204 p1205 => ?_))
      obtain ⟨e1206, w1208, f1209, z1210, e1207, b1211, p1212⟩ := p1205
      subst e1206
      subst e1207
      obtain ⟨a1213, a1214⟩ := p1212
      have f1215 := f0.tr f1209 rfl
      show wp _ _ 153 13 [(0, .ref r0), (1, vI a1), (2, vI a2)] [vI z1210] _ H1204 _
      have h1216 : CU T H1204 cu e d n := (CU_fr hW gcu f1209 rfl hCU_cu)
      exact wp_ireturn e153 c153_13 rfl ⟨rfl, w1208, f1215, z1210, rfl, ⟨by omega, by omega⟩, (Or.inl ⟨by omega, by omega, h1216⟩)⟩
/-! StrikeAwake.still(I)Z  -/
abbrev uq_154 (r0 : Nat) (a1 : Int) (cu : Nat) (e : xD) (d : xD) (n : Int) (y : Int) (T : wq_T) (H : wq_H) : Option Value → wq_T → wq_H → Prop := fun r T' H' => T = T' ∧ WT T H' ∧ wfr [(12, 9), (27, 16), (1, 10), (29, 999), (30, 999)] T H H' ∧ ∃ z : Int, some (vI z) = r ∧ (0 ≤ z ∧ z ≤ 1) ∧ (((z = 1) ∧ (0 ≤ y ∧ y < d 0 0) ∧ (e 13 (y).toNat > 0) ∧ CU T H' cu (wq_u e 13 (y).toNat 0) d n) ∨ ((z = 0) ∧ ((y < 0 ∨ d 0 0 ≤ y) ∨ e 13 (y).toNat ≤ 0) ∧ CU T H' cu e d n))
set_option maxHeartbeats 4000000 in
theorem u_154 {kt : Nat → Option mc_E} {T : wq_T} {H : wq_H} {r0 : Nat} {a1 : Int} {cu : Nat} {e : xD} {d : xD} {n : Int} {y : Int} (hW : WT T H) (g0 : T.2.2.2 r0 = some 1) (i1 : (-2147483648) ≤ a1 ∧ a1 ≤ 2147483647) (qcu : H r0 6 = (cu : Int)) (gcu : T.2.2.2 cu = some 27) (p0 : e 0 3 = d 0 3) (p1 : e 0 0 = d 0 0) (p2 : a1 = y) (hCU_cu : CU T H cu e d n) : wpc kt 3 154 [.ref r0, vI a1] T H (uq_154 r0 a1 cu e d n y T H) := by
  refine wp_enter e154 (Nat.le_of_ble_eq_true rfl) rfl ?_
  have f0 : wfr [(12, 9), (27, 16), (1, 10), (29, 999), (30, 999)] T H H := wfr.rf
  show wp _ _ 154 0 [(0, .ref r0), (1, vI a1)] [] _ H _
  have u1091 := CU_k hCU_cu
  have h1092 : DC T H cu e := hCU_cu.1
  have h1093 : CS T H cu d 0 := hCU_cu.2.1
  have h1094 : ST T H cu (e 13) := hCU_cu.1.2.2.1
  refine wp_of e154 c154_0 (rw_aload_n (pc' := 1) (v := .ref r0) rfl rfl rfl ?_)
  refine wp_of e154 c154_1 (rw_iload_n (pc' := 2) (z := a1) rfl rfl ?_)
  refine wp_of e154 c154_2 (xc_V (pc' := 5) (r := r0) (as := [vI a1]) (st := []) (lm_0_132) rfl rfl (Nat.le_of_ble_eq_true rfl) hW g0 sh_1 (by decide) rfl (by decide) (u_60  hW g0 ⟨by omega, by omega⟩ qcu gcu) (fun R1095 T1096 H1097 p1098 => ?_))
  obtain ⟨e1099, e1101, z1102, e1100, b1103, p1104⟩ := p1098
  subst e1099
  subst e1100
  subst e1101
  rcases p1104 with ⟨a1105, a1106⟩ | ⟨a1107, a1108⟩
  · show wp _ _ 154 5 [(0, .ref r0), (1, vI a1)] [vI z1102] _ H _
    refine wp_of e154 c154_5 (rw_if_eq (p1 := 20) (p2 := 8) (by decide) rfl ⟨by omega, by omega⟩ (fun c1109 => ?_) (fun c1109 => ?_))
    · exfalso
      omega
    · have _ty : (a1).toNat = (y).toNat := by rw [p2]
      refine wp_of e154 c154_8 (rw_aload_n (pc' := 9) (v := .ref r0) rfl rfl rfl ?_)
      refine wp_of e154 c154_9 (xg_K (pc' := 12) lf_0_51 hW g0 sh_1 (by decide) (by decide) rfl qcu rfl ?_)
      refine wp_of e154 c154_12 (xg_R (pc' := 15) lf_0_262 hW gcu sh_27 (by decide) (by decide) ty_27_1 rfl rfl (fun r1110 q1111 g1112 => ?_))
      refine wp_of e154 c154_15 (rw_iload_n (pc' := 16) (z := a1) rfl rfl ?_)
      refine wp_of e154 c154_16 (xa_I (so := 0) (pc' := 17) hW g1112 sh_29 (by decide) (ty_29 _) (by omega) (by omega) rfl (fun b1113 b1114 => ?_))
      have := ST_at h1094 q1111 (k := (a1.toNat)) (by omega)
      have _tz : e 13 (a1.toNat) = e 13 (y).toNat := by rw [← p2]
      refine wp_of e154 c154_17 (rw_if_ge (p1 := 26) (p2 := 20) (by decide) rfl ⟨by omega, by omega⟩ (fun c1115 => ?_) (fun c1115 => ?_))
      · refine wp_of e154 c154_26 (rw_aload_n (pc' := 27) (v := .ref r0) rfl rfl rfl ?_)
        refine wp_of e154 c154_27 (xg_K (pc' := 30) lf_0_51 hW g0 sh_1 (by decide) (by decide) rfl qcu rfl ?_)
        refine wp_of e154 c154_30 (rw_iload_n (pc' := 31) (z := a1) rfl rfl ?_)
        refine wp_of e154 c154_31 (rw_bipush (pc' := 33) (z := -2) rfl (by decide) ?_)
        refine wp_of e154 c154_33 (xc_V (pc' := 36) (r := cu) (as := [vI a1, vI (-2)]) (st := []) (lm_0_291) rfl rfl (Nat.le_of_ble_eq_true rfl) hW gcu sh_27 (by decide) rfl (by decide) (u_40 (d := e) (w := 0) (y := y) hW gcu ⟨by omega, by omega⟩ ⟨by omega, by omega⟩ (by omega) (by omega) h1092) (fun R1116 T1117 H1118 p1119 => ?_))
        obtain ⟨e1120, w1122, f1123, e1121, p1124⟩ := p1119
        subst e1120
        subst e1121
        have f1126 := f0.tr f1123 rfl
        show wp _ _ 154 36 [(0, .ref r0), (1, vI a1)] [] _ H1118 _
        have u1127 := DC_k p1124
        refine wp_of e154 c154_36 (rw_aload_n (pc' := 37) (v := .ref r0) rfl rfl rfl ?_)
        refine wp_of e154 c154_37 (xg_R (pc' := 40) lf_0_30 w1122 g0 sh_1 (by decide) (by decide) ty_1_3 rfl rfl (fun r1128 q1129 g1130 => ?_))
        refine wp_of e154 c154_40 (xc_V (pc' := 43) (r := r1128) (as := []) (st := []) (lm_0_93) rfl rfl (Nat.le_of_ble_eq_true rfl) w1122 g1130 sh_12 (by decide) rfl (by decide) (s_50 w1122 g1130) (fun R1131 T1132 H1133 p1134 => ?_))
        obtain ⟨e1135, w1137, f1138, e1136⟩ := p1134
        subst e1135
        subst e1136
        have f1139 := f1126.tr f1138 rfl
        show wp _ _ 154 43 [(0, .ref r0), (1, vI a1)] [] _ H1133 _
        refine wp_of e154 c154_43 (rw_aload_n (pc' := 44) (v := .ref r0) rfl rfl rfl ?_)
        refine wp_of e154 c154_44 (xc_V (pc' := 47) (r := r0) (as := []) (st := []) (lm_0_151) rfl rfl (Nat.le_of_ble_eq_true rfl) w1137 g0 sh_1 (by decide) rfl (by decide) (u_64  w1137 g0) (fun R1140 T1141 H1142 p1143 => ?_))
        obtain ⟨e1144, w1146, f1147, z1148, e1145, b1149, p1150⟩ := p1143
        subst e1144
        subst e1145
        obtain ⟨a1151, a1152⟩ := p1150
        have f1153 := f1139.tr f1147 rfl
        show wp _ _ 154 47 [(0, .ref r0), (1, vI a1)] [vI z1148] _ H1142 _
        have k1154 : H1142 cu 18 = H cu 18 := ((f1147 cu 18 _ gcu rfl).trans ((f1138 cu 18 _ gcu rfl).trans (f1123 cu 18 _ gcu rfl)))
        have h1155 : DC T H1142 cu (wq_u e 13 y.toNat 0) := (DC_fr w1137 gcu f1147 rfl (DC_fr w1122 gcu f1138 rfl p1124))
        have h1156 : CS T H1142 cu d 0 := (CS_fr w1137 gcu f1147 rfl (CS_fr w1122 gcu f1138 rfl (CS_fr hW gcu f1123 rfl h1093)))
        exact wp_zreturn e154 c154_47 rfl (by omega) ⟨rfl, w1146, f1153, z1148, rfl, ⟨by omega, by omega⟩, (Or.inl ⟨by omega, by omega, by omega, ⟨h1155, h1156, by omega⟩⟩)⟩
      · refine wp_of e154 c154_20 (rw_aload_n (pc' := 21) (v := .ref r0) rfl rfl rfl ?_)
        refine wp_of e154 c154_21 (rw_iconst (pc' := 22) rfl ?_)
        refine wp_of e154 c154_22 (xc_V (pc' := 25) (r := r0) (as := [vI 1]) (st := []) (lm_0_145) rfl rfl (Nat.le_of_ble_eq_true rfl) hW g0 sh_1 (by decide) rfl (by decide) (u_63  hW g0 ⟨by omega, by omega⟩) (fun R1157 T1158 H1159 p1160 => ?_))
        obtain ⟨e1161, w1163, f1164, z1165, e1162, b1166, p1167⟩ := p1160
        subst e1161
        subst e1162
        obtain ⟨a1168, a1169⟩ := p1167
        have f1170 := f0.tr f1164 rfl
        show wp _ _ 154 25 [(0, .ref r0), (1, vI a1)] [vI z1165] _ H1159 _
        have h1171 : CU T H1159 cu e d n := (CU_fr hW gcu f1164 rfl hCU_cu)
        exact wp_zreturn e154 c154_25 rfl (by omega) ⟨rfl, w1163, f1170, z1165, rfl, ⟨by omega, by omega⟩, (Or.inr ⟨by omega, by omega, h1171⟩)⟩
  · show wp _ _ 154 5 [(0, .ref r0), (1, vI a1)] [vI z1102] _ H _
    refine wp_of e154 c154_5 (rw_if_eq (p1 := 20) (p2 := 8) (by decide) rfl ⟨by omega, by omega⟩ (fun c1172 => ?_) (fun c1172 => ?_))
    · refine wp_of e154 c154_20 (rw_aload_n (pc' := 21) (v := .ref r0) rfl rfl rfl ?_)
      refine wp_of e154 c154_21 (rw_iconst (pc' := 22) rfl ?_)
      refine wp_of e154 c154_22 (xc_V (pc' := 25) (r := r0) (as := [vI 1]) (st := []) (lm_0_145) rfl rfl (Nat.le_of_ble_eq_true rfl) hW g0 sh_1 (by decide) rfl (by decide) (u_63  hW g0 ⟨by omega, by omega⟩) (fun R1173 T1174 H1175 p1176 => ?_))
      obtain ⟨e1177, w1179, f1180, z1181, e1178, b1182, p1183⟩ := p1176
      subst e1177
      subst e1178
      obtain ⟨a1184, a1185⟩ := p1183
      have f1186 := f0.tr f1180 rfl
      show wp _ _ 154 25 [(0, .ref r0), (1, vI a1)] [vI z1181] _ H1175 _
      have h1187 : CU T H1175 cu e d n := (CU_fr hW gcu f1180 rfl hCU_cu)
      exact wp_zreturn e154 c154_25 rfl (by omega) ⟨rfl, w1179, f1186, z1181, rfl, ⟨by omega, by omega⟩, (Or.inr ⟨by omega, by omega, h1187⟩)⟩
    · exfalso
      omega
/-! StrikeAwake.struck(I)I  -/
abbrev uq_155 (r0 : Nat) (a1 : Int) (cu : Nat) (e : xD) (d : xD) (n : Int) (T : wq_T) (H : wq_H) : Option Value → wq_T → wq_H → Prop := fun r T' H' => T = T' ∧ WT T H' ∧ wfr [(1, 10)] T H H' ∧ ∃ z : Int, some (vI z) = r ∧ ((-2147483648) ≤ z ∧ z ≤ 2147483647) ∧ (((z = -1) ∧ (a1 < 0 ∨ d 0 0 ≤ a1)) ∨ ((0 ≤ a1 ∧ a1 < d 0 0) ∧ ((e 13 (a1).toNat > 0 ∧ z = e 13 (a1).toNat - 1) ∨ (e 13 (a1).toNat ≤ 0 ∧ z = -2))))
set_option maxHeartbeats 4000000 in
theorem u_155 {kt : Nat → Option mc_E} {T : wq_T} {H : wq_H} {r0 : Nat} {a1 : Int} {cu : Nat} {e : xD} {d : xD} {n : Int} (hW : WT T H) (g0 : T.2.2.2 r0 = some 1) (i1 : (-2147483648) ≤ a1 ∧ a1 ≤ 2147483647) (qcu : H r0 6 = (cu : Int)) (gcu : T.2.2.2 cu = some 27) (p0 : e 0 3 = d 0 3) (p1 : e 0 0 = d 0 0) (hCU_cu : CU T H cu e d n) : wpc kt 2 155 [.ref r0, vI a1] T H (uq_155 r0 a1 cu e d n T H) := by
  refine wp_enter e155 (Nat.le_of_ble_eq_true rfl) rfl ?_
  have f0 : wfr [(1, 10)] T H H := wfr.rf
  show wp _ _ 155 0 [(0, .ref r0), (1, vI a1)] [] _ H _
  have u1051 := CU_k hCU_cu
  have h1052 : ST T H cu (e 13) := hCU_cu.1.2.2.1
  refine wp_of e155 c155_0 (rw_aload_n (pc' := 1) (v := .ref r0) rfl rfl rfl ?_)
  refine wp_of e155 c155_1 (rw_iload_n (pc' := 2) (z := a1) rfl rfl ?_)
  refine wp_of e155 c155_2 (xc_V (pc' := 5) (r := r0) (as := [vI a1]) (st := []) (lm_0_132) rfl rfl (Nat.le_of_ble_eq_true rfl) hW g0 sh_1 (by decide) rfl (by decide) (u_60  hW g0 ⟨by omega, by omega⟩ qcu gcu) (fun R1053 T1054 H1055 p1056 => ?_))
  obtain ⟨e1057, e1059, z1060, e1058, b1061, p1062⟩ := p1056
  subst e1057
  subst e1058
  subst e1059
  rcases p1062 with ⟨a1063, a1064⟩ | ⟨a1065, a1066⟩
  · show wp _ _ 155 5 [(0, .ref r0), (1, vI a1)] [vI z1060] _ H _
    refine wp_of e155 c155_5 (rw_if_ne (p1 := 14) (p2 := 8) (by decide) rfl ⟨by omega, by omega⟩ (fun c1067 => ?_) (fun c1067 => ?_))
    · refine wp_of e155 c155_14 (rw_aload_n (pc' := 15) (v := .ref r0) rfl rfl rfl ?_)
      refine wp_of e155 c155_15 (rw_aload_n (pc' := 16) (v := .ref r0) rfl rfl rfl ?_)
      refine wp_of e155 c155_16 (xg_K (pc' := 19) lf_0_51 hW g0 sh_1 (by decide) (by decide) rfl qcu rfl ?_)
      refine wp_of e155 c155_19 (xg_R (pc' := 22) lf_0_262 hW gcu sh_27 (by decide) (by decide) ty_27_1 rfl rfl (fun r1068 q1069 g1070 => ?_))
      refine wp_of e155 c155_22 (rw_iload_n (pc' := 23) (z := a1) rfl rfl ?_)
      refine wp_of e155 c155_23 (xa_I (so := 0) (pc' := 24) hW g1070 sh_29 (by decide) (ty_29 _) (by omega) (by omega) rfl (fun b1071 b1072 => ?_))
      have := ST_at h1052 q1069 (k := (a1.toNat)) (by omega)
      refine wp_of e155 c155_24 (xc_V (pc' := 27) (r := r0) (as := [vI (H r1068 (a1.toNat))]) (st := []) (lm_0_99) rfl rfl (Nat.le_of_ble_eq_true rfl) hW g0 sh_1 (by decide) rfl (by decide) (u_51  hW g0 ⟨by omega, by omega⟩) (fun R1073 T1074 H1075 p1076 => ?_))
      obtain ⟨e1077, w1079, f1080, z1081, e1078, b1082, p1083⟩ := p1076
      subst e1077
      subst e1078
      obtain ⟨a1084, a1085⟩ := p1083
      have f1086 := f0.tr f1080 rfl
      show wp _ _ 155 27 [(0, .ref r0), (1, vI a1)] [vI z1081] _ H1075 _
      exact wp_ireturn e155 c155_27 rfl ⟨rfl, w1079, f1086, z1081, rfl, ⟨by omega, by omega⟩, (Or.inr ⟨by omega, by omega⟩)⟩
    · exfalso
      omega
  · show wp _ _ 155 5 [(0, .ref r0), (1, vI a1)] [vI z1060] _ H _
    refine wp_of e155 c155_5 (rw_if_ne (p1 := 14) (p2 := 8) (by decide) rfl ⟨by omega, by omega⟩ (fun c1087 => ?_) (fun c1087 => ?_))
    · exfalso
      omega
    · refine wp_of e155 c155_8 (rw_aload_n (pc' := 9) (v := .ref r0) rfl rfl rfl ?_)
      refine wp_of e155 c155_9 (rw_iconst (pc' := 10) rfl ?_)
      refine wp_of e155 c155_10 (xc_V (pc' := 13) (r := r0) (as := [vI 1]) (st := []) (lm_0_70) rfl rfl (Nat.le_of_ble_eq_true rfl) hW g0 sh_1 (by decide) rfl (by decide) (u_12  hW g0 ⟨by omega, by omega⟩) (fun R1088 T1089 H1090 p1091 => ?_))
      obtain ⟨e1092, w1094, f1095, z1096, e1093, b1097, p1098⟩ := p1091
      subst e1092
      subst e1093
      obtain ⟨a1099, a1100⟩ := p1098
      have f1101 := f0.tr f1095 rfl
      show wp _ _ 155 13 [(0, .ref r0), (1, vI a1)] [vI z1096] _ H1090 _
      exact wp_ireturn e155 c155_13 rfl ⟨rfl, w1094, f1101, z1096, rfl, ⟨by omega, by omega⟩, (Or.inl ⟨by omega, by omega⟩)⟩
