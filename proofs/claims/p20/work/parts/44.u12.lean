/-! what methods do (own work, written by wip/gen3/sx3.py) -/
/-! StrikeAwake.seek()I  -/
abbrev uq_156 (r0 : Nat) (cu : Nat) (wa : Nat) (ce : Nat) (e : xD) (d : xD) (n : Int) (T : wq_T) (H : wq_H) : Option Value → wq_T → wq_H → Prop := fun r T' H' => T = T' ∧ WT T H' ∧ wfr [(12, 5), (12, 6), (12, 7), (12, 8), (12, 9), (27, 17), (1, 10), (6, 5), (8, 999), (10, 999), (15, 999), (9, 999), (18, 999), (19, 999), (7, 999), (11, 999), (17, 999), (13, 999)] T H H' ∧ ∃ z : Int, some (vI z) = r ∧ ((-2147483648) ≤ z ∧ z ≤ 2147483647) ∧ ((CEN T H' ce e d))
set_option maxHeartbeats 4000000 in
theorem u_156 {kt : Nat → Option mc_E} {T : wq_T} {H : wq_H} {r0 : Nat} {cu : Nat} {wa : Nat} {ce : Nat} {e : xD} {d : xD} {n : Int} (hW : WT T H) (g0 : T.2.2.2 r0 = some 1) (qcu : H r0 6 = (cu : Int)) (gcu : T.2.2.2 cu = some 27) (qwa : H r0 2 = (wa : Int)) (gwa : T.2.2.2 wa = some 6) (qce : H r0 3 = (ce : Int)) (gce : T.2.2.2 ce = some 12) (p0 : ∀ i, i ≠ 13 → e i = d i) (p1 : XW d) (p2 : e 0 3 = d 0 3) (p3 : e 0 0 = d 0 0) (p4 : H r0 8 = 0 ∨ n = xlots d) (p5 : H r0 8 ≠ 0 ∨ (d 0 3 = 0 ∧ d 0 0 = 0)) (hCU_cu : CU T H cu e d n) (hCEN_ce : CEN T H ce e d) (hHDR_ce : HDR T H ce ) : wpc kt 6 156 [.ref r0] T H (uq_156 r0 cu wa ce e d n T H) := by
  refine wp_enter e156 (Nat.le_of_ble_eq_true rfl) rfl ?_
  have f0 : wfr [(12, 5), (12, 6), (12, 7), (12, 8), (12, 9), (27, 17), (1, 10), (6, 5), (8, 999), (10, 999), (15, 999), (9, 999), (18, 999), (19, 999), (7, 999), (11, 999), (17, 999), (13, 999)] T H H := wfr.rf
  show wp _ _ 156 0 [(0, .ref r0)] [] _ H _
  have u1081 := CU_k hCU_cu
  have b1082 : 0 ≤ H r0 8 ∧ H r0 8 ≤ 1 := hW.box g0 (n := 13) rfl (by decide) rfl
  have _c7 : d 0 0 ≤ 24 := p1.2.1.2.1
  refine wp_of e156 c156_0 (rw_aload_n (pc' := 1) (v := .ref r0) rfl rfl rfl ?_)
  refine wp_of e156 c156_1 (rw_aload_n (pc' := 2) (v := .ref r0) rfl rfl rfl ?_)
  refine wp_of e156 c156_2 (xg_I (pc' := 5) lf_0_58 hW g0 sh_1 (by decide) (by decide) ty_1_8 rfl rfl (fun b1083 b1084 => ?_))
  refine wp_of e156 c156_5 (xc_V (pc' := 8) (r := r0) (as := [vI (H r0 8)]) (st := []) (lm_0_174) rfl rfl (Nat.le_of_ble_eq_true rfl) hW g0 sh_1 (by decide) rfl (by decide) (u_83 (e := e) (d := d) (n := n) hW g0 ⟨b1083, b1084⟩ qcu gcu qwa gwa qce gce (by assumption) (by assumption) (by omega) (by omega) (by omega) hCU_cu hCEN_ce hHDR_ce) (fun R1085 T1086 H1087 p1088 => ?_))
  obtain ⟨e1089, w1091, f1092, z1093, e1090, b1094, p1095⟩ := p1088
  subst e1089
  subst e1090
  rcases p1095 with ⟨a1096, a1097, a1098, a1099, a1100, a1101⟩ | ⟨a1102, a1103, a1104⟩
  · have f1105 := f0.tr f1092 rfl
    show wp _ _ 156 8 [(0, .ref r0)] [vI z1093] _ H1087 _
    refine wp_of e156 c156_8 (rw_istore_n (pc' := 9) (z := z1093) (L' := [(1, vI z1093), (0, .ref r0)]) rfl rfl rfl ?_)
    refine wp_of e156 c156_9 (rw_iload_n (pc' := 10) (z := z1093) rfl rfl ?_)
    refine wp_of e156 c156_10 (rw_if_eq (p1 := 19) (p2 := 13) (by decide) rfl ⟨Int.le_trans (by decide) b1094.1, Int.le_trans b1094.2 (by decide)⟩ (fun c1106 => ?_) (fun c1106 => ?_))
    · refine wp_of e156 c156_19 (rw_aload_n (pc' := 20) (v := .ref r0) rfl rfl rfl ?_)
      have k1107 : H1087 r0 3 = H r0 3 := (f1092 r0 3 _ g0 rfl)
      have q1108 : H1087 r0 3 = (ce : Int) := k1107.trans qce
      refine wp_of e156 c156_20 (xg_K (pc' := 23) lf_0_30 w1091 g0 sh_1 (by decide) (by decide) rfl q1108 rfl ?_)
      refine wp_of e156 c156_23 (rw_aload_n (pc' := 24) (v := .ref r0) rfl rfl rfl ?_)
      have k1109 : H1087 r0 6 = H r0 6 := (f1092 r0 6 _ g0 rfl)
      have q1110 : H1087 r0 6 = (cu : Int) := k1109.trans qcu
      refine wp_of e156 c156_24 (xg_K (pc' := 27) lf_0_51 w1091 g0 sh_1 (by decide) (by decide) rfl q1110 rfl ?_)
      refine wp_of e156 c156_27 (xg_I (pc' := 30) lf_0_298 w1091 gcu sh_27 (by decide) (by decide) ty_27_17 rfl rfl (fun b1111 b1112 => ?_))
      refine wp_of e156 c156_30 (rw_aload_n (pc' := 31) (v := .ref r0) rfl rfl rfl ?_)
      refine wp_of e156 c156_31 (xg_K (pc' := 34) lf_0_51 w1091 g0 sh_1 (by decide) (by decide) rfl q1110 rfl ?_)
      refine wp_of e156 c156_34 (xc_V (pc' := 37) (r := ce) (as := [vI (H1087 cu 17), .ref cu]) (st := []) (lm_0_301) rfl rfl (Nat.le_of_ble_eq_true rfl) w1091 gce sh_12 (by decide) rfl (by decide) (s_124 w1091 gce ⟨b1111, b1112⟩ gcu) (fun R1113 T1114 H1115 p1116 => ?_))
      obtain ⟨e1117, e1119, z1120, e1118, b1121⟩ := p1116
      subst e1117
      subst e1118
      subst e1119
      show wp _ _ 156 37 [(1, vI z1093), (0, .ref r0)] [vI z1120] _ H1087 _
      refine wp_of e156 c156_37 (rw_istore_n (pc' := 38) (z := z1120) (L' := [(2, vI z1120), (1, vI z1093), (0, .ref r0)]) rfl rfl rfl ?_)
      refine wp_of e156 c156_38 (rw_iload_n (pc' := 39) (z := z1120) rfl rfl ?_)
      refine wp_of e156 c156_39 (rw_if_ge (p1 := 49) (p2 := 42) (by decide) rfl ⟨Int.le_trans (by decide) b1121.1, Int.le_trans b1121.2 (by decide)⟩ (fun c1122 => ?_) (fun c1122 => ?_))
      · refine wp_of e156 c156_49 (rw_aload_n (pc' := 50) (v := .ref r0) rfl rfl rfl ?_)
        refine wp_of e156 c156_50 (xg_K (pc' := 53) lf_0_51 w1091 g0 sh_1 (by decide) (by decide) rfl q1110 rfl ?_)
        refine wp_of e156 c156_53 (rw_iload_n (pc' := 54) (z := z1120) rfl rfl ?_)
        refine wp_of e156 c156_54 (rw_iconst (pc' := 55) rfl ?_)
        refine wp_of e156 c156_55 (rw_iadd (pc' := 56) rfl ?_)
        refine wp_of e156 c156_56 (xp_I (pc' := 59) lf_0_298 w1091 gcu sh_27 (by decide) (by decide) ty_27_17 rfl rfl (by omega) (by omega) ⟨by omega, by omega⟩ rfl (fun H1123 e1124 w1125 => ?_))
        have f1126 := f1105.put' e1124 gcu rfl
        have k1127 : H1123 cu 17 = z1120 + 1 := wq_u_s e1124
        refine wp_of e156 c156_59 (rw_aload_n (pc' := 60) (v := .ref r0) rfl rfl rfl ?_)
        refine wp_of e156 c156_60 (rw_iload_n (pc' := 61) (z := z1120) rfl rfl ?_)
        refine wp_of e156 c156_61 (xc_V (pc' := 64) (r := r0) (as := [vI z1120]) (st := []) (lm_0_99) rfl rfl (Nat.le_of_ble_eq_true rfl) w1125 g0 sh_1 (by decide) rfl (by decide) (s_51 w1125 g0 ⟨Int.le_trans (by decide) b1121.1, Int.le_trans b1121.2 (by decide)⟩) (fun R1128 T1129 H1130 p1131 => ?_))
        obtain ⟨e1132, w1134, f1135, z1136, e1133, b1137⟩ := p1131
        subst e1132
        subst e1133
        have f1138 := f1126.tr f1135 rfl
        show wp _ _ 156 64 [(2, vI z1120), (1, vI z1093), (0, .ref r0)] [vI z1136] _ H1130 _
        have h1139 : CEN T H1130 ce e d := (CEN_fr w1125 gce f1135 rfl (CEN_fr w1091 gce ((wfr.rf (l := [(27, 17)])).put' e1124 gcu rfl) rfl a1099))
        exact wp_ireturn e156 c156_64 rfl ⟨rfl, w1134, f1138, z1136, rfl, ⟨b1137.1, b1137.2⟩, (h1139)⟩
      · refine wp_of e156 c156_42 (rw_aload_n (pc' := 43) (v := .ref r0) rfl rfl rfl ?_)
        refine wp_of e156 c156_43 (rw_bipush (pc' := 45) (z := 6) rfl (by decide) ?_)
        refine wp_of e156 c156_45 (xc_V (pc' := 48) (r := r0) (as := [vI 6]) (st := []) (lm_0_70) rfl rfl (Nat.le_of_ble_eq_true rfl) w1091 g0 sh_1 (by decide) rfl (by decide) (s_12 w1091 g0 ⟨by decide, by decide⟩) (fun R1140 T1141 H1142 p1143 => ?_))
        obtain ⟨e1144, w1146, f1147, z1148, e1145, b1149⟩ := p1143
        subst e1144
        subst e1145
        have f1150 := f1105.tr f1147 rfl
        show wp _ _ 156 48 [(2, vI z1120), (1, vI z1093), (0, .ref r0)] [vI z1148] _ H1142 _
        have h1151 : CEN T H1142 ce e d := (CEN_fr w1091 gce f1147 rfl a1099)
        exact wp_ireturn e156 c156_48 rfl ⟨rfl, w1146, f1150, z1148, rfl, ⟨b1149.1, b1149.2⟩, (h1151)⟩
    · exfalso
      omega
  · have f1152 := f0.tr f1092 rfl
    show wp _ _ 156 8 [(0, .ref r0)] [vI z1093] _ H1087 _
    refine wp_of e156 c156_8 (rw_istore_n (pc' := 9) (z := z1093) (L' := [(1, vI z1093), (0, .ref r0)]) rfl rfl rfl ?_)
    refine wp_of e156 c156_9 (rw_iload_n (pc' := 10) (z := z1093) rfl rfl ?_)
    refine wp_of e156 c156_10 (rw_if_eq (p1 := 19) (p2 := 13) (by decide) rfl ⟨Int.le_trans (by decide) b1094.1, Int.le_trans b1094.2 (by decide)⟩ (fun c1153 => ?_) (fun c1153 => ?_))
    · exfalso
      omega
    · refine wp_of e156 c156_13 (rw_aload_n (pc' := 14) (v := .ref r0) rfl rfl rfl ?_)
      refine wp_of e156 c156_14 (rw_iload_n (pc' := 15) (z := z1093) rfl rfl ?_)
      refine wp_of e156 c156_15 (xc_V (pc' := 18) (r := r0) (as := [vI z1093]) (st := []) (lm_0_70) rfl rfl (Nat.le_of_ble_eq_true rfl) w1091 g0 sh_1 (by decide) rfl (by decide) (s_12 w1091 g0 ⟨Int.le_trans (by decide) b1094.1, Int.le_trans b1094.2 (by decide)⟩) (fun R1154 T1155 H1156 p1157 => ?_))
      obtain ⟨e1158, w1160, f1161, z1162, e1159, b1163⟩ := p1157
      subst e1158
      subst e1159
      have f1164 := f1152.tr f1161 rfl
      show wp _ _ 156 18 [(1, vI z1093), (0, .ref r0)] [vI z1162] _ H1156 _
      have h1165 : CEN T H1156 ce e d := (CEN_fr w1091 gce f1161 rfl a1104)
      exact wp_ireturn e156 c156_18 rfl ⟨rfl, w1160, f1164, z1162, rfl, ⟨b1163.1, b1163.2⟩, (h1165)⟩
