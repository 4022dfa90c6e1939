/-! StrikeAwakeModel.needs(Ljava/lang/String;)V k -/
abbrev uq_183_k (r0 : Nat) (s1 : Nat) (rb : Nat) (B : Nat → Int) (n : Int) (q : Int) (kk : Int) (T : wq_T) (H : wq_H) : Option Value → wq_T → wq_H → Prop := fun r T' H' => T = T' ∧ WT T H' ∧ wfr [(42, 8), (42, 9), (42, 10), (42, 11), (42, 12), (42, 13), (42, 14), (42, 15)] T H H' ∧ none = r ∧ (((xw B n q kk = 0) ∧ RC T H' r0 B n (xN B n q)) ∨ ((xw B n q kk ≠ 0) ∧ RO T H' r0 (xw B n q kk) q))
set_option maxHeartbeats 4000000 in
theorem u_183_k {kt : Nat → Option mc_E} {T : wq_T} {H : wq_H} {r0 : Nat} {s1 : Nat} {t1 : List Int32} {rb : Nat} {B : Nat → Int} {n : Int} {q : Int} {kk : Int} (hW : WT T H) (g0 : T.2.2.2 r0 = some 42) (h1 : mc_find mc_sb s1 = some t1) (qrb : H r0 5 = (rb : Int)) (grb : T.2.2.2 rb = some 43) (p0 : wkw t1 t1.length = kk) (hRC_r0 : RC T H r0 B n q) : wpc kt 3 183 [.ref r0, .ref s1] T H (uq_183_k r0 s1 rb B n q kk T H) := by
  refine wp_enter e183 (Nat.le_of_ble_eq_true rfl) rfl ?_
  have f0 : wfr [(42, 8), (42, 9), (42, 10), (42, 11), (42, 12), (42, 13), (42, 14), (42, 15)] T H H := wfr.rf
  show wp _ _ 183 0 [(0, .ref r0), (1, .ref s1)] [] _ H _
  have u1049 := RC_k hRC_r0
  refine wp_of e183 c183_0 (rw_aload_n (pc' := 1) (v := .ref r0) rfl rfl rfl ?_)
  refine wp_of e183 c183_1 (rw_aload_n (pc' := 2) (v := .ref s1) rfl rfl rfl ?_)
  refine wp_of e183 c183_2 (xc_V (pc' := 5) (r := r0) (as := [.ref s1]) (st := []) (lm_9_114) rfl rfl (Nat.le_of_ble_eq_true rfl) hW g0 sh_42 (by decide) rfl (by decide) (u_178_k (B := B) (n := n) (q := q) (kk := kk) hW g0 h1 (by assumption) hRC_r0) (fun R1050 T1051 H1052 p1053 => ?_))
  obtain ⟨e1054, e1056, z1057, e1055, b1058, p1059⟩ := p1053
  subst e1054
  subst e1055
  subst e1056
  rcases p1059 with ⟨a1060, a1061, a1062⟩ | ⟨a1063, a1064⟩
  · show wp _ _ 183 5 [(0, .ref r0), (1, .ref s1)] [vI z1057] _ H _
    refine wp_of e183 c183_5 (rw_if_ne (p1 := 13) (p2 := 8) (by decide) rfl ⟨Int.le_trans (by decide) b1058.1, Int.le_trans b1058.2 (by decide)⟩ (fun c1065 => ?_) (fun c1065 => ?_))
    · refine wp_of e183 c183_13 (rw_aload_n (pc' := 14) (v := .ref r0) rfl rfl rfl ?_)
      have u1066 := RC_a hRC_r0
      have h1067 : TM T H rb B := RC_tm hRC_r0 qrb
      refine wp_of e183 c183_14 (xc_V (pc' := 17) (r := r0) (as := []) (st := []) (lm_9_118) rfl rfl (Nat.le_of_ble_eq_true rfl) hW g0 sh_42 (by decide) rfl (by decide) (u_172_k (B := B) (n := n) (a := (xE B n q)) (q := (xN B n q)) hW g0 qrb grb (by omega) (by omega) (by omega) (by omega) (by omega) (rfl) h1067) (fun R1068 T1069 H1070 p1071 => ?_))
      obtain ⟨e1072, w1074, f1075, e1073, p1076⟩ := p1071
      subst e1072
      subst e1073
      have f1078 := f0.tr f1075 rfl
      show wp _ _ 183 17 [(0, .ref r0), (1, .ref s1)] [] _ H1070 _
      have u1079 := RC_k p1076
      exact wp_return e183 c183_17 rfl ⟨rfl, w1074, f1078, rfl, (Or.inl ⟨by omega, p1076⟩)⟩
    · exfalso
      omega
  · show wp _ _ 183 5 [(0, .ref r0), (1, .ref s1)] [vI z1057] _ H _
    refine wp_of e183 c183_5 (rw_if_ne (p1 := 13) (p2 := 8) (by decide) rfl ⟨Int.le_trans (by decide) b1058.1, Int.le_trans b1058.2 (by decide)⟩ (fun c1080 => ?_) (fun c1080 => ?_))
    · exfalso
      omega
    · refine wp_of e183 c183_8 (rw_aload_n (pc' := 9) (v := .ref r0) rfl rfl rfl ?_)
      refine wp_of e183 c183_9 (rw_iconst (pc' := 10) rfl ?_)
      refine wp_of e183 c183_10 (xc_V (pc' := 13) (r := r0) (as := [vI 1]) (st := []) (lm_9_121) rfl rfl (Nat.le_of_ble_eq_true rfl) hW g0 sh_42 (by decide) rfl (by decide) (u_181_k (B := B) (n := n) (q := q) hW g0 ⟨by decide, by decide⟩ (by omega) hRC_r0) (fun R1081 T1082 H1083 p1084 => ?_))
      obtain ⟨e1085, w1087, f1088, e1086, p1089⟩ := p1084
      subst e1085
      subst e1086
      have f1091 := f0.tr f1088 rfl
      show wp _ _ 183 13 [(0, .ref r0), (1, .ref s1)] [] _ H1083 _
      have u1092 := RO_k p1089
      refine wp_of e183 c183_13 (rw_aload_n (pc' := 14) (v := .ref r0) rfl rfl rfl ?_)
      refine wp_of e183 c183_14 (xc_V (pc' := 17) (r := r0) (as := []) (st := []) (lm_9_118) rfl rfl (Nat.le_of_ble_eq_true rfl) w1087 g0 sh_42 (by decide) rfl (by decide) (u_172_o (fo := 1) (po := q) w1087 g0 p1089) (fun R1093 T1094 H1095 p1096 => ?_))
      obtain ⟨e1097, e1099, e1098, p1100⟩ := p1096
      subst e1097
      subst e1098
      subst e1099
      show wp _ _ 183 17 [(0, .ref r0), (1, .ref s1)] [] _ H1083 _
      have u1102 := RO_k p1100
      exact wp_return e183 c183_17 rfl ⟨rfl, w1087, f1091, rfl, (Or.inr ⟨by omega, RO_eq p1100 (by omega) (by omega)⟩)⟩
/-! StrikeAwakeModel.needs(Ljava/lang/String;)V o -/
abbrev uq_183_o (r0 : Nat) (s1 : Nat) (rb : Nat) (fo : Int) (po : Int) (kk : Int) (T : wq_T) (H : wq_H) : Option Value → wq_T → wq_H → Prop := fun r T' H' => T = T' ∧ H = H' ∧ none = r ∧ ((RO T H r0 fo po))
set_option maxHeartbeats 4000000 in
theorem u_183_o {kt : Nat → Option mc_E} {T : wq_T} {H : wq_H} {r0 : Nat} {s1 : Nat} {t1 : List Int32} {rb : Nat} {fo : Int} {po : Int} {kk : Int} (hW : WT T H) (g0 : T.2.2.2 r0 = some 42) (h1 : mc_find mc_sb s1 = some t1) (qrb : H r0 5 = (rb : Int)) (grb : T.2.2.2 rb = some 43) (p0 : wkw t1 t1.length = kk) (hRO_r0 : RO T H r0 fo po) : wpc kt 3 183 [.ref r0, .ref s1] T H (uq_183_o r0 s1 rb fo po kk T H) := by
  refine wp_enter e183 (Nat.le_of_ble_eq_true rfl) rfl ?_
  show wp _ _ 183 0 [(0, .ref r0), (1, .ref s1)] [] _ H _
  have u1031 := RO_k hRO_r0
  refine wp_of e183 c183_0 (rw_aload_n (pc' := 1) (v := .ref r0) rfl rfl rfl ?_)
  refine wp_of e183 c183_1 (rw_aload_n (pc' := 2) (v := .ref s1) rfl rfl rfl ?_)
  refine wp_of e183 c183_2 (xc_V (pc' := 5) (r := r0) (as := [.ref s1]) (st := []) (lm_9_114) rfl rfl (Nat.le_of_ble_eq_true rfl) hW g0 sh_42 (by decide) rfl (by decide) (u_178_o (fo := fo) (po := po) (kk := kk) hW g0 h1 (by assumption) hRO_r0) (fun R1032 T1033 H1034 p1035 => ?_))
  obtain ⟨e1036, e1038, z1039, e1037, b1040, p1041⟩ := p1035
  subst e1036
  subst e1037
  subst e1038
  show wp _ _ 183 5 [(0, .ref r0), (1, .ref s1)] [vI z1039] _ H _
  refine wp_of e183 c183_5 (rw_if_ne (p1 := 13) (p2 := 8) (by decide) rfl ⟨Int.le_trans (by decide) b1040.1, Int.le_trans b1040.2 (by decide)⟩ (fun c1043 => ?_) (fun c1043 => ?_))
  · exfalso
    omega
  · refine wp_of e183 c183_8 (rw_aload_n (pc' := 9) (v := .ref r0) rfl rfl rfl ?_)
    refine wp_of e183 c183_9 (rw_iconst (pc' := 10) rfl ?_)
    refine wp_of e183 c183_10 (xc_V (pc' := 13) (r := r0) (as := [vI 1]) (st := []) (lm_9_121) rfl rfl (Nat.le_of_ble_eq_true rfl) hW g0 sh_42 (by decide) rfl (by decide) (u_181_o (fo := fo) (po := po) hW g0 ⟨by decide, by decide⟩ hRO_r0) (fun R1044 T1045 H1046 p1047 => ?_))
    obtain ⟨e1048, e1050, e1049, p1051⟩ := p1047
    subst e1048
    subst e1049
    subst e1050
    show wp _ _ 183 13 [(0, .ref r0), (1, .ref s1)] [] _ H _
    have u1053 := RO_k p1051
    refine wp_of e183 c183_13 (rw_aload_n (pc' := 14) (v := .ref r0) rfl rfl rfl ?_)
    refine wp_of e183 c183_14 (xc_V (pc' := 17) (r := r0) (as := []) (st := []) (lm_9_118) rfl rfl (Nat.le_of_ble_eq_true rfl) hW g0 sh_42 (by decide) rfl (by decide) (u_172_o (fo := fo) (po := po) hW g0 p1051) (fun R1054 T1055 H1056 p1057 => ?_))
    obtain ⟨e1058, e1060, e1059, p1061⟩ := p1057
    subst e1058
    subst e1059
    subst e1060
    show wp _ _ 183 17 [(0, .ref r0), (1, .ref s1)] [] _ H _
    have u1063 := RO_k p1061
    exact wp_return e183 c183_17 rfl ⟨rfl, rfl, rfl, (p1061)⟩
/-! StrikeAwakeModel.needsSign(I)V k -/
abbrev uq_197_k (r0 : Nat) (a1 : Int) (rb : Nat) (B : Nat → Int) (n : Int) (q : Int) (kd : Int) (T : wq_T) (H : wq_H) : Option Value → wq_T → wq_H → Prop := fun r T' H' => T = T' ∧ WT T H' ∧ wfr [(42, 8), (42, 9), (42, 10), (42, 11), (42, 12), (42, 13), (42, 14), (42, 15)] T H H' ∧ none = r ∧ (((xk B n q kd = 0) ∧ RC T H' r0 B n (xN B n q)) ∨ ((xk B n q kd ≠ 0) ∧ RO T H' r0 (xk B n q kd) q))
set_option maxHeartbeats 4000000 in
theorem u_197_k {kt : Nat → Option mc_E} {T : wq_T} {H : wq_H} {r0 : Nat} {a1 : Int} {rb : Nat} {B : Nat → Int} {n : Int} {q : Int} {kd : Int} (hW : WT T H) (g0 : T.2.2.2 r0 = some 42) (i1 : (-2147483648) ≤ a1 ∧ a1 ≤ 2147483647) (qrb : H r0 5 = (rb : Int)) (grb : T.2.2.2 rb = some 43) (p0 : (a1 = 59 ∧ kd = 3) ∨ (a1 = 44 ∧ kd = 4)) (hRC_r0 : RC T H r0 B n q) : wpc kt 3 197 [.ref r0, vI a1] T H (uq_197_k r0 a1 rb B n q kd T H) := by
  refine wp_enter e197 (Nat.le_of_ble_eq_true rfl) rfl ?_
  have f0 : wfr [(42, 8), (42, 9), (42, 10), (42, 11), (42, 12), (42, 13), (42, 14), (42, 15)] T H H := wfr.rf
  show wp _ _ 197 0 [(0, .ref r0), (1, vI a1)] [] _ H _
  have u1058 := RC_k hRC_r0
  have _s := RC_s hRC_r0
  have _k := @xk_b B n q kd
  refine wp_of e197 c197_0 (rw_aload_n (pc' := 1) (v := .ref r0) rfl rfl rfl ?_)
  refine wp_of e197 c197_1 (xg_I (pc' := 4) lf_9_75 hW g0 sh_42 (by decide) (by decide) ty_42_9 rfl rfl (fun b1059 b1060 => ?_))
  refine wp_of e197 c197_4 (rw_iconst (pc' := 5) rfl ?_)
  refine wp_of e197 c197_5 (rw_icmp_ne (p1 := 16) (p2 := 8) (by decide) rfl ⟨Int.le_trans (by decide) b1059, Int.le_trans b1060 (by decide)⟩ ⟨by decide, by decide⟩ (fun c1061 => ?_) (fun c1061 => ?_))
  · refine wp_of e197 c197_16 (rw_aload_n (pc' := 17) (v := .ref r0) rfl rfl rfl ?_)
    refine wp_of e197 c197_17 (rw_iconst (pc' := 18) rfl ?_)
    refine wp_of e197 c197_18 (xc_V (pc' := 21) (r := r0) (as := [vI 1]) (st := []) (lm_9_121) rfl rfl (Nat.le_of_ble_eq_true rfl) hW g0 sh_42 (by decide) rfl (by decide) (u_181_k (B := B) (n := n) (q := q) hW g0 ⟨by decide, by decide⟩ (by omega) hRC_r0) (fun R1062 T1063 H1064 p1065 => ?_))
    obtain ⟨e1066, w1068, f1069, e1067, p1070⟩ := p1065
    subst e1066
    subst e1067
    have f1072 := f0.tr f1069 rfl
    show wp _ _ 197 21 [(0, .ref r0), (1, vI a1)] [] _ H1064 _
    have u1073 := RO_k p1070
    refine wp_of e197 c197_21 (rw_aload_n (pc' := 22) (v := .ref r0) rfl rfl rfl ?_)
    refine wp_of e197 c197_22 (xc_V (pc' := 25) (r := r0) (as := []) (st := []) (lm_9_118) rfl rfl (Nat.le_of_ble_eq_true rfl) w1068 g0 sh_42 (by decide) rfl (by decide) (u_172_o (fo := 1) (po := q) w1068 g0 p1070) (fun R1074 T1075 H1076 p1077 => ?_))
    obtain ⟨e1078, e1080, e1079, p1081⟩ := p1077
    subst e1078
    subst e1079
    subst e1080
    show wp _ _ 197 25 [(0, .ref r0), (1, vI a1)] [] _ H1064 _
    have u1083 := RO_k p1081
    exact wp_return e197 c197_25 rfl ⟨rfl, w1068, f1072, rfl, (Or.inr ⟨by omega, RO_eq p1081 (by omega) (by omega)⟩)⟩
  · refine wp_of e197 c197_8 (rw_aload_n (pc' := 9) (v := .ref r0) rfl rfl rfl ?_)
    refine wp_of e197 c197_9 (xg_I (pc' := 12) lf_9_87 hW g0 sh_42 (by decide) (by decide) ty_42_11 rfl rfl (fun b1084 b1085 => ?_))
    refine wp_of e197 c197_12 (rw_iload_n (pc' := 13) (z := a1) rfl rfl ?_)
    refine wp_of e197 c197_13 (rw_icmp_eq (p1 := 21) (p2 := 16) (by decide) rfl ⟨b1084, b1085⟩ ⟨i1.1, i1.2⟩ (fun c1086 => ?_) (fun c1086 => ?_))
    · refine wp_of e197 c197_21 (rw_aload_n (pc' := 22) (v := .ref r0) rfl rfl rfl ?_)
      have u1087 := RC_a hRC_r0
      have h1088 : TM T H rb B := RC_tm hRC_r0 qrb
      refine wp_of e197 c197_22 (xc_V (pc' := 25) (r := r0) (as := []) (st := []) (lm_9_118) rfl rfl (Nat.le_of_ble_eq_true rfl) hW g0 sh_42 (by decide) rfl (by decide) (u_172_k (B := B) (n := n) (a := (xE B n q)) (q := (xN B n q)) hW g0 qrb grb (by omega) (by omega) (by omega) (by omega) (by omega) (rfl) h1088) (fun R1089 T1090 H1091 p1092 => ?_))
      obtain ⟨e1093, w1095, f1096, e1094, p1097⟩ := p1092
      subst e1093
      subst e1094
      have f1099 := f0.tr f1096 rfl
      show wp _ _ 197 25 [(0, .ref r0), (1, vI a1)] [] _ H1091 _
      have u1100 := RC_k p1097
      exact wp_return e197 c197_25 rfl ⟨rfl, w1095, f1099, rfl, (Or.inl ⟨by omega, p1097⟩)⟩
    · refine wp_of e197 c197_16 (rw_aload_n (pc' := 17) (v := .ref r0) rfl rfl rfl ?_)
      refine wp_of e197 c197_17 (rw_iconst (pc' := 18) rfl ?_)
      refine wp_of e197 c197_18 (xc_V (pc' := 21) (r := r0) (as := [vI 1]) (st := []) (lm_9_121) rfl rfl (Nat.le_of_ble_eq_true rfl) hW g0 sh_42 (by decide) rfl (by decide) (u_181_k (B := B) (n := n) (q := q) hW g0 ⟨by decide, by decide⟩ (by omega) hRC_r0) (fun R1101 T1102 H1103 p1104 => ?_))
      obtain ⟨e1105, w1107, f1108, e1106, p1109⟩ := p1104
      subst e1105
      subst e1106
      have f1111 := f0.tr f1108 rfl
      show wp _ _ 197 21 [(0, .ref r0), (1, vI a1)] [] _ H1103 _
      have u1112 := RO_k p1109
      refine wp_of e197 c197_21 (rw_aload_n (pc' := 22) (v := .ref r0) rfl rfl rfl ?_)
      refine wp_of e197 c197_22 (xc_V (pc' := 25) (r := r0) (as := []) (st := []) (lm_9_118) rfl rfl (Nat.le_of_ble_eq_true rfl) w1107 g0 sh_42 (by decide) rfl (by decide) (u_172_o (fo := 1) (po := q) w1107 g0 p1109) (fun R1113 T1114 H1115 p1116 => ?_))
      obtain ⟨e1117, e1119, e1118, p1120⟩ := p1116
      subst e1117
      subst e1118
      subst e1119
      show wp _ _ 197 25 [(0, .ref r0), (1, vI a1)] [] _ H1103 _
      have u1122 := RO_k p1120
      exact wp_return e197 c197_25 rfl ⟨rfl, w1107, f1111, rfl, (Or.inr ⟨by omega, RO_eq p1120 (by omega) (by omega)⟩)⟩
