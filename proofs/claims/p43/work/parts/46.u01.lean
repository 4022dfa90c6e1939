/-! what methods do (own work, written by wip/gen3/sx3.py) -/
/-! StrikeAwakeModel.needs(Ljava/lang/String;)V k -/
abbrev uq_183_k (r0 : Nat) (s1 : Nat) (rb : Nat) (B : Nat → Int) (n : Int) (q : Int) (kk : Int) (T : wq_T) (H : wq_H) : Option Value → wq_T → wq_H → Prop := fun r T' H' => T = T' ∧ WT T H' ∧ wfr [(42, 8), (42, 9), (42, 10), (42, 11), (42, 12), (42, 13), (42, 14), (42, 15)] T H H' ∧ none = r ∧ (((xw B n q kk = 0) ∧ RC T H' r0 B n (xN B n q)) ∨ ((xw B n q kk ≠ 0) ∧ RO T H' r0 (xw B n q kk) q))
set_option maxHeartbeats 4000000 in
theorem u_183_k {kt : Nat → Option mc_E} {T : wq_T} {H : wq_H} {r0 : Nat} {s1 : Nat} {t1 : List Int32} {rb : Nat} {B : Nat → Int} {n : Int} {q : Int} {kk : Int} (hW : WT T H) (g0 : T.2.2.2 r0 = some 42) (h1 : mc_find mc_sb s1 = some t1) (qrb : H r0 5 = (rb : Int)) (grb : T.2.2.2 rb = some 43) (p0 : wkw t1 t1.length = kk) (hRC_r0 : RC T H r0 B n q) : wpc kt 3 183 [.ref r0, .ref s1] T H (uq_183_k r0 s1 rb B n q kk T H) := by
  refine wp_enter e183 (Nat.le_of_ble_eq_true rfl) rfl ?_
  have f0 : wfr [(42, 8), (42, 9), (42, 10), (42, 11), (42, 12), (42, 13), (42, 14), (42, 15)] T H H := wfr.rf
  show wp _ _ 183 0 [(0, .ref r0), (1, .ref s1)] [] _ H _
  have u1049 := RC_k hRC_r0
  refine wp_of e183 c183_0 (rw_aload_n (pc' := 1) (v := .ref r0) rfl rfl rfl ?_)
  refine wp_of e183 c183_1 (rw_aload_n (pc' := 2) (v := .ref s1) rfl rfl rfl ?_)
  refine wp_of e183 c183_2 (xc_V (pc' := 5) (r := r0) (as := [.ref s1]) (st := []) (lm_9_114) rfl rfl (Nat.le_of_ble_eq_true rfl) hW g0 sh_42 (by decide) rfl (by decide) (u_178_k (B := B) (n := n) (q := q) (kk := kk) hW g0 h1 (by assumption) hRC_r0) (fun R1050 T1051 H1052 p1053 => ?_))
  obtain ⟨e1054, e1056, z1057, e1055, b1058, p1059⟩ := p1053
  subst e1054
  subst e1055
  subst e1056
  rcases p1059 with ⟨a1060, a1061, a1062⟩ | ⟨a1063, a1064⟩
  · show wp _ _ 183 5 [(0, .ref r0), (1, .ref s1)] [vI z1057] _ H _
    refine wp_of e183 c183_5 (rw_if_ne (p1 := 13) (p2 := 8) (by decide) rfl ⟨Int.le_trans (by decide) b1058.1, Int.le_trans b1058.2 (by decide)⟩ (fun c1065 => ?_) (fun c1065 => ?_))
    · refine wp_of e183 c183_13 (rw_aload_n (pc' := 14) (v := .ref r0) rfl rfl rfl ?_)
      have u1066 := RC_a hRC_r0
      have h1067 : TM T H rb B := RC_tm hRC_r0 qrb
      refine wp_of e183 c183_14 (xc_V (pc' := 17) (r := r0) (as := []) (st := []) (lm_9_118) rfl rfl (Nat.le_of_ble_eq_true rfl) hW g0 sh_42 (by decide) rfl (by decide) (u_172_k (B := B) (n := n) (a := (xE B n q)) (q := (xN B n q)) hW g0 qrb grb (by omega) (by omega) (by omega) (by omega) (by omega) (rfl) h1067) (fun R1068 T1069 H1070 p1071 => ?_))
      obtain ⟨e1072, w1074, f1075, e1073, p1076⟩ := p1071
      subst e1072
      subst e1073
      have f1078 := f0.tr f1075 rfl
      show wp _ _ 183 17 [(0, .ref r0), (1, .ref s1)] [] _ H1070 _
      have u1079 := RC_k p1076
      exact wp_return e183 c183_17 rfl ⟨rfl, w1074, f1078, rfl, (Or.inl ⟨by omega, p1076⟩)⟩
    · exfalso
      omega
  · show wp _ _ 183 5 [(0, .ref r0), (1, .ref s1)] [vI z1057] _ H _
    refine wp_of e183 c183_5 (rw_if_ne (p1 := 13) (p2 := 8) (by decide) rfl ⟨Int.le_trans (by decide) b1058.1, Int.le_trans b1058.2 (by decide)⟩ (fun c1080 => ?_) (fun c1080 => ?_))
    · exfalso
      omega
    · refine wp_of e183 c183_8 (rw_aload_n (pc' := 9) (v := .ref r0) rfl rfl rfl ?_)
      refine wp_of e183 c183_9 (rw_iconst (pc' := 10) rfl ?_)
      refine wp_of e183 c183_10 (xc_V (pc' := 13) (r := r0) (as := [vI 1]) (st := []) (lm_9_121) rfl rfl (Nat.le_of_ble_eq_true rfl) hW g0 sh_42 (by decide) rfl (by decide) (u_181_k (B := B) (n := n) (q := q) hW g0 ⟨by decide, by decide⟩ (by omega) hRC_r0) (fun R1081 T1082 H1083 p1084 => ?_))
      obtain ⟨e1085, w1087, f1088, e1086, p1089⟩ := p1084
      subst e1085
      subst e1086
      have f1091 := f0.tr f1088 rfl
      show wp _ _ 183 13 [(0, .ref r0), (1, .ref s1)] [] _ H1083 _
      have u1092 := RO_k p1089
      refine wp_of e183 c183_13 (rw_aload_n (pc' := 14) (v := .ref r0) rfl rfl rfl ?_)
      refine wp_of e183 c183_14 (xc_V (pc' := 17) (r := r0) (as := []) (st := []) (lm_9_118) rfl rfl (Nat.le_of_ble_eq_true rfl) w1087 g0 sh_42 (by decide) rfl (by decide) (u_172_o (fo := 1) (po := q) w1087 g0 p1089) (fun R1093 T1094 H1095 p1096 => ?_))
      obtain ⟨e1097, e1099, e1098, p1100⟩ := p1096
      subst e1097
      subst e1098
      subst e1099
      show wp _ _ 183 17 [(0, .ref r0), (1, .ref s1)] [] _ H1083 _
      have u1102 := RO_k p1100
      exact wp_return e183 c183_17 rfl ⟨rfl, w1087, f1091, rfl, (Or.inr ⟨by omega, RO_eq p1100 (by omega) (by omega)⟩)⟩
/-! StrikeAwakeModel.needs(Ljava/lang/String;)V o -/
abbrev uq_183_o (r0 : Nat) (s1 : Nat) (rb : Nat) (fo : Int) (po : Int) (kk : Int) (T : wq_T) (H : wq_H) : Option Value → wq_T → wq_H → Prop := fun r T' H' => T = T' ∧ H = H' ∧ none = r ∧ ((RO T H r0 fo po))
set_option maxHeartbeats 4000000 in
theorem u_183_o {kt : Nat → Option mc_E} {T : wq_T} {H : wq_H} {r0 : Nat} {s1 : Nat} {t1 : List Int32} {rb : Nat} {fo : Int} {po : Int} {kk : Int} (hW : WT T H) (g0 : T.2.2.2 r0 = some 42) (h1 : mc_find mc_sb s1 = some t1) (qrb : H r0 5 = (rb : Int)) (grb : T.2.2.2 rb = some 43) (p0 : wkw t1 t1.length = kk) (hRO_r0 : RO T H r0 fo po) : wpc kt 3 183 [.ref r0, .ref s1] T H (uq_183_o r0 s1 rb fo po kk T H) := by
  refine wp_enter e183 (Nat.le_of_ble_eq_true rfl) rfl ?_
  show wp _ _ 183 0 [(0, .ref r0), (1, .ref s1)] [] _ H _
  have u1031 := RO_k hRO_r0
  refine wp_of e183 c183_0 (rw_aload_n (pc' := 1) (v := .ref r0) rfl rfl rfl ?_)
  refine wp_of e183 c183_1 (rw_aload_n (pc' := 2) (v := .ref s1) rfl rfl rfl ?_)
  refine wp_of e183 c183_2 (xc_V (pc' := 5) (r := r0) (as := [.ref s1]) (st := []) (lm_9_114) rfl rfl (Nat.le_of_ble_eq_true rfl) hW g0 sh_42 (by decide) rfl (by decide) (u_178_o (fo := fo) (po := po) (kk := kk) hW g0 h1 (by assumption) hRO_r0) (fun R1032 T1033 H1034 p1035 => ?_))
  obtain ⟨e1036, e1038, z1039, e1037, b1040, p1041⟩ := p1035
  subst e1036
  subst e1037
  subst e1038
  show wp _ _ 183 5 [(0, .ref r0), (1, .ref s1)] [vI z1039] _ H _
  refine wp_of e183 c183_5 (rw_if_ne (p1 := 13) (p2 := 8) (by decide) rfl ⟨Int.le_trans (by decide) b1040.1, Int.le_trans b1040.2 (by decide)⟩ (fun c1043 => ?_) (fun c1043 => ?_))
  · exfalso
    omega
  · refine wp_of e183 c183_8 (rw_aload_n (pc' := 9) (v := .ref r0) rfl rfl rfl ?_)
    refine wp_of e183 c183_9 (rw_iconst (pc' := 10) rfl ?_)
    refine wp_of e183 c183_10 (xc_V (pc' := 13) (r := r0) (as := [vI 1]) (st := []) (lm_9_121) rfl rfl (Nat.le_of_ble_eq_true rfl) hW g0 sh_42 (by decide) rfl (by decide) (u_181_o (fo := fo) (po := po) hW g0 ⟨by decide, by decide⟩ hRO_r0) (fun R1044 T1045 H1046 p1047 => ?_))
    obtain ⟨e1048, e1050, e1049, p1051⟩ := p1047
    subst e1048
    subst e1049
    subst e1050
    show wp _ _ 183 13 [(0, .ref r0), (1, .ref s1)] [] _ H _
    have u1053 := RO_k p1051
    refine wp_of e183 c183_13 (rw_aload_n (pc' := 14) (v := .ref r0) rfl rfl rfl ?_)
    refine wp_of e183 c183_14 (xc_V (pc' := 17) (r := r0) (as := []) (st := []) (lm_9_118) rfl rfl (Nat.le_of_ble_eq_true rfl) hW g0 sh_42 (by decide) rfl (by decide) (u_172_o (fo := fo) (po := po) hW g0 p1051) (fun R1054 T1055 H1056 p1057 => ?_))
    obtain ⟨e1058, e1060, e1059, p1061⟩ := p1057
    subst e1058
    subst e1059
    subst e1060
    show wp _ _ 183 17 [(0, .ref r0), (1, .ref s1)] [] _ H _
    have u1063 := RO_k p1061
    exact wp_return e183 c183_17 rfl ⟨rfl, rfl, rfl, (p1061)⟩
/-! StrikeAwakeModel.needsSign(I)V k -/
abbrev uq_197_k (r0 : Nat) (a1 : Int) (rb : Nat) (B : Nat → Int) (n : Int) (q : Int) (kd : Int) (T : wq_T) (H : wq_H) : Option Value → wq_T → wq_H → Prop := fun r T' H' => T = T' ∧ WT T H' ∧ wfr [(42, 8), (42, 9), (42, 10), (42, 11), (42, 12), (42, 13), (42, 14), (42, 15)] T H H' ∧ none = r ∧ (((xk B n q kd = 0) ∧ RC T H' r0 B n (xN B n q)) ∨ ((xk B n q kd ≠ 0) ∧ RO T H' r0 (xk B n q kd) q))
set_option maxHeartbeats 4000000 in
theorem u_197_k {kt : Nat → Option mc_E} {T : wq_T} {H : wq_H} {r0 : Nat} {a1 : Int} {rb : Nat} {B : Nat → Int} {n : Int} {q : Int} {kd : Int} (hW : WT T H) (g0 : T.2.2.2 r0 = some 42) (i1 : (-2147483648) ≤ a1 ∧ a1 ≤ 2147483647) (qrb : H r0 5 = (rb : Int)) (grb : T.2.2.2 rb = some 43) (p0 : (a1 = 59 ∧ kd = 3) ∨ (a1 = 44 ∧ kd = 4)) (hRC_r0 : RC T H r0 B n q) : wpc kt 3 197 [.ref r0, vI a1] T H (uq_197_k r0 a1 rb B n q kd T H) := by
  refine wp_enter e197 (Nat.le_of_ble_eq_true rfl) rfl ?_
  have f0 : wfr [(42, 8), (42, 9), (42, 10), (42, 11), (42, 12), (42, 13), (42, 14), (42, 15)] T H H := wfr.rf
  show wp _ _ 197 0 [(0, .ref r0), (1, vI a1)] [] _ H _
  have u1058 := RC_k hRC_r0
  have _s := RC_s hRC_r0
  have _k := @xk_b B n q kd
  refine wp_of e197 c197_0 (rw_aload_n (pc' := 1) (v := .ref r0) rfl rfl rfl ?_)
  refine wp_of e197 c197_1 (xg_I (pc' := 4) lf_9_75 hW g0 sh_42 (by decide) (by decide) ty_42_9 rfl rfl (fun b1059 b1060 => ?_))
  refine wp_of e197 c197_4 (rw_iconst (pc' := 5) rfl ?_)
  refine wp_of e197 c197_5 (rw_icmp_ne (p1 := 16) (p2 := 8) (by decide) rfl ⟨Int.le_trans (by decide) b1059, Int.le_trans b1060 (by decide)⟩ ⟨by decide, by decide⟩ (fun c1061 => ?_) (fun c1061 => ?_))
  · refine wp_of e197 c197_16 (rw_aload_n (pc' := 17) (v := .ref r0) rfl rfl rfl ?_)
    refine wp_of e197 c197_17 (rw_iconst (pc' := 18) rfl ?_)
    refine wp_of e197 c197_18 (xc_V (pc' := 21) (r := r0) (as := [vI 1]) (st := []) (lm_9_121) rfl rfl (Nat.le_of_ble_eq_true rfl) hW g0 sh_42 (by decide) rfl (by decide) (u_181_k (B := B) (n := n) (q := q) hW g0 ⟨by decide, by decide⟩ (by omega) hRC_r0) (fun R1062 T1063 H1064 p1065 => ?_))
    obtain ⟨e1066, w1068, f1069, e1067, p1070⟩ := p1065
    subst e1066
    subst e1067
    have f1072 := f0.tr f1069 rfl
    show wp _ _ 197 21 [(0, .ref r0), (1, vI a1)] [] _ H1064 _
    have u1073 := RO_k p1070
    refine wp_of e197 c197_21 (rw_aload_n (pc' := 22) (v := .ref r0) rfl rfl rfl ?_)
    refine wp_of e197 c197_22 (xc_V (pc' := 25) (r := r0) (as := []) (st := []) (lm_9_118) rfl rfl (Nat.le_of_ble_eq_true rfl) w1068 g0 sh_42 (by decide) rfl (by decide) (u_172_o (fo := 1) (po := q) w1068 g0 p1070) (fun R1074 T1075 H1076 p1077 => ?_))
    obtain ⟨e1078, e1080, e1079, p1081⟩ := p1077
    subst e1078
    subst e1079
    subst e1080
    show wp _ _ 197 25 [(0, .ref r0), (1, vI a1)] [] _ H1064 _
    have u1083 := RO_k p1081
    exact wp_return e197 c197_25 rfl ⟨rfl, w1068, f1072, rfl, (Or.inr ⟨by omega, RO_eq p1081 (by omega) (by omega)⟩)⟩
  · refine wp_of e197 c197_8 (rw_aload_n (pc' := 9) (v := .ref r0) rfl rfl rfl ?_)
    refine wp_of e197 c197_9 (xg_I (pc' := 12) lf_9_87 hW g0 sh_42 (by decide) (by decide) ty_42_11 rfl rfl (fun b1084 b1085 => ?_))
    refine wp_of e197 c197_12 (rw_iload_n (pc' := 13) (z := a1) rfl rfl ?_)
    refine wp_of e197 c197_13 (rw_icmp_eq (p1 := 21) (p2 := 16) (by decide) rfl ⟨b1084, b1085⟩ ⟨i1.1, i1.2⟩ (fun c1086 => ?_) (fun c1086 => ?_))
    · refine wp_of e197 c197_21 (rw_aload_n (pc' := 22) (v := .ref r0) rfl rfl rfl ?_)
      have u1087 := RC_a hRC_r0
      have h1088 : TM T H rb B := RC_tm hRC_r0 qrb
      refine wp_of e197 c197_22 (xc_V (pc' := 25) (r := r0) (as := []) (st := []) (lm_9_118) rfl rfl (Nat.le_of_ble_eq_true rfl) hW g0 sh_42 (by decide) rfl (by decide) (u_172_k (B := B) (n := n) (a := (xE B n q)) (q := (xN B n q)) hW g0 qrb grb (by omega) (by omega) (by omega) (by omega) (by omega) (rfl) h1088) (fun R1089 T1090 H1091 p1092 => ?_))
      obtain ⟨e1093, w1095, f1096, e1094, p1097⟩ := p1092
      subst e1093
      subst e1094
      have f1099 := f0.tr f1096 rfl
      show wp _ _ 197 25 [(0, .ref r0), (1, vI a1)] [] _ H1091 _
      have u1100 := RC_k p1097
      exact wp_return e197 c197_25 rfl ⟨rfl, w1095, f1099, rfl, (Or.inl ⟨by omega, p1097⟩)⟩
    · refine wp_of e197 c197_16 (rw_aload_n (pc' := 17) (v := .ref r0) rfl rfl rfl ?_)
      refine wp_of e197 c197_17 (rw_iconst (pc' := 18) rfl ?_)
      refine wp_of e197 c197_18 (xc_V (pc' := 21) (r := r0) (as := [vI 1]) (st := []) (lm_9_121) rfl rfl (Nat.le_of_ble_eq_true rfl) hW g0 sh_42 (by decide) rfl (by decide) (u_181_k (B := B) (n := n) (q := q) hW g0 ⟨by decide, by decide⟩ (by omega) hRC_r0) (fun R1101 T1102 H1103 p1104 => ?_))
      obtain ⟨e1105, w1107, f1108, e1106, p1109⟩ := p1104
      subst e1105
      subst e1106
      have f1111 := f0.tr f1108 rfl
      show wp _ _ 197 21 [(0, .ref r0), (1, vI a1)] [] _ H1103 _
      have u1112 := RO_k p1109
      refine wp_of e197 c197_21 (rw_aload_n (pc' := 22) (v := .ref r0) rfl rfl rfl ?_)
      refine wp_of e197 c197_22 (xc_V (pc' := 25) (r := r0) (as := []) (st := []) (lm_9_118) rfl rfl (Nat.le_of_ble_eq_true rfl) w1107 g0 sh_42 (by decide) rfl (by decide) (u_172_o (fo := 1) (po := q) w1107 g0 p1109) (fun R1113 T1114 H1115 p1116 => ?_))
      obtain ⟨e1117, e1119, e1118, p1120⟩ := p1116
      subst e1117
      subst e1118
      subst e1119
      show wp _ _ 197 25 [(0, .ref r0), (1, vI a1)] [] _ H1103 _
      have u1122 := RO_k p1120
      exact wp_return e197 c197_25 rfl ⟨rfl, w1107, f1111, rfl, (Or.inr ⟨by omega, RO_eq p1120 (by omega) (by omega)⟩)⟩
/-! StrikeAwakeModel.needsSign(I)V o -/
abbrev uq_197_o (r0 : Nat) (a1 : Int) (rb : Nat) (fo : Int) (po : Int) (T : wq_T) (H : wq_H) : Option Value → wq_T → wq_H → Prop := fun r T' H' => T = T' ∧ H = H' ∧ none = r ∧ ((RO T H r0 fo po))
set_option maxHeartbeats 4000000 in
theorem u_197_o {kt : Nat → Option mc_E} {T : wq_T} {H : wq_H} {r0 : Nat} {a1 : Int} {rb : Nat} {fo : Int} {po : Int} (hW : WT T H) (g0 : T.2.2.2 r0 = some 42) (i1 : (-2147483648) ≤ a1 ∧ a1 ≤ 2147483647) (qrb : H r0 5 = (rb : Int)) (grb : T.2.2.2 rb = some 43) (hRO_r0 : RO T H r0 fo po) : wpc kt 3 197 [.ref r0, vI a1] T H (uq_197_o r0 a1 rb fo po T H) := by
  refine wp_enter e197 (Nat.le_of_ble_eq_true rfl) rfl ?_
  show wp _ _ 197 0 [(0, .ref r0), (1, vI a1)] [] _ H _
  have u1022 := RO_k hRO_r0
  refine wp_of e197 c197_0 (rw_aload_n (pc' := 1) (v := .ref r0) rfl rfl rfl ?_)
  refine wp_of e197 c197_1 (xg_I (pc' := 4) lf_9_75 hW g0 sh_42 (by decide) (by decide) ty_42_9 rfl rfl (fun b1023 b1024 => ?_))
  refine wp_of e197 c197_4 (rw_iconst (pc' := 5) rfl ?_)
  refine wp_of e197 c197_5 (rw_icmp_ne (p1 := 16) (p2 := 8) (by decide) rfl ⟨Int.le_trans (by decide) b1023, Int.le_trans b1024 (by decide)⟩ ⟨by decide, by decide⟩ (fun c1025 => ?_) (fun c1025 => ?_))
  · refine wp_of e197 c197_16 (rw_aload_n (pc' := 17) (v := .ref r0) rfl rfl rfl ?_)
    refine wp_of e197 c197_17 (rw_iconst (pc' := 18) rfl ?_)
    refine wp_of e197 c197_18 (xc_V (pc' := 21) (r := r0) (as := [vI 1]) (st := []) (lm_9_121) rfl rfl (Nat.le_of_ble_eq_true rfl) hW g0 sh_42 (by decide) rfl (by decide) (u_181_o (fo := fo) (po := po) hW g0 ⟨by decide, by decide⟩ hRO_r0) (fun R1026 T1027 H1028 p1029 => ?_))
    obtain ⟨e1030, e1032, e1031, p1033⟩ := p1029
    subst e1030
    subst e1031
    subst e1032
    show wp _ _ 197 21 [(0, .ref r0), (1, vI a1)] [] _ H _
    have u1035 := RO_k p1033
    refine wp_of e197 c197_21 (rw_aload_n (pc' := 22) (v := .ref r0) rfl rfl rfl ?_)
    refine wp_of e197 c197_22 (xc_V (pc' := 25) (r := r0) (as := []) (st := []) (lm_9_118) rfl rfl (Nat.le_of_ble_eq_true rfl) hW g0 sh_42 (by decide) rfl (by decide) (u_172_o (fo := fo) (po := po) hW g0 p1033) (fun R1036 T1037 H1038 p1039 => ?_))
    obtain ⟨e1040, e1042, e1041, p1043⟩ := p1039
    subst e1040
    subst e1041
    subst e1042
    show wp _ _ 197 25 [(0, .ref r0), (1, vI a1)] [] _ H _
    have u1045 := RO_k p1043
    exact wp_return e197 c197_25 rfl ⟨rfl, rfl, rfl, (p1043)⟩
  · exfalso
    omega
/-! StrikeAwakeModel.whole(II)I k -/
abbrev uq_185_k (r0 : Nat) (a1 : Int) (a2 : Int) (B : Nat → Int) (n : Int) (q : Int) (lo : Int) (hi : Int) (T : wq_T) (H : wq_H) : Option Value → wq_T → wq_H → Prop := fun r T' H' => T = T' ∧ WT T H' ∧ wfr [(42, 9), (42, 13), (42, 14)] T H H' ∧ ∃ z : Int, some (vI z) = r ∧ (0 ≤ z ∧ z ≤ 100) ∧ (((xh B n q lo hi = 0) ∧ (z = xV B n q) ∧ (lo ≤ z ∧ z ≤ hi) ∧ (xK B n q = 2) ∧ RC T H' r0 B n q) ∨ ((z = 0) ∧ (xh B n q lo hi ≠ 0) ∧ RO T H' r0 (xh B n q lo hi) q))
set_option maxHeartbeats 4000000 in
theorem u_185_k {kt : Nat → Option mc_E} {T : wq_T} {H : wq_H} {r0 : Nat} {a1 : Int} {a2 : Int} {B : Nat → Int} {n : Int} {q : Int} {lo : Int} {hi : Int} (hW : WT T H) (g0 : T.2.2.2 r0 = some 42) (i1 : 0 ≤ a1 ∧ a1 ≤ 100) (i2 : 0 ≤ a2 ∧ a2 ≤ 100) (p0 : a1 = lo) (p1 : a2 = hi) (hRC_r0 : RC T H r0 B n q) : wpc kt 2 185 [.ref r0, vI a1, vI a2] T H (uq_185_k r0 a1 a2 B n q lo hi T H) := by
  refine wp_enter e185 (Nat.le_of_ble_eq_true rfl) rfl ?_
  have f0 : wfr [(42, 9), (42, 13), (42, 14)] T H H := wfr.rf
  show wp _ _ 185 0 [(0, .ref r0), (1, vI a1), (2, vI a2)] [] _ H _
  have u1055 := RC_k hRC_r0
  have _s := RC_s hRC_r0
  have _h := @xh_b B n q lo hi
  refine wp_of e185 c185_0 (rw_aload_n (pc' := 1) (v := .ref r0) rfl rfl rfl ?_)
  refine wp_of e185 c185_1 (xg_I (pc' := 4) lf_9_75 hW g0 sh_42 (by decide) (by decide) ty_42_9 rfl rfl (fun b1056 b1057 => ?_))
  refine wp_of e185 c185_4 (rw_iconst (pc' := 5) rfl ?_)
  refine wp_of e185 c185_5 (rw_icmp_eq (p1 := 16) (p2 := 8) (by decide) rfl ⟨Int.le_trans (by decide) b1056, Int.le_trans b1057 (by decide)⟩ ⟨by decide, by decide⟩ (fun c1058 => ?_) (fun c1058 => ?_))
  · refine wp_of e185 c185_16 (rw_aload_n (pc' := 17) (v := .ref r0) rfl rfl rfl ?_)
    refine wp_of e185 c185_17 (xg_I (pc' := 20) lf_9_101 hW g0 sh_42 (by decide) (by decide) ty_42_12 rfl rfl (fun b1059 b1060 => ?_))
    refine wp_of e185 c185_20 (rw_iload_n (pc' := 21) (z := a1) rfl rfl ?_)
    refine wp_of e185 c185_21 (rw_iload_n (pc' := 22) (z := a2) rfl rfl ?_)
    refine wp_of e185 c185_22 (xc_S (pc' := 25) (as := [vI (H r0 12), vI a1, vI a2]) (st := []) (lm_9_125) rfl rfl (Nat.le_of_ble_eq_true rfl) rfl (by decide) (u_186  hW ⟨b1059, b1060⟩ ⟨Int.le_trans (by decide) i1.1, Int.le_trans i1.2 (by decide)⟩ ⟨Int.le_trans (by decide) i2.1, Int.le_trans i2.2 (by decide)⟩) (fun R1061 T1062 H1063 p1064 => ?_))
    obtain ⟨e1065, e1067, z1068, e1066, b1069, p1070⟩ := p1064
    subst e1065
    subst e1066
    subst e1067
    rcases p1070 with ⟨a1071, a1072⟩ | ⟨a1073, a1074⟩
    · show wp _ _ 185 25 [(0, .ref r0), (1, vI a1), (2, vI a2)] [vI z1068] _ H _
      refine wp_of e185 c185_25 (rw_if_ne (p1 := 33) (p2 := 28) (by decide) rfl ⟨Int.le_trans (by decide) b1069.1, Int.le_trans b1069.2 (by decide)⟩ (fun c1075 => ?_) (fun c1075 => ?_))
      · refine wp_of e185 c185_33 (rw_aload_n (pc' := 34) (v := .ref r0) rfl rfl rfl ?_)
        refine wp_of e185 c185_34 (xg_I (pc' := 37) lf_9_75 hW g0 sh_42 (by decide) (by decide) ty_42_9 rfl rfl (fun b1076 b1077 => ?_))
        refine wp_of e185 c185_37 (rw_iconst (pc' := 38) rfl ?_)
        refine wp_of e185 c185_38 (rw_icmp_ne (p1 := 45) (p2 := 41) (by decide) rfl ⟨Int.le_trans (by decide) b1076, Int.le_trans b1077 (by decide)⟩ ⟨by decide, by decide⟩ (fun c1078 => ?_) (fun c1078 => ?_))
        · refine wp_of e185 c185_45 (rw_aload_n (pc' := 46) (v := .ref r0) rfl rfl rfl ?_)
          refine wp_of e185 c185_46 (xg_I (pc' := 49) lf_9_101 hW g0 sh_42 (by decide) (by decide) ty_42_12 rfl rfl (fun b1079 b1080 => ?_))
          exact wp_ireturn e185 c185_49 rfl ⟨rfl, hW, f0, H r0 12, rfl, ⟨by omega, by omega⟩, (Or.inl ⟨by omega, by omega, by omega, by omega, hRC_r0⟩)⟩
        · exfalso
          omega
      · exfalso
        omega
    · show wp _ _ 185 25 [(0, .ref r0), (1, vI a1), (2, vI a2)] [vI z1068] _ H _
      refine wp_of e185 c185_25 (rw_if_ne (p1 := 33) (p2 := 28) (by decide) rfl ⟨Int.le_trans (by decide) b1069.1, Int.le_trans b1069.2 (by decide)⟩ (fun c1081 => ?_) (fun c1081 => ?_))
      · exfalso
        omega
      · refine wp_of e185 c185_28 (rw_aload_n (pc' := 29) (v := .ref r0) rfl rfl rfl ?_)
        refine wp_of e185 c185_29 (rw_iconst (pc' := 30) rfl ?_)
        refine wp_of e185 c185_30 (xc_V (pc' := 33) (r := r0) (as := [vI 4]) (st := []) (lm_9_121) rfl rfl (Nat.le_of_ble_eq_true rfl) hW g0 sh_42 (by decide) rfl (by decide) (u_181_k (B := B) (n := n) (q := q) hW g0 ⟨by decide, by decide⟩ (by omega) hRC_r0) (fun R1082 T1083 H1084 p1085 => ?_))
        obtain ⟨e1086, w1088, f1089, e1087, p1090⟩ := p1085
        subst e1086
        subst e1087
        have f1092 := f0.tr f1089 rfl
        show wp _ _ 185 33 [(0, .ref r0), (1, vI a1), (2, vI a2)] [] _ H1084 _
        have u1093 := RO_k p1090
        refine wp_of e185 c185_33 (rw_aload_n (pc' := 34) (v := .ref r0) rfl rfl rfl ?_)
        refine wp_of e185 c185_34 (xg_I (pc' := 37) lf_9_75 w1088 g0 sh_42 (by decide) (by decide) ty_42_9 rfl rfl (fun b1094 b1095 => ?_))
        refine wp_of e185 c185_37 (rw_iconst (pc' := 38) rfl ?_)
        refine wp_of e185 c185_38 (rw_icmp_ne (p1 := 45) (p2 := 41) (by decide) rfl ⟨Int.le_trans (by decide) b1094, Int.le_trans b1095 (by decide)⟩ ⟨by decide, by decide⟩ (fun c1096 => ?_) (fun c1096 => ?_))
        · exfalso
          omega
        · refine wp_of e185 c185_41 (rw_iconst (pc' := 42) rfl ?_)
          refine wp_of e185 c185_42 (rw_goto (p1 := 49) (by decide) ?_)
          exact wp_ireturn e185 c185_49 rfl ⟨rfl, w1088, f1092, 0, rfl, ⟨by decide, by decide⟩, (Or.inr ⟨by omega, by omega, RO_eq p1090 (by omega) (by omega)⟩)⟩
  · refine wp_of e185 c185_8 (rw_aload_n (pc' := 9) (v := .ref r0) rfl rfl rfl ?_)
    refine wp_of e185 c185_9 (rw_iconst (pc' := 10) rfl ?_)
    refine wp_of e185 c185_10 (xc_V (pc' := 13) (r := r0) (as := [vI 1]) (st := []) (lm_9_121) rfl rfl (Nat.le_of_ble_eq_true rfl) hW g0 sh_42 (by decide) rfl (by decide) (u_181_k (B := B) (n := n) (q := q) hW g0 ⟨by decide, by decide⟩ (by omega) hRC_r0) (fun R1097 T1098 H1099 p1100 => ?_))
    obtain ⟨e1101, w1103, f1104, e1102, p1105⟩ := p1100
    subst e1101
    subst e1102
    have f1107 := f0.tr f1104 rfl
    show wp _ _ 185 13 [(0, .ref r0), (1, vI a1), (2, vI a2)] [] _ H1099 _
    have u1108 := RO_k p1105
    refine wp_of e185 c185_13 (rw_goto (p1 := 33) (by decide) ?_)
    refine wp_of e185 c185_33 (rw_aload_n (pc' := 34) (v := .ref r0) rfl rfl rfl ?_)
    refine wp_of e185 c185_34 (xg_I (pc' := 37) lf_9_75 w1103 g0 sh_42 (by decide) (by decide) ty_42_9 rfl rfl (fun b1109 b1110 => ?_))
    refine wp_of e185 c185_37 (rw_iconst (pc' := 38) rfl ?_)
    refine wp_of e185 c185_38 (rw_icmp_ne (p1 := 45) (p2 := 41) (by decide) rfl ⟨Int.le_trans (by decide) b1109, Int.le_trans b1110 (by decide)⟩ ⟨by decide, by decide⟩ (fun c1111 => ?_) (fun c1111 => ?_))
    · exfalso
      omega
    · refine wp_of e185 c185_41 (rw_iconst (pc' := 42) rfl ?_)
      refine wp_of e185 c185_42 (rw_goto (p1 := 49) (by decide) ?_)
      exact wp_ireturn e185 c185_49 rfl ⟨rfl, w1103, f1107, 0, rfl, ⟨by decide, by decide⟩, (Or.inr ⟨by omega, by omega, RO_eq p1105 (by omega) (by omega)⟩)⟩
/-! StrikeAwakeModel.whole(II)I o -/
abbrev uq_185_o (r0 : Nat) (a1 : Int) (a2 : Int) (fo : Int) (po : Int) (T : wq_T) (H : wq_H) : Option Value → wq_T → wq_H → Prop := fun r T' H' => T = T' ∧ H = H' ∧ ∃ z : Int, some (vI z) = r ∧ (0 ≤ z ∧ z ≤ 100) ∧ (((z = 0) ∧ RO T H r0 fo po))
set_option maxHeartbeats 4000000 in
theorem u_185_o {kt : Nat → Option mc_E} {T : wq_T} {H : wq_H} {r0 : Nat} {a1 : Int} {a2 : Int} {fo : Int} {po : Int} (hW : WT T H) (g0 : T.2.2.2 r0 = some 42) (i1 : 0 ≤ a1 ∧ a1 ≤ 100) (i2 : 0 ≤ a2 ∧ a2 ≤ 100) (hRO_r0 : RO T H r0 fo po) : wpc kt 2 185 [.ref r0, vI a1, vI a2] T H (uq_185_o r0 a1 a2 fo po T H) := by
  refine wp_enter e185 (Nat.le_of_ble_eq_true rfl) rfl ?_
  show wp _ _ 185 0 [(0, .ref r0), (1, vI a1), (2, vI a2)] [] _ H _
  have u1016 := RO_k hRO_r0
  refine wp_of e185 c185_0 (rw_aload_n (pc' := 1) (v := .ref r0) rfl rfl rfl ?_)
  refine wp_of e185 c185_1 (xg_I (pc' := 4) lf_9_75 hW g0 sh_42 (by decide) (by decide) ty_42_9 rfl rfl (fun b1017 b1018 => ?_))
  refine wp_of e185 c185_4 (rw_iconst (pc' := 5) rfl ?_)
  refine wp_of e185 c185_5 (rw_icmp_eq (p1 := 16) (p2 := 8) (by decide) rfl ⟨Int.le_trans (by decide) b1017, Int.le_trans b1018 (by decide)⟩ ⟨by decide, by decide⟩ (fun c1019 => ?_) (fun c1019 => ?_))
  · exfalso
    omega
  · refine wp_of e185 c185_8 (rw_aload_n (pc' := 9) (v := .ref r0) rfl rfl rfl ?_)
    refine wp_of e185 c185_9 (rw_iconst (pc' := 10) rfl ?_)
    refine wp_of e185 c185_10 (xc_V (pc' := 13) (r := r0) (as := [vI 1]) (st := []) (lm_9_121) rfl rfl (Nat.le_of_ble_eq_true rfl) hW g0 sh_42 (by decide) rfl (by decide) (u_181_o (fo := fo) (po := po) hW g0 ⟨by decide, by decide⟩ hRO_r0) (fun R1020 T1021 H1022 p1023 => ?_))
    obtain ⟨e1024, e1026, e1025, p1027⟩ := p1023
    subst e1024
    subst e1025
    subst e1026
    show wp _ _ 185 13 [(0, .ref r0), (1, vI a1), (2, vI a2)] [] _ H _
    have u1029 := RO_k p1027
    refine wp_of e185 c185_13 (rw_goto (p1 := 33) (by decide) ?_)
    refine wp_of e185 c185_33 (rw_aload_n (pc' := 34) (v := .ref r0) rfl rfl rfl ?_)
    refine wp_of e185 c185_34 (xg_I (pc' := 37) lf_9_75 hW g0 sh_42 (by decide) (by decide) ty_42_9 rfl rfl (fun b1030 b1031 => ?_))
    refine wp_of e185 c185_37 (rw_iconst (pc' := 38) rfl ?_)
    refine wp_of e185 c185_38 (rw_icmp_ne (p1 := 45) (p2 := 41) (by decide) rfl ⟨Int.le_trans (by decide) b1030, Int.le_trans b1031 (by decide)⟩ ⟨by decide, by decide⟩ (fun c1032 => ?_) (fun c1032 => ?_))
    · exfalso
      omega
    · refine wp_of e185 c185_41 (rw_iconst (pc' := 42) rfl ?_)
      refine wp_of e185 c185_42 (rw_goto (p1 := 49) (by decide) ?_)
      exact wp_ireturn e185 c185_49 rfl ⟨rfl, rfl, 0, rfl, ⟨by decide, by decide⟩, ⟨by omega, p1027⟩⟩
/-! StrikeAwakeModel.readWhole(II)I k -/
abbrev uq_184_k (r0 : Nat) (a1 : Int) (a2 : Int) (rb : Nat) (B : Nat → Int) (n : Int) (q : Int) (lo : Int) (hi : Int) (T : wq_T) (H : wq_H) : Option Value → wq_T → wq_H → Prop := fun r T' H' => T = T' ∧ WT T H' ∧ wfr [(42, 8), (42, 9), (42, 10), (42, 11), (42, 12), (42, 13), (42, 14), (42, 15)] T H H' ∧ ∃ z : Int, some (vI z) = r ∧ (0 ≤ z ∧ z ≤ 100) ∧ (((xh B n q lo hi = 0) ∧ (z = xV B n q) ∧ (lo ≤ z ∧ z ≤ hi) ∧ RC T H' r0 B n (xN B n q)) ∨ ((z = 0) ∧ (xh B n q lo hi ≠ 0) ∧ RO T H' r0 (xh B n q lo hi) q))
set_option maxHeartbeats 4000000 in
theorem u_184_k {kt : Nat → Option mc_E} {T : wq_T} {H : wq_H} {r0 : Nat} {a1 : Int} {a2 : Int} {rb : Nat} {B : Nat → Int} {n : Int} {q : Int} {lo : Int} {hi : Int} (hW : WT T H) (g0 : T.2.2.2 r0 = some 42) (i1 : 0 ≤ a1 ∧ a1 ≤ 100) (i2 : 0 ≤ a2 ∧ a2 ≤ 100) (qrb : H r0 5 = (rb : Int)) (grb : T.2.2.2 rb = some 43) (p0 : a1 = lo) (p1 : a2 = hi) (hRC_r0 : RC T H r0 B n q) : wpc kt 3 184 [.ref r0, vI a1, vI a2] T H (uq_184_k r0 a1 a2 rb B n q lo hi T H) := by
  refine wp_enter e184 (Nat.le_of_ble_eq_true rfl) rfl ?_
  have f0 : wfr [(42, 8), (42, 9), (42, 10), (42, 11), (42, 12), (42, 13), (42, 14), (42, 15)] T H H := wfr.rf
  show wp _ _ 184 0 [(0, .ref r0), (1, vI a1), (2, vI a2)] [] _ H _
  have u1044 := RC_k hRC_r0
  refine wp_of e184 c184_0 (rw_aload_n (pc' := 1) (v := .ref r0) rfl rfl rfl ?_)
  refine wp_of e184 c184_1 (rw_iload_n (pc' := 2) (z := a1) rfl rfl ?_)
  refine wp_of e184 c184_2 (rw_iload_n (pc' := 3) (z := a2) rfl rfl ?_)
  refine wp_of e184 c184_3 (xc_V (pc' := 6) (r := r0) (as := [vI a1, vI a2]) (st := []) (lm_9_129) rfl rfl (Nat.le_of_ble_eq_true rfl) hW g0 sh_42 (by decide) rfl (by decide) (u_185_k (B := B) (n := n) (q := q) (lo := lo) (hi := hi) hW g0 ⟨i1.1, i1.2⟩ ⟨i2.1, i2.2⟩ (by omega) (by omega) hRC_r0) (fun R1045 T1046 H1047 p1048 => ?_))
  obtain ⟨e1049, w1051, f1052, z1053, e1050, b1054, p1055⟩ := p1048
  subst e1049
  subst e1050
  rcases p1055 with ⟨a1056, a1057, a1058, a1059, a1060⟩ | ⟨a1061, a1062, a1063⟩
  · have f1064 := f0.tr f1052 rfl
    show wp _ _ 184 6 [(0, .ref r0), (1, vI a1), (2, vI a2)] [vI z1053] _ H1047 _
    have u1065 := RC_k a1060
    refine wp_of e184 c184_6 (rw_istore_n (pc' := 7) (z := z1053) (L' := [(3, vI z1053), (0, .ref r0), (1, vI a1), (2, vI a2)]) rfl rfl rfl ?_)
    refine wp_of e184 c184_7 (rw_aload_n (pc' := 8) (v := .ref r0) rfl rfl rfl ?_)
    have k1066 : H1047 r0 5 = H r0 5 := (f1052 r0 5 _ g0 rfl)
    have q1067 : H1047 r0 5 = (rb : Int) := k1066.trans qrb
    have u1068 := RC_a a1060
    have h1069 : TM T H1047 rb B := RC_tm a1060 q1067
    refine wp_of e184 c184_8 (xc_V (pc' := 11) (r := r0) (as := []) (st := []) (lm_9_118) rfl rfl (Nat.le_of_ble_eq_true rfl) w1051 g0 sh_42 (by decide) rfl (by decide) (u_172_k (B := B) (n := n) (a := (xE B n q)) (q := (xN B n q)) w1051 g0 q1067 grb (by omega) (by omega) (by omega) (by omega) (by omega) (rfl) h1069) (fun R1070 T1071 H1072 p1073 => ?_))
    obtain ⟨e1074, w1076, f1077, e1075, p1078⟩ := p1073
    subst e1074
    subst e1075
    have f1080 := f1064.tr f1077 rfl
    show wp _ _ 184 11 [(3, vI z1053), (0, .ref r0), (1, vI a1), (2, vI a2)] [] _ H1072 _
    have u1081 := RC_k p1078
    refine wp_of e184 c184_11 (rw_iload_n (pc' := 12) (z := z1053) rfl rfl ?_)
    exact wp_ireturn e184 c184_12 rfl ⟨rfl, w1076, f1080, z1053, rfl, ⟨b1054.1, b1054.2⟩, (Or.inl ⟨by omega, by omega, by omega, p1078⟩)⟩
  · have f1082 := f0.tr f1052 rfl
    show wp _ _ 184 6 [(0, .ref r0), (1, vI a1), (2, vI a2)] [vI z1053] _ H1047 _
    have u1083 := RO_k a1063
    refine wp_of e184 c184_6 (rw_istore_n (pc' := 7) (z := z1053) (L' := [(3, vI z1053), (0, .ref r0), (1, vI a1), (2, vI a2)]) rfl rfl rfl ?_)
    refine wp_of e184 c184_7 (rw_aload_n (pc' := 8) (v := .ref r0) rfl rfl rfl ?_)
    refine wp_of e184 c184_8 (xc_V (pc' := 11) (r := r0) (as := []) (st := []) (lm_9_118) rfl rfl (Nat.le_of_ble_eq_true rfl) w1051 g0 sh_42 (by decide) rfl (by decide) (u_172_o (fo := (xh B n q lo hi)) (po := q) w1051 g0 a1063) (fun R1084 T1085 H1086 p1087 => ?_))
    obtain ⟨e1088, e1090, e1089, p1091⟩ := p1087
    subst e1088
    subst e1089
    subst e1090
    show wp _ _ 184 11 [(3, vI z1053), (0, .ref r0), (1, vI a1), (2, vI a2)] [] _ H1047 _
    have u1093 := RO_k p1091
    refine wp_of e184 c184_11 (rw_iload_n (pc' := 12) (z := z1053) rfl rfl ?_)
    exact wp_ireturn e184 c184_12 rfl ⟨rfl, w1051, f1082, z1053, rfl, ⟨b1054.1, b1054.2⟩, (Or.inr ⟨by omega, by omega, RO_eq p1091 (by omega) (by omega)⟩)⟩
/-! StrikeAwakeModel.readWhole(II)I o -/
abbrev uq_184_o (r0 : Nat) (a1 : Int) (a2 : Int) (rb : Nat) (fo : Int) (po : Int) (T : wq_T) (H : wq_H) : Option Value → wq_T → wq_H → Prop := fun r T' H' => T = T' ∧ H = H' ∧ ∃ z : Int, some (vI z) = r ∧ (0 ≤ z ∧ z ≤ 100) ∧ (((z = 0) ∧ RO T H r0 fo po))
set_option maxHeartbeats 4000000 in
theorem u_184_o {kt : Nat → Option mc_E} {T : wq_T} {H : wq_H} {r0 : Nat} {a1 : Int} {a2 : Int} {rb : Nat} {fo : Int} {po : Int} (hW : WT T H) (g0 : T.2.2.2 r0 = some 42) (i1 : 0 ≤ a1 ∧ a1 ≤ 100) (i2 : 0 ≤ a2 ∧ a2 ≤ 100) (qrb : H r0 5 = (rb : Int)) (grb : T.2.2.2 rb = some 43) (hRO_r0 : RO T H r0 fo po) : wpc kt 3 184 [.ref r0, vI a1, vI a2] T H (uq_184_o r0 a1 a2 rb fo po T H) := by
  refine wp_enter e184 (Nat.le_of_ble_eq_true rfl) rfl ?_
  show wp _ _ 184 0 [(0, .ref r0), (1, vI a1), (2, vI a2)] [] _ H _
  have u1022 := RO_k hRO_r0
  refine wp_of e184 c184_0 (rw_aload_n (pc' := 1) (v := .ref r0) rfl rfl rfl ?_)
  refine wp_of e184 c184_1 (rw_iload_n (pc' := 2) (z := a1) rfl rfl ?_)
  refine wp_of e184 c184_2 (rw_iload_n (pc' := 3) (z := a2) rfl rfl ?_)
  refine wp_of e184 c184_3 (xc_V (pc' := 6) (r := r0) (as := [vI a1, vI a2]) (st := []) (lm_9_129) rfl rfl (Nat.le_of_ble_eq_true rfl) hW g0 sh_42 (by decide) rfl (by decide) (u_185_o (fo := fo) (po := po) hW g0 ⟨i1.1, i1.2⟩ ⟨i2.1, i2.2⟩ hRO_r0) (fun R1023 T1024 H1025 p1026 => ?_))
  obtain ⟨e1027, e1029, z1030, e1028, b1031, p1032⟩ := p1026
  subst e1027
  subst e1028
  subst e1029
  obtain ⟨a1033, a1034⟩ := p1032
  show wp _ _ 184 6 [(0, .ref r0), (1, vI a1), (2, vI a2)] [vI z1030] _ H _
  have u1035 := RO_k a1034
  refine wp_of e184 c184_6 (rw_istore_n (pc' := 7) (z := z1030) (L' := [(3, vI z1030), (0, .ref r0), (1, vI a1), (2, vI a2)]) rfl rfl rfl ?_)
  refine wp_of e184 c184_7 (rw_aload_n (pc' := 8) (v := .ref r0) rfl rfl rfl ?_)
  refine wp_of e184 c184_8 (xc_V (pc' := 11) (r := r0) (as := []) (st := []) (lm_9_118) rfl rfl (Nat.le_of_ble_eq_true rfl) hW g0 sh_42 (by decide) rfl (by decide) (u_172_o (fo := fo) (po := po) hW g0 a1034) (fun R1036 T1037 H1038 p1039 => ?_))
  obtain ⟨e1040, e1042, e1041, p1043⟩ := p1039
  subst e1040
  subst e1041
  subst e1042
  show wp _ _ 184 11 [(3, vI z1030), (0, .ref r0), (1, vI a1), (2, vI a2)] [] _ H _
  have u1045 := RO_k p1043
  refine wp_of e184 c184_11 (rw_iload_n (pc' := 12) (z := z1030) rfl rfl ?_)
  exact wp_ireturn e184 c184_12 rfl ⟨rfl, rfl, z1030, rfl, ⟨b1031.1, b1031.2⟩, ⟨by omega, p1043⟩⟩
/-! StrikeAwakeModel.readPart(Ljava/lang/String;II)I k -/
abbrev uq_182_k (r0 : Nat) (s1 : Nat) (a2 : Int) (a3 : Int) (rb : Nat) (B : Nat → Int) (n : Int) (q : Int) (kk : Int) (lo : Int) (hi : Int) (T : wq_T) (H : wq_H) : Option Value → wq_T → wq_H → Prop := fun r T' H' => T = T' ∧ WT T H' ∧ wfr [(42, 8), (42, 9), (42, 10), (42, 11), (42, 12), (42, 13), (42, 14), (42, 15)] T H H' ∧ ∃ z : Int, some (vI z) = r ∧ (0 ≤ z ∧ z ≤ 100) ∧ (((xw B n q kk = 0) ∧ (xh B n (xN B n q) lo hi = 0) ∧ (q ≤ (xN B n (xN B n q))) ∧ (z = xV B n (xN B n q)) ∧ (lo ≤ z ∧ z ≤ hi) ∧ RC T H' r0 B n (xN B n (xN B n q))) ∨ ((z = 0) ∧ (xw B n q kk ≠ 0) ∧ RO T H' r0 (xw B n q kk) q) ∨ ((z = 0) ∧ (xw B n q kk = 0) ∧ (xh B n (xN B n q) lo hi ≠ 0) ∧ RO T H' r0 (xh B n (xN B n q) lo hi) (xN B n q)))
set_option maxHeartbeats 4000000 in
theorem u_182_k {kt : Nat → Option mc_E} {T : wq_T} {H : wq_H} {r0 : Nat} {s1 : Nat} {t1 : List Int32} {a2 : Int} {a3 : Int} {rb : Nat} {B : Nat → Int} {n : Int} {q : Int} {kk : Int} {lo : Int} {hi : Int} (hW : WT T H) (g0 : T.2.2.2 r0 = some 42) (h1 : mc_find mc_sb s1 = some t1) (i2 : 0 ≤ a2 ∧ a2 ≤ 100) (i3 : 0 ≤ a3 ∧ a3 ≤ 100) (qrb : H r0 5 = (rb : Int)) (grb : T.2.2.2 rb = some 43) (p0 : wkw t1 t1.length = kk) (p1 : a2 = lo) (p2 : a3 = hi) (hRC_r0 : RC T H r0 B n q) : wpc kt 4 182 [.ref r0, .ref s1, vI a2, vI a3] T H (uq_182_k r0 s1 a2 a3 rb B n q kk lo hi T H) := by
  refine wp_enter e182 (Nat.le_of_ble_eq_true rfl) rfl ?_
  have f0 : wfr [(42, 8), (42, 9), (42, 10), (42, 11), (42, 12), (42, 13), (42, 14), (42, 15)] T H H := wfr.rf
  show wp _ _ 182 0 [(0, .ref r0), (1, .ref s1), (2, vI a2), (3, vI a3)] [] _ H _
  have u1052 := RC_k hRC_r0
  refine wp_of e182 c182_0 (rw_aload_n (pc' := 1) (v := .ref r0) rfl rfl rfl ?_)
  refine wp_of e182 c182_1 (rw_aload_n (pc' := 2) (v := .ref s1) rfl rfl rfl ?_)
  refine wp_of e182 c182_2 (xc_V (pc' := 5) (r := r0) (as := [.ref s1]) (st := []) (lm_9_133) rfl rfl (Nat.le_of_ble_eq_true rfl) hW g0 sh_42 (by decide) rfl (by decide) (u_183_k (B := B) (n := n) (q := q) (kk := kk) hW g0 h1 qrb grb (by assumption) hRC_r0) (fun R1053 T1054 H1055 p1056 => ?_))
  obtain ⟨e1057, w1059, f1060, e1058, p1061⟩ := p1056
  subst e1057
  subst e1058
  rcases p1061 with ⟨a1062, a1063⟩ | ⟨a1064, a1065⟩
  · have f1066 := f0.tr f1060 rfl
    show wp _ _ 182 5 [(0, .ref r0), (1, .ref s1), (2, vI a2), (3, vI a3)] [] _ H1055 _
    have u1067 := RC_k a1063
    refine wp_of e182 c182_5 (rw_aload_n (pc' := 6) (v := .ref r0) rfl rfl rfl ?_)
    refine wp_of e182 c182_6 (rw_iload_n (pc' := 7) (z := a2) rfl rfl ?_)
    refine wp_of e182 c182_7 (rw_iload_n (pc' := 8) (z := a3) rfl rfl ?_)
    have k1068 : H1055 r0 5 = H r0 5 := (f1060 r0 5 _ g0 rfl)
    have q1069 : H1055 r0 5 = (rb : Int) := k1068.trans qrb
    refine wp_of e182 c182_8 (xc_V (pc' := 11) (r := r0) (as := [vI a2, vI a3]) (st := []) (lm_9_137) rfl rfl (Nat.le_of_ble_eq_true rfl) w1059 g0 sh_42 (by decide) rfl (by decide) (u_184_k (B := B) (n := n) (q := ((xN B n q))) (lo := lo) (hi := hi) w1059 g0 ⟨i2.1, i2.2⟩ ⟨i3.1, i3.2⟩ q1069 grb (by omega) (by omega) a1063) (fun R1070 T1071 H1072 p1073 => ?_))
    obtain ⟨e1074, w1076, f1077, z1078, e1075, b1079, p1080⟩ := p1073
    subst e1074
    subst e1075
    rcases p1080 with ⟨a1081, a1082, a1083, a1084⟩ | ⟨a1085, a1086, a1087⟩
    · have f1088 := f1066.tr f1077 rfl
      show wp _ _ 182 11 [(0, .ref r0), (1, .ref s1), (2, vI a2), (3, vI a3)] [vI z1078] _ H1072 _
      have u1089 := RC_k a1084
      exact wp_ireturn e182 c182_11 rfl ⟨rfl, w1076, f1088, z1078, rfl, ⟨b1079.1, b1079.2⟩, (Or.inl ⟨by omega, by omega, by omega, by omega, by omega, a1084⟩)⟩
    · have f1090 := f1066.tr f1077 rfl
      show wp _ _ 182 11 [(0, .ref r0), (1, .ref s1), (2, vI a2), (3, vI a3)] [vI z1078] _ H1072 _
      have u1091 := RO_k a1087
      exact wp_ireturn e182 c182_11 rfl ⟨rfl, w1076, f1090, z1078, rfl, ⟨b1079.1, b1079.2⟩, (Or.inr (Or.inr ⟨by omega, by omega, by omega, RO_eq a1087 (by omega) (by omega)⟩))⟩
  · have f1092 := f0.tr f1060 rfl
    show wp _ _ 182 5 [(0, .ref r0), (1, .ref s1), (2, vI a2), (3, vI a3)] [] _ H1055 _
    have u1093 := RO_k a1065
    refine wp_of e182 c182_5 (rw_aload_n (pc' := 6) (v := .ref r0) rfl rfl rfl ?_)
    refine wp_of e182 c182_6 (rw_iload_n (pc' := 7) (z := a2) rfl rfl ?_)
    refine wp_of e182 c182_7 (rw_iload_n (pc' := 8) (z := a3) rfl rfl ?_)
    have k1094 : H1055 r0 5 = H r0 5 := (f1060 r0 5 _ g0 rfl)
    have q1095 : H1055 r0 5 = (rb : Int) := k1094.trans qrb
    refine wp_of e182 c182_8 (xc_V (pc' := 11) (r := r0) (as := [vI a2, vI a3]) (st := []) (lm_9_137) rfl rfl (Nat.le_of_ble_eq_true rfl) w1059 g0 sh_42 (by decide) rfl (by decide) (u_184_o (fo := (xw B n q kk)) (po := q) w1059 g0 ⟨i2.1, i2.2⟩ ⟨i3.1, i3.2⟩ q1095 grb a1065) (fun R1096 T1097 H1098 p1099 => ?_))
    obtain ⟨e1100, e1102, z1103, e1101, b1104, p1105⟩ := p1099
    subst e1100
    subst e1101
    subst e1102
    obtain ⟨a1106, a1107⟩ := p1105
    show wp _ _ 182 11 [(0, .ref r0), (1, .ref s1), (2, vI a2), (3, vI a3)] [vI z1103] _ H1055 _
    have u1108 := RO_k a1107
    exact wp_ireturn e182 c182_11 rfl ⟨rfl, w1059, f1092, z1103, rfl, ⟨b1104.1, b1104.2⟩, (Or.inr (Or.inl ⟨by omega, by omega, RO_eq a1107 (by omega) (by omega)⟩))⟩
/-! StrikeAwakeModel.readPart(Ljava/lang/String;II)I o -/
abbrev uq_182_o (r0 : Nat) (s1 : Nat) (a2 : Int) (a3 : Int) (rb : Nat) (fo : Int) (po : Int) (kk : Int) (T : wq_T) (H : wq_H) : Option Value → wq_T → wq_H → Prop := fun r T' H' => T = T' ∧ H = H' ∧ ∃ z : Int, some (vI z) = r ∧ (0 ≤ z ∧ z ≤ 100) ∧ (((z = 0) ∧ RO T H r0 fo po))
set_option maxHeartbeats 4000000 in
theorem u_182_o {kt : Nat → Option mc_E} {T : wq_T} {H : wq_H} {r0 : Nat} {s1 : Nat} {t1 : List Int32} {a2 : Int} {a3 : Int} {rb : Nat} {fo : Int} {po : Int} {kk : Int} (hW : WT T H) (g0 : T.2.2.2 r0 = some 42) (h1 : mc_find mc_sb s1 = some t1) (i2 : 0 ≤ a2 ∧ a2 ≤ 100) (i3 : 0 ≤ a3 ∧ a3 ≤ 100) (qrb : H r0 5 = (rb : Int)) (grb : T.2.2.2 rb = some 43) (p0 : wkw t1 t1.length = kk) (hRO_r0 : RO T H r0 fo po) : wpc kt 4 182 [.ref r0, .ref s1, vI a2, vI a3] T H (uq_182_o r0 s1 a2 a3 rb fo po kk T H) := by
  refine wp_enter e182 (Nat.le_of_ble_eq_true rfl) rfl ?_
  show wp _ _ 182 0 [(0, .ref r0), (1, .ref s1), (2, vI a2), (3, vI a3)] [] _ H _
  have u1022 := RO_k hRO_r0
  refine wp_of e182 c182_0 (rw_aload_n (pc' := 1) (v := .ref r0) rfl rfl rfl ?_)
  refine wp_of e182 c182_1 (rw_aload_n (pc' := 2) (v := .ref s1) rfl rfl rfl ?_)
  refine wp_of e182 c182_2 (xc_V (pc' := 5) (r := r0) (as := [.ref s1]) (st := []) (lm_9_133) rfl rfl (Nat.le_of_ble_eq_true rfl) hW g0 sh_42 (by decide) rfl (by decide) (u_183_o (fo := fo) (po := po) (kk := kk) hW g0 h1 qrb grb (by assumption) hRO_r0) (fun R1023 T1024 H1025 p1026 => ?_))
  obtain ⟨e1027, e1029, e1028, p1030⟩ := p1026
  subst e1027
  subst e1028
  subst e1029
  show wp _ _ 182 5 [(0, .ref r0), (1, .ref s1), (2, vI a2), (3, vI a3)] [] _ H _
  have u1032 := RO_k p1030
  refine wp_of e182 c182_5 (rw_aload_n (pc' := 6) (v := .ref r0) rfl rfl rfl ?_)
  refine wp_of e182 c182_6 (rw_iload_n (pc' := 7) (z := a2) rfl rfl ?_)
  refine wp_of e182 c182_7 (rw_iload_n (pc' := 8) (z := a3) rfl rfl ?_)
  refine wp_of e182 c182_8 (xc_V (pc' := 11) (r := r0) (as := [vI a2, vI a3]) (st := []) (lm_9_137) rfl rfl (Nat.le_of_ble_eq_true rfl) hW g0 sh_42 (by decide) rfl (by decide) (u_184_o (fo := fo) (po := po) hW g0 ⟨i2.1, i2.2⟩ ⟨i3.1, i3.2⟩ qrb grb p1030) (fun R1033 T1034 H1035 p1036 => ?_))
  obtain ⟨e1037, e1039, z1040, e1038, b1041, p1042⟩ := p1036
  subst e1037
  subst e1038
  subst e1039
  obtain ⟨a1043, a1044⟩ := p1042
  show wp _ _ 182 11 [(0, .ref r0), (1, .ref s1), (2, vI a2), (3, vI a3)] [vI z1040] _ H _
  have u1045 := RO_k a1044
  exact wp_ireturn e182 c182_11 rfl ⟨rfl, rfl, z1040, rfl, ⟨b1041.1, b1041.2⟩, ⟨by omega, a1044⟩⟩
/-! StrikeAwakeModel.isName()Z k -/
abbrev uq_189_k (r0 : Nat) (B : Nat → Int) (n : Int) (q : Int) (T : wq_T) (H : wq_H) : Option Value → wq_T → wq_H → Prop := fun r T' H' => T = T' ∧ H = H' ∧ ∃ z : Int, some (vI z) = r ∧ (0 ≤ z ∧ z ≤ 1) ∧ (((z = 1) ∧ (xre B n q = 11) ∧ (xK B n q = 1) ∧ (H r0 15 = xY B n q)) ∨ ((z = 0) ∧ (xre B n q ≠ 11)))
set_option maxHeartbeats 4000000 in
theorem u_189_k {kt : Nat → Option mc_E} {T : wq_T} {H : wq_H} {r0 : Nat} {B : Nat → Int} {n : Int} {q : Int} (hW : WT T H) (g0 : T.2.2.2 r0 = some 42) (hRC_r0 : RC T H r0 B n q) : wpc kt 3 189 [.ref r0] T H (uq_189_k r0 B n q T H) := by
  refine wp_enter e189 (Nat.le_of_ble_eq_true rfl) rfl ?_
  show wp _ _ 189 0 [(0, .ref r0)] [] _ H _
  have u1191 := RC_k hRC_r0
  have _s := RC_s hRC_r0
  have _x := @xre_b B n q
  refine wp_of e189 c189_0 (rw_aload_n (pc' := 1) (v := .ref r0) rfl rfl rfl ?_)
  refine wp_of e189 c189_1 (xg_I (pc' := 4) lf_9_75 hW g0 sh_42 (by decide) (by decide) ty_42_9 rfl rfl (fun b1192 b1193 => ?_))
  refine wp_of e189 c189_4 (rw_iconst (pc' := 5) rfl ?_)
  refine wp_of e189 c189_5 (rw_icmp_ne (p1 := 62) (p2 := 8) (by decide) rfl ⟨Int.le_trans (by decide) b1192, Int.le_trans b1193 (by decide)⟩ ⟨by decide, by decide⟩ (fun c1194 => ?_) (fun c1194 => ?_))
  · refine wp_of e189 c189_62 (rw_iconst (pc' := 63) rfl ?_)
    exact wp_zreturn e189 c189_63 rfl (by omega) ⟨rfl, rfl, 0, rfl, ⟨by decide, by decide⟩, (Or.inr ⟨by omega, by omega⟩)⟩
  · refine wp_of e189 c189_8 (rw_aload_n (pc' := 9) (v := .ref r0) rfl rfl rfl ?_)
    refine wp_of e189 c189_9 (rw_ldcS (pc' := 11) (k := 72) rfl rfl rfl rfl ?_)
    refine wp_of e189 c189_11 (xc_V (pc' := 14) (r := r0) (as := [.ref 72]) (st := []) (lm_9_114) rfl rfl (Nat.le_of_ble_eq_true rfl) hW g0 sh_42 (by decide) rfl (by decide) (u_178_k (B := B) (n := n) (q := q) (kk := 12343) hW g0 rfl (by decide +kernel) hRC_r0) (fun R1195 T1196 H1197 p1198 => ?_))
    obtain ⟨e1199, e1201, z1202, e1200, b1203, p1204⟩ := p1198
    subst e1199
    subst e1200
    subst e1201
    rcases p1204 with ⟨a1205, a1206, a1207⟩ | ⟨a1208, a1209⟩
    · show wp _ _ 189 14 [(0, .ref r0)] [vI z1202] _ H _
      have y1210 := xre_y (B := B) (n := n) (q := q) 0 12343 rfl (by decide) (by omega)
      refine wp_of e189 c189_14 (rw_if_ne (p1 := 62) (p2 := 17) (by decide) rfl ⟨Int.le_trans (by decide) b1203.1, Int.le_trans b1203.2 (by decide)⟩ (fun c1211 => ?_) (fun c1211 => ?_))
      · refine wp_of e189 c189_62 (rw_iconst (pc' := 63) rfl ?_)
        exact wp_zreturn e189 c189_63 rfl (by omega) ⟨rfl, rfl, 0, rfl, ⟨by decide, by decide⟩, (Or.inr ⟨by omega, by omega⟩)⟩
      · exfalso
        omega
    · show wp _ _ 189 14 [(0, .ref r0)] [vI z1202] _ H _
      have y1212 := xre_n (B := B) (n := n) (q := q) 0 12343 rfl (by decide) (by omega)
      refine wp_of e189 c189_14 (rw_if_ne (p1 := 62) (p2 := 17) (by decide) rfl ⟨Int.le_trans (by decide) b1203.1, Int.le_trans b1203.2 (by decide)⟩ (fun c1213 => ?_) (fun c1213 => ?_))
      · exfalso
        omega
      · refine wp_of e189 c189_17 (rw_aload_n (pc' := 18) (v := .ref r0) rfl rfl rfl ?_)
        refine wp_of e189 c189_18 (rw_ldcS (pc' := 20) (k := 76) rfl rfl rfl rfl ?_)
        refine wp_of e189 c189_20 (xc_V (pc' := 23) (r := r0) (as := [.ref 76]) (st := []) (lm_9_114) rfl rfl (Nat.le_of_ble_eq_true rfl) hW g0 sh_42 (by decide) rfl (by decide) (u_178_k (B := B) (n := n) (q := q) (kk := 542723566) hW g0 rfl (by decide +kernel) hRC_r0) (fun R1214 T1215 H1216 p1217 => ?_))
        obtain ⟨e1218, e1220, z1221, e1219, b1222, p1223⟩ := p1217
        subst e1218
        subst e1219
        subst e1220
        rcases p1223 with ⟨a1224, a1225, a1226⟩ | ⟨a1227, a1228⟩
        · show wp _ _ 189 23 [(0, .ref r0)] [vI z1221] _ H _
          have y1229 := xre_y (B := B) (n := n) (q := q) 1 542723566 rfl (by decide) (by omega)
          refine wp_of e189 c189_23 (rw_if_ne (p1 := 62) (p2 := 26) (by decide) rfl ⟨Int.le_trans (by decide) b1222.1, Int.le_trans b1222.2 (by decide)⟩ (fun c1230 => ?_) (fun c1230 => ?_))
          · refine wp_of e189 c189_62 (rw_iconst (pc' := 63) rfl ?_)
            exact wp_zreturn e189 c189_63 rfl (by omega) ⟨rfl, rfl, 0, rfl, ⟨by decide, by decide⟩, (Or.inr ⟨by omega, by omega⟩)⟩
          · exfalso
            omega
        · show wp _ _ 189 23 [(0, .ref r0)] [vI z1221] _ H _
          have y1231 := xre_n (B := B) (n := n) (q := q) 1 542723566 rfl (by decide) (by omega)
          refine wp_of e189 c189_23 (rw_if_ne (p1 := 62) (p2 := 26) (by decide) rfl ⟨Int.le_trans (by decide) b1222.1, Int.le_trans b1222.2 (by decide)⟩ (fun c1232 => ?_) (fun c1232 => ?_))
          · exfalso
            omega
          · refine wp_of e189 c189_26 (rw_aload_n (pc' := 27) (v := .ref r0) rfl rfl rfl ?_)
            refine wp_of e189 c189_27 (rw_ldcS (pc' := 29) (k := 77) rfl rfl rfl rfl ?_)
            refine wp_of e189 c189_29 (xc_V (pc' := 32) (r := r0) (as := [.ref 77]) (st := []) (lm_9_114) rfl rfl (Nat.le_of_ble_eq_true rfl) hW g0 sh_42 (by decide) rfl (by decide) (u_178_k (B := B) (n := n) (q := q) (kk := 643584494) hW g0 rfl (by decide +kernel) hRC_r0) (fun R1233 T1234 H1235 p1236 => ?_))
            obtain ⟨e1237, e1239, z1240, e1238, b1241, p1242⟩ := p1236
            subst e1237
            subst e1238
            subst e1239
            rcases p1242 with ⟨a1243, a1244, a1245⟩ | ⟨a1246, a1247⟩
            · show wp _ _ 189 32 [(0, .ref r0)] [vI z1240] _ H _
              have y1248 := xre_y (B := B) (n := n) (q := q) 2 643584494 rfl (by decide) (by omega)
              refine wp_of e189 c189_32 (rw_if_ne (p1 := 62) (p2 := 35) (by decide) rfl ⟨Int.le_trans (by decide) b1241.1, Int.le_trans b1241.2 (by decide)⟩ (fun c1249 => ?_) (fun c1249 => ?_))
              · refine wp_of e189 c189_62 (rw_iconst (pc' := 63) rfl ?_)
                exact wp_zreturn e189 c189_63 rfl (by omega) ⟨rfl, rfl, 0, rfl, ⟨by decide, by decide⟩, (Or.inr ⟨by omega, by omega⟩)⟩
              · exfalso
                omega
            · show wp _ _ 189 32 [(0, .ref r0)] [vI z1240] _ H _
              have y1250 := xre_n (B := B) (n := n) (q := q) 2 643584494 rfl (by decide) (by omega)
              refine wp_of e189 c189_32 (rw_if_ne (p1 := 62) (p2 := 35) (by decide) rfl ⟨Int.le_trans (by decide) b1241.1, Int.le_trans b1241.2 (by decide)⟩ (fun c1251 => ?_) (fun c1251 => ?_))
              · exfalso
                omega
              · refine wp_of e189 c189_35 (rw_aload_n (pc' := 36) (v := .ref r0) rfl rfl rfl ?_)
                refine wp_of e189 c189_36 (rw_ldcS (pc' := 38) (k := 78) rfl rfl rfl rfl ?_)
                refine wp_of e189 c189_38 (xc_V (pc' := 41) (r := r0) (as := [.ref 78]) (st := []) (lm_9_114) rfl rfl (Nat.le_of_ble_eq_true rfl) hW g0 sh_42 (by decide) rfl (by decide) (u_178_k (B := B) (n := n) (q := q) (kk := 1574484) hW g0 rfl (by decide +kernel) hRC_r0) (fun R1252 T1253 H1254 p1255 => ?_))
                obtain ⟨e1256, e1258, z1259, e1257, b1260, p1261⟩ := p1255
                subst e1256
                subst e1257
                subst e1258
                rcases p1261 with ⟨a1262, a1263, a1264⟩ | ⟨a1265, a1266⟩
                · show wp _ _ 189 41 [(0, .ref r0)] [vI z1259] _ H _
                  have y1267 := xre_y (B := B) (n := n) (q := q) 3 1574484 rfl (by decide) (by omega)
                  refine wp_of e189 c189_41 (rw_if_ne (p1 := 62) (p2 := 44) (by decide) rfl ⟨Int.le_trans (by decide) b1260.1, Int.le_trans b1260.2 (by decide)⟩ (fun c1268 => ?_) (fun c1268 => ?_))
                  · refine wp_of e189 c189_62 (rw_iconst (pc' := 63) rfl ?_)
                    exact wp_zreturn e189 c189_63 rfl (by omega) ⟨rfl, rfl, 0, rfl, ⟨by decide, by decide⟩, (Or.inr ⟨by omega, by omega⟩)⟩
                  · exfalso
                    omega
                · show wp _ _ 189 41 [(0, .ref r0)] [vI z1259] _ H _
                  have y1269 := xre_n (B := B) (n := n) (q := q) 3 1574484 rfl (by decide) (by omega)
                  refine wp_of e189 c189_41 (rw_if_ne (p1 := 62) (p2 := 44) (by decide) rfl ⟨Int.le_trans (by decide) b1260.1, Int.le_trans b1260.2 (by decide)⟩ (fun c1270 => ?_) (fun c1270 => ?_))
                  · exfalso
                    omega
                  · refine wp_of e189 c189_44 (rw_aload_n (pc' := 45) (v := .ref r0) rfl rfl rfl ?_)
                    refine wp_of e189 c189_45 (rw_ldcS (pc' := 47) (k := 79) rfl rfl rfl rfl ?_)
                    refine wp_of e189 c189_47 (xc_V (pc' := 50) (r := r0) (as := [.ref 79]) (st := []) (lm_9_114) rfl rfl (Nat.le_of_ble_eq_true rfl) hW g0 sh_42 (by decide) rfl (by decide) (u_178_k (B := B) (n := n) (q := q) (kk := 81486) hW g0 rfl (by decide +kernel) hRC_r0) (fun R1271 T1272 H1273 p1274 => ?_))
                    obtain ⟨e1275, e1277, z1278, e1276, b1279, p1280⟩ := p1274
                    subst e1275
                    subst e1276
                    subst e1277
                    rcases p1280 with ⟨a1281, a1282, a1283⟩ | ⟨a1284, a1285⟩
                    · show wp _ _ 189 50 [(0, .ref r0)] [vI z1278] _ H _
                      have y1286 := xre_y (B := B) (n := n) (q := q) 4 81486 rfl (by decide) (by omega)
                      refine wp_of e189 c189_50 (rw_if_ne (p1 := 62) (p2 := 53) (by decide) rfl ⟨Int.le_trans (by decide) b1279.1, Int.le_trans b1279.2 (by decide)⟩ (fun c1287 => ?_) (fun c1287 => ?_))
                      · refine wp_of e189 c189_62 (rw_iconst (pc' := 63) rfl ?_)
                        exact wp_zreturn e189 c189_63 rfl (by omega) ⟨rfl, rfl, 0, rfl, ⟨by decide, by decide⟩, (Or.inr ⟨by omega, by omega⟩)⟩
                      · exfalso
                        omega
                    · show wp _ _ 189 50 [(0, .ref r0)] [vI z1278] _ H _
                      have y1288 := xre_n (B := B) (n := n) (q := q) 4 81486 rfl (by decide) (by omega)
                      refine wp_of e189 c189_50 (rw_if_ne (p1 := 62) (p2 := 53) (by decide) rfl ⟨Int.le_trans (by decide) b1279.1, Int.le_trans b1279.2 (by decide)⟩ (fun c1289 => ?_) (fun c1289 => ?_))
                      · exfalso
                        omega
                      · refine wp_of e189 c189_53 (rw_aload_n (pc' := 54) (v := .ref r0) rfl rfl rfl ?_)
                        refine wp_of e189 c189_54 (rw_ldcS (pc' := 56) (k := 80) rfl rfl rfl rfl ?_)
                        refine wp_of e189 c189_56 (xc_V (pc' := 59) (r := r0) (as := [.ref 80]) (st := []) (lm_9_114) rfl rfl (Nat.le_of_ble_eq_true rfl) hW g0 sh_42 (by decide) rfl (by decide) (u_178_k (B := B) (n := n) (q := q) (kk := 659117163) hW g0 rfl (by decide +kernel) hRC_r0) (fun R1290 T1291 H1292 p1293 => ?_))
                        obtain ⟨e1294, e1296, z1297, e1295, b1298, p1299⟩ := p1293
                        subst e1294
                        subst e1295
                        subst e1296
                        rcases p1299 with ⟨a1300, a1301, a1302⟩ | ⟨a1303, a1304⟩
                        · show wp _ _ 189 59 [(0, .ref r0)] [vI z1297] _ H _
                          have y1305 := xre_y (B := B) (n := n) (q := q) 5 659117163 rfl (by decide) (by omega)
                          refine wp_of e189 c189_59 (rw_if_eq (p1 := 64) (p2 := 62) (by decide) rfl ⟨Int.le_trans (by decide) b1298.1, Int.le_trans b1298.2 (by decide)⟩ (fun c1306 => ?_) (fun c1306 => ?_))
                          · exfalso
                            omega
                          · refine wp_of e189 c189_62 (rw_iconst (pc' := 63) rfl ?_)
                            exact wp_zreturn e189 c189_63 rfl (by omega) ⟨rfl, rfl, 0, rfl, ⟨by decide, by decide⟩, (Or.inr ⟨by omega, by omega⟩)⟩
                        · show wp _ _ 189 59 [(0, .ref r0)] [vI z1297] _ H _
                          have y1307 := xre_n (B := B) (n := n) (q := q) 5 659117163 rfl (by decide) (by omega)
                          refine wp_of e189 c189_59 (rw_if_eq (p1 := 64) (p2 := 62) (by decide) rfl ⟨Int.le_trans (by decide) b1298.1, Int.le_trans b1298.2 (by decide)⟩ (fun c1308 => ?_) (fun c1308 => ?_))
                          · refine wp_of e189 c189_64 (rw_aload_n (pc' := 65) (v := .ref r0) rfl rfl rfl ?_)
                            refine wp_of e189 c189_65 (rw_ldcS (pc' := 67) (k := 81) rfl rfl rfl rfl ?_)
                            refine wp_of e189 c189_67 (xc_V (pc' := 70) (r := r0) (as := [.ref 81]) (st := []) (lm_9_114) rfl rfl (Nat.le_of_ble_eq_true rfl) hW g0 sh_42 (by decide) rfl (by decide) (u_178_k (B := B) (n := n) (q := q) (kk := 671108) hW g0 rfl (by decide +kernel) hRC_r0) (fun R1309 T1310 H1311 p1312 => ?_))
                            obtain ⟨e1313, e1315, z1316, e1314, b1317, p1318⟩ := p1312
                            subst e1313
                            subst e1314
                            subst e1315
                            rcases p1318 with ⟨a1319, a1320, a1321⟩ | ⟨a1322, a1323⟩
                            · show wp _ _ 189 70 [(0, .ref r0)] [vI z1316] _ H _
                              have y1324 := xre_y (B := B) (n := n) (q := q) 6 671108 rfl (by decide) (by omega)
                              refine wp_of e189 c189_70 (rw_if_ne (p1 := 113) (p2 := 73) (by decide) rfl ⟨Int.le_trans (by decide) b1317.1, Int.le_trans b1317.2 (by decide)⟩ (fun c1325 => ?_) (fun c1325 => ?_))
                              · refine wp_of e189 c189_113 (rw_iconst (pc' := 114) rfl ?_)
                                exact wp_zreturn e189 c189_114 rfl (by omega) ⟨rfl, rfl, 0, rfl, ⟨by decide, by decide⟩, (Or.inr ⟨by omega, by omega⟩)⟩
                              · exfalso
                                omega
                            · show wp _ _ 189 70 [(0, .ref r0)] [vI z1316] _ H _
                              have y1326 := xre_n (B := B) (n := n) (q := q) 6 671108 rfl (by decide) (by omega)
                              refine wp_of e189 c189_70 (rw_if_ne (p1 := 113) (p2 := 73) (by decide) rfl ⟨Int.le_trans (by decide) b1317.1, Int.le_trans b1317.2 (by decide)⟩ (fun c1327 => ?_) (fun c1327 => ?_))
                              · exfalso
                                omega
                              · refine wp_of e189 c189_73 (rw_aload_n (pc' := 74) (v := .ref r0) rfl rfl rfl ?_)
                                refine wp_of e189 c189_74 (rw_ldcS (pc' := 76) (k := 82) rfl rfl rfl rfl ?_)
                                refine wp_of e189 c189_76 (xc_V (pc' := 79) (r := r0) (as := [.ref 82]) (st := []) (lm_9_114) rfl rfl (Nat.le_of_ble_eq_true rfl) hW g0 sh_42 (by decide) rfl (by decide) (u_178_k (B := B) (n := n) (q := q) (kk := 15931570) hW g0 rfl (by decide +kernel) hRC_r0) (fun R1328 T1329 H1330 p1331 => ?_))
                                obtain ⟨e1332, e1334, z1335, e1333, b1336, p1337⟩ := p1331
                                subst e1332
                                subst e1333
                                subst e1334
                                rcases p1337 with ⟨a1338, a1339, a1340⟩ | ⟨a1341, a1342⟩
                                · show wp _ _ 189 79 [(0, .ref r0)] [vI z1335] _ H _
                                  have y1343 := xre_y (B := B) (n := n) (q := q) 7 15931570 rfl (by decide) (by omega)
                                  refine wp_of e189 c189_79 (rw_if_ne (p1 := 113) (p2 := 82) (by decide) rfl ⟨Int.le_trans (by decide) b1336.1, Int.le_trans b1336.2 (by decide)⟩ (fun c1344 => ?_) (fun c1344 => ?_))
                                  · refine wp_of e189 c189_113 (rw_iconst (pc' := 114) rfl ?_)
                                    exact wp_zreturn e189 c189_114 rfl (by omega) ⟨rfl, rfl, 0, rfl, ⟨by decide, by decide⟩, (Or.inr ⟨by omega, by omega⟩)⟩
                                  · exfalso
                                    omega
                                · show wp _ _ 189 79 [(0, .ref r0)] [vI z1335] _ H _
                                  have y1345 := xre_n (B := B) (n := n) (q := q) 7 15931570 rfl (by decide) (by omega)
                                  refine wp_of e189 c189_79 (rw_if_ne (p1 := 113) (p2 := 82) (by decide) rfl ⟨Int.le_trans (by decide) b1336.1, Int.le_trans b1336.2 (by decide)⟩ (fun c1346 => ?_) (fun c1346 => ?_))
                                  · exfalso
                                    omega
                                  · refine wp_of e189 c189_82 (rw_aload_n (pc' := 83) (v := .ref r0) rfl rfl rfl ?_)
                                    refine wp_of e189 c189_83 (rw_ldcS (pc' := 85) (k := 83) rfl rfl rfl rfl ?_)
                                    refine wp_of e189 c189_85 (xc_V (pc' := 88) (r := r0) (as := [.ref 83]) (st := []) (lm_9_114) rfl rfl (Nat.le_of_ble_eq_true rfl) hW g0 sh_42 (by decide) rfl (by decide) (u_178_k (B := B) (n := n) (q := q) (kk := 8423732) hW g0 rfl (by decide +kernel) hRC_r0) (fun R1347 T1348 H1349 p1350 => ?_))
                                    obtain ⟨e1351, e1353, z1354, e1352, b1355, p1356⟩ := p1350
                                    subst e1351
                                    subst e1352
                                    subst e1353
                                    rcases p1356 with ⟨a1357, a1358, a1359⟩ | ⟨a1360, a1361⟩
                                    · show wp _ _ 189 88 [(0, .ref r0)] [vI z1354] _ H _
                                      have y1362 := xre_y (B := B) (n := n) (q := q) 8 8423732 rfl (by decide) (by omega)
                                      refine wp_of e189 c189_88 (rw_if_ne (p1 := 113) (p2 := 91) (by decide) rfl ⟨Int.le_trans (by decide) b1355.1, Int.le_trans b1355.2 (by decide)⟩ (fun c1363 => ?_) (fun c1363 => ?_))
                                      · refine wp_of e189 c189_113 (rw_iconst (pc' := 114) rfl ?_)
                                        exact wp_zreturn e189 c189_114 rfl (by omega) ⟨rfl, rfl, 0, rfl, ⟨by decide, by decide⟩, (Or.inr ⟨by omega, by omega⟩)⟩
                                      · exfalso
                                        omega
                                    · show wp _ _ 189 88 [(0, .ref r0)] [vI z1354] _ H _
                                      have y1364 := xre_n (B := B) (n := n) (q := q) 8 8423732 rfl (by decide) (by omega)
                                      refine wp_of e189 c189_88 (rw_if_ne (p1 := 113) (p2 := 91) (by decide) rfl ⟨Int.le_trans (by decide) b1355.1, Int.le_trans b1355.2 (by decide)⟩ (fun c1365 => ?_) (fun c1365 => ?_))
                                      · exfalso
                                        omega
                                      · refine wp_of e189 c189_91 (rw_aload_n (pc' := 92) (v := .ref r0) rfl rfl rfl ?_)
                                        refine wp_of e189 c189_92 (rw_ldcS (pc' := 94) (k := 84) rfl rfl rfl rfl ?_)
                                        refine wp_of e189 c189_94 (xc_V (pc' := 97) (r := r0) (as := [.ref 84]) (st := []) (lm_9_114) rfl rfl (Nat.le_of_ble_eq_true rfl) hW g0 sh_42 (by decide) rfl (by decide) (u_178_k (B := B) (n := n) (q := q) (kk := 14384) hW g0 rfl (by decide +kernel) hRC_r0) (fun R1366 T1367 H1368 p1369 => ?_))
                                        obtain ⟨e1370, e1372, z1373, e1371, b1374, p1375⟩ := p1369
                                        subst e1370
                                        subst e1371
                                        subst e1372
                                        rcases p1375 with ⟨a1376, a1377, a1378⟩ | ⟨a1379, a1380⟩
                                        · show wp _ _ 189 97 [(0, .ref r0)] [vI z1373] _ H _
                                          have y1381 := xre_y (B := B) (n := n) (q := q) 9 14384 rfl (by decide) (by omega)
                                          refine wp_of e189 c189_97 (rw_if_ne (p1 := 113) (p2 := 100) (by decide) rfl ⟨Int.le_trans (by decide) b1374.1, Int.le_trans b1374.2 (by decide)⟩ (fun c1382 => ?_) (fun c1382 => ?_))
                                          · refine wp_of e189 c189_113 (rw_iconst (pc' := 114) rfl ?_)
                                            exact wp_zreturn e189 c189_114 rfl (by omega) ⟨rfl, rfl, 0, rfl, ⟨by decide, by decide⟩, (Or.inr ⟨by omega, by omega⟩)⟩
                                          · exfalso
                                            omega
                                        · show wp _ _ 189 97 [(0, .ref r0)] [vI z1373] _ H _
                                          have y1383 := xre_n (B := B) (n := n) (q := q) 9 14384 rfl (by decide) (by omega)
                                          refine wp_of e189 c189_97 (rw_if_ne (p1 := 113) (p2 := 100) (by decide) rfl ⟨Int.le_trans (by decide) b1374.1, Int.le_trans b1374.2 (by decide)⟩ (fun c1384 => ?_) (fun c1384 => ?_))
                                          · exfalso
                                            omega
                                          · refine wp_of e189 c189_100 (rw_aload_n (pc' := 101) (v := .ref r0) rfl rfl rfl ?_)
                                            refine wp_of e189 c189_101 (rw_ldcS (pc' := 103) (k := 85) rfl rfl rfl rfl ?_)
                                            refine wp_of e189 c189_103 (xc_V (pc' := 106) (r := r0) (as := [.ref 85]) (st := []) (lm_9_114) rfl rfl (Nat.le_of_ble_eq_true rfl) hW g0 sh_42 (by decide) rfl (by decide) (u_178_k (B := B) (n := n) (q := q) (kk := 56377) hW g0 rfl (by decide +kernel) hRC_r0) (fun R1385 T1386 H1387 p1388 => ?_))
                                            obtain ⟨e1389, e1391, z1392, e1390, b1393, p1394⟩ := p1388
                                            subst e1389
                                            subst e1390
                                            subst e1391
                                            rcases p1394 with ⟨a1395, a1396, a1397⟩ | ⟨a1398, a1399⟩
                                            · show wp _ _ 189 106 [(0, .ref r0)] [vI z1392] _ H _
                                              have y1400 := xre_y (B := B) (n := n) (q := q) 10 56377 rfl (by decide) (by omega)
                                              refine wp_of e189 c189_106 (rw_if_ne (p1 := 113) (p2 := 109) (by decide) rfl ⟨Int.le_trans (by decide) b1393.1, Int.le_trans b1393.2 (by decide)⟩ (fun c1401 => ?_) (fun c1401 => ?_))
                                              · refine wp_of e189 c189_113 (rw_iconst (pc' := 114) rfl ?_)
                                                exact wp_zreturn e189 c189_114 rfl (by omega) ⟨rfl, rfl, 0, rfl, ⟨by decide, by decide⟩, (Or.inr ⟨by omega, by omega⟩)⟩
                                              · exfalso
                                                omega
                                            · show wp _ _ 189 106 [(0, .ref r0)] [vI z1392] _ H _
                                              have y1402 := xre_n (B := B) (n := n) (q := q) 10 56377 rfl (by decide) (by omega)
                                              refine wp_of e189 c189_106 (rw_if_ne (p1 := 113) (p2 := 109) (by decide) rfl ⟨Int.le_trans (by decide) b1393.1, Int.le_trans b1393.2 (by decide)⟩ (fun c1403 => ?_) (fun c1403 => ?_))
                                              · exfalso
                                                omega
                                              · refine wp_of e189 c189_109 (rw_iconst (pc' := 110) rfl ?_)
                                                refine wp_of e189 c189_110 (rw_goto (p1 := 114) (by decide) ?_)
                                                exact wp_zreturn e189 c189_114 rfl (by omega) ⟨rfl, rfl, 1, rfl, ⟨by decide, by decide⟩, (Or.inl ⟨by omega, by omega, by omega, by omega⟩)⟩
                          · exfalso
                            omega
/-! StrikeAwakeModel.isName()Z o -/
abbrev uq_189_o (r0 : Nat) (fo : Int) (po : Int) (T : wq_T) (H : wq_H) : Option Value → wq_T → wq_H → Prop := fun r T' H' => T = T' ∧ H = H' ∧ ∃ z : Int, some (vI z) = r ∧ (0 ≤ z ∧ z ≤ 1) ∧ (((z = 0)))
set_option maxHeartbeats 4000000 in
theorem u_189_o {kt : Nat → Option mc_E} {T : wq_T} {H : wq_H} {r0 : Nat} {fo : Int} {po : Int} (hW : WT T H) (g0 : T.2.2.2 r0 = some 42) (hRO_r0 : RO T H r0 fo po) : wpc kt 3 189 [.ref r0] T H (uq_189_o r0 fo po T H) := by
  refine wp_enter e189 (Nat.le_of_ble_eq_true rfl) rfl ?_
  show wp _ _ 189 0 [(0, .ref r0)] [] _ H _
  have u1004 := RO_k hRO_r0
  refine wp_of e189 c189_0 (rw_aload_n (pc' := 1) (v := .ref r0) rfl rfl rfl ?_)
  refine wp_of e189 c189_1 (xg_I (pc' := 4) lf_9_75 hW g0 sh_42 (by decide) (by decide) ty_42_9 rfl rfl (fun b1005 b1006 => ?_))
  refine wp_of e189 c189_4 (rw_iconst (pc' := 5) rfl ?_)
  refine wp_of e189 c189_5 (rw_icmp_ne (p1 := 62) (p2 := 8) (by decide) rfl ⟨Int.le_trans (by decide) b1005, Int.le_trans b1006 (by decide)⟩ ⟨by decide, by decide⟩ (fun c1007 => ?_) (fun c1007 => ?_))
  · refine wp_of e189 c189_62 (rw_iconst (pc' := 63) rfl ?_)
    exact wp_zreturn e189 c189_63 rfl (by omega) ⟨rfl, rfl, 0, rfl, ⟨by decide, by decide⟩, (by omega)⟩
  · exfalso
    omega
/-! StrikeAwakeModel.begins(II)V k -/
abbrev uq_188_k (r0 : Nat) (a1 : Int) (a2 : Int) (rb : Nat) (B : Nat → Int) (n : Int) (q : Int) (T : wq_T) (H : wq_H) : Option Value → wq_T → wq_H → Prop := fun r T' H' => T = T' ∧ WT T H' ∧ wfr [(42, 8), (42, 9), (42, 10), (42, 11), (42, 12), (42, 13), (42, 14), (42, 15)] T H H' ∧ none = r ∧ (((a1 ≠ a2) ∧ RC T H' r0 B n (xN B n q)) ∨ ((a1 = a2) ∧ RO T H' r0 (5) q))
set_option maxHeartbeats 4000000 in
theorem u_188_k {kt : Nat → Option mc_E} {T : wq_T} {H : wq_H} {r0 : Nat} {a1 : Int} {a2 : Int} {rb : Nat} {B : Nat → Int} {n : Int} {q : Int} (hW : WT T H) (g0 : T.2.2.2 r0 = some 42) (i1 : (-2147483648) ≤ a1 ∧ a1 ≤ 2147483647) (i2 : (-2147483648) ≤ a2 ∧ a2 ≤ 2147483647) (qrb : H r0 5 = (rb : Int)) (grb : T.2.2.2 rb = some 43) (p0 : xK B n q = 1) (hRC_r0 : RC T H r0 B n q) : wpc kt 3 188 [.ref r0, vI a1, vI a2] T H (uq_188_k r0 a1 a2 rb B n q T H) := by
  refine wp_enter e188 (Nat.le_of_ble_eq_true rfl) rfl ?_
  have f0 : wfr [(42, 8), (42, 9), (42, 10), (42, 11), (42, 12), (42, 13), (42, 14), (42, 15)] T H H := wfr.rf
  show wp _ _ 188 0 [(0, .ref r0), (1, vI a1), (2, vI a2)] [] _ H _
  have u1033 := RC_k hRC_r0
  refine wp_of e188 c188_0 (rw_iload_n (pc' := 1) (z := a1) rfl rfl ?_)
  refine wp_of e188 c188_1 (rw_iload_n (pc' := 2) (z := a2) rfl rfl ?_)
  refine wp_of e188 c188_2 (rw_icmp_ne (p1 := 10) (p2 := 5) (by decide) rfl ⟨i1.1, i1.2⟩ ⟨i2.1, i2.2⟩ (fun c1034 => ?_) (fun c1034 => ?_))
  · refine wp_of e188 c188_10 (rw_aload_n (pc' := 11) (v := .ref r0) rfl rfl rfl ?_)
    have u1035 := RC_a hRC_r0
    have h1036 : TM T H rb B := RC_tm hRC_r0 qrb
    refine wp_of e188 c188_11 (xc_V (pc' := 14) (r := r0) (as := []) (st := []) (lm_9_118) rfl rfl (Nat.le_of_ble_eq_true rfl) hW g0 sh_42 (by decide) rfl (by decide) (u_172_k (B := B) (n := n) (a := (xE B n q)) (q := (xN B n q)) hW g0 qrb grb (by omega) (by omega) (by omega) (by omega) (by omega) (rfl) h1036) (fun R1037 T1038 H1039 p1040 => ?_))
    obtain ⟨e1041, w1043, f1044, e1042, p1045⟩ := p1040
    subst e1041
    subst e1042
    have f1047 := f0.tr f1044 rfl
    show wp _ _ 188 14 [(0, .ref r0), (1, vI a1), (2, vI a2)] [] _ H1039 _
    have u1048 := RC_k p1045
    exact wp_return e188 c188_14 rfl ⟨rfl, w1043, f1047, rfl, (Or.inl ⟨by omega, p1045⟩)⟩
  · refine wp_of e188 c188_5 (rw_aload_n (pc' := 6) (v := .ref r0) rfl rfl rfl ?_)
    refine wp_of e188 c188_6 (rw_iconst (pc' := 7) rfl ?_)
    refine wp_of e188 c188_7 (xc_V (pc' := 10) (r := r0) (as := [vI 5]) (st := []) (lm_9_121) rfl rfl (Nat.le_of_ble_eq_true rfl) hW g0 sh_42 (by decide) rfl (by decide) (u_181_k (B := B) (n := n) (q := q) hW g0 ⟨by decide, by decide⟩ (by omega) hRC_r0) (fun R1049 T1050 H1051 p1052 => ?_))
    obtain ⟨e1053, w1055, f1056, e1054, p1057⟩ := p1052
    subst e1053
    subst e1054
    have f1059 := f0.tr f1056 rfl
    show wp _ _ 188 10 [(0, .ref r0), (1, vI a1), (2, vI a2)] [] _ H1051 _
    have u1060 := RO_k p1057
    refine wp_of e188 c188_10 (rw_aload_n (pc' := 11) (v := .ref r0) rfl rfl rfl ?_)
    refine wp_of e188 c188_11 (xc_V (pc' := 14) (r := r0) (as := []) (st := []) (lm_9_118) rfl rfl (Nat.le_of_ble_eq_true rfl) w1055 g0 sh_42 (by decide) rfl (by decide) (u_172_o (fo := 5) (po := q) w1055 g0 p1057) (fun R1061 T1062 H1063 p1064 => ?_))
    obtain ⟨e1065, e1067, e1066, p1068⟩ := p1064
    subst e1065
    subst e1066
    subst e1067
    show wp _ _ 188 14 [(0, .ref r0), (1, vI a1), (2, vI a2)] [] _ H1051 _
    have u1070 := RO_k p1068
    exact wp_return e188 c188_14 rfl ⟨rfl, w1055, f1059, rfl, (Or.inr ⟨by omega, RO_eq p1068 (by omega) (by omega)⟩)⟩
/-! StrikeAwakeModel$Parish.find(J)I k -/
abbrev uq_190_k (r0 : Nat) (a1 : Int) (mm : Nat) (d : xD) (y : Int) (T : wq_T) (H : wq_H) : Option Value → wq_T → wq_H → Prop := fun r T' H' => T = T' ∧ H = H' ∧ ∃ z : Int, some (vI z) = r ∧ ((-1) ≤ z ∧ z ≤ 5) ∧ (((-1 ≤ z ∧ z ≤ 5) ∧ (z = xfi (d 1) (d 0 3) y)))
set_option maxHeartbeats 4000000 in
theorem u_190_k {kt : Nat → Option mc_E} {T : wq_T} {H : wq_H} {r0 : Nat} {a1 : Int} {mm : Nat} {d : xD} {y : Int} (hW : WT T H) (g0 : T.2.2.2 r0 = some 54) (i1 : (-9223372036854775808) ≤ a1 ∧ a1 ≤ 9223372036854775807) (p0 : a1 = y) (hDM_r0 : DM T H r0 mm d) : wpc kt 1 190 [.ref r0, vL a1] T H (uq_190_k r0 a1 mm d y T H) := by
  refine wp_enter e190 (Nat.le_of_ble_eq_true rfl) rfl ?_
  show wp _ _ 190 0 [(0, .ref r0), (1, vL a1)] [] _ H _
  have u1090 := DM_k hDM_r0
  have h1091 : MA9 T H r0 (d 1) := hDM_r0.2.2.2.1
  refine wp_of e190 c190_0 (rw_iconst (pc' := 1) rfl ?_)
  refine wp_of e190 c190_1 (rw_istore_n (pc' := 2) (z := 0) (L' := [(3, vI 0), (0, .ref r0), (1, vL a1)]) rfl rfl rfl ?_)
  have lp1169 : ∀ (n1170 : Nat) (v1172 : Int), (0 ≤ v1172 ∧ v1172 ≤ 6) → (xfr (d 1) (d 0 3) y v1172 = xfi (d 1) (d 0 3) y) → (6 - v1172).toNat = n1170 → wp kt 0 190 2 [(3, vI v1172), (0, .ref r0), (1, vL a1)] [] T H (uq_190_k r0 a1 mm d y T H) := by
    intro n1170
    induction n1170 using Nat.strongRecOn with
    | _ n1170 ih1171 =>
      intro v1172 b1175 x1176 m1177
      refine wp_of e190 c190_2 (rw_iload_n (pc' := 3) (z := v1172) rfl rfl ?_)
      refine wp_of e190 c190_3 (rw_aload_n (pc' := 4) (v := .ref r0) rfl rfl rfl ?_)
      refine wp_of e190 c190_4 (xg_I (pc' := 7) lf_10_72 hW g0 sh_54 (by decide) (by decide) ty_54_3 rfl rfl (fun b1178 b1179 => ?_))
      refine wp_of e190 c190_7 (rw_icmp_ge (p1 := 29) (p2 := 10) (by decide) rfl ⟨Int.le_trans (by decide) b1175.1, Int.le_trans b1175.2 (by decide)⟩ ⟨Int.le_trans (by decide) b1178, Int.le_trans b1179 (by decide)⟩ (fun c1180 => ?_) (fun c1180 => ?_))
      · have := @xfr_n (d 1) (d 0 3) y v1172 (by omega)
        refine wp_of e190 c190_29 (rw_iconst (pc' := 30) rfl ?_)
        exact wp_ireturn e190 c190_30 rfl ⟨rfl, rfl, -1, rfl, ⟨by decide, by decide⟩, ⟨by omega, by omega⟩⟩
      · refine wp_of e190 c190_10 (rw_aload_n (pc' := 11) (v := .ref r0) rfl rfl rfl ?_)
        refine wp_of e190 c190_11 (xg_R (pc' := 14) lf_10_15 hW g0 sh_54 (by decide) (by decide) ty_54_9 rfl rfl (fun r1181 q1182 g1183 => ?_))
        refine wp_of e190 c190_14 (rw_iload_n (pc' := 15) (z := v1172) rfl rfl ?_)
        refine wp_of e190 c190_15 (xa_L (pc' := 16) hW g1183 sh_55 (by decide) (ty_55 _) (b1175.1) (by omega) rfl (fun b1184 b1185 => ?_))
        have := MA_at h1091 q1182 (k := (v1172.toNat)) (by omega)
        refine wp_of e190 c190_16 (rw_lload_n (pc' := 17) (z := a1) rfl rfl ?_)
        refine wp_of e190 c190_17 (rw_lcmp (pc' := 18) rfl ⟨b1184, b1185⟩ ⟨i1.1, i1.2⟩ ?_)
        have b1186 := wq_cmp_b (H r1181 (v1172.toNat)) a1
        refine wp_of e190 c190_18 (rw_if_ne (p1 := 23) (p2 := 21) (by decide) rfl ⟨by omega, by omega⟩ (fun c1187 => ?_) (fun c1187 => ?_))
        · have := @xfr_s (d 1) (d 0 3) y v1172 (by omega) (by omega)
          refine wp_of e190 c190_23 (rw_iinc (pc' := 26) (z := v1172) (L' := [(3, vI (v1172 + 1)), (0, .ref r0), (1, vL a1)]) rfl rfl rfl rfl ?_)
          refine wp_of e190 c190_26 (rw_goto (p1 := 2) (by decide) ?_)
          exact wp_lc (ks := [3, 0, 1]) (wl_c rfl (wl_c rfl (wl_c rfl wl_n))) rfl (by decide) (ih1171 _ (by omega) (v1172 + 1) ⟨by omega, by omega⟩ (by omega) rfl)
        · have := @xfr_e (d 1) (d 0 3) y v1172 (by omega) (by omega)
          refine wp_of e190 c190_21 (rw_iload_n (pc' := 22) (z := v1172) rfl rfl ?_)
          exact wp_ireturn e190 c190_22 rfl ⟨rfl, rfl, v1172, rfl, ⟨Int.le_trans (by decide) b1175.1, by omega⟩, ⟨by omega, by omega⟩⟩
  have : xfr (d 1) (d 0 3) y 0 = xfi (d 1) (d 0 3) y := rfl
  exact wp_lc (ks := [3, 0, 1]) (wl_c rfl (wl_c rfl (wl_c rfl wl_n))) rfl (by decide) (lp1169 _ 0 ⟨by decide, by decide⟩ (by omega) rfl)
/-! StrikeAwakeModel$Parish.find(J)I o -/
abbrev uq_190_o (r0 : Nat) (a1 : Int) (T : wq_T) (H : wq_H) : Option Value → wq_T → wq_H → Prop := fun r T' H' => T = T' ∧ H = H' ∧ ∃ z : Int, some (vI z) = r ∧ ((-1) ≤ z ∧ z ≤ 5) ∧ (((-1 ≤ z ∧ z ≤ 5)))
set_option maxHeartbeats 4000000 in
theorem u_190_o {kt : Nat → Option mc_E} {T : wq_T} {H : wq_H} {r0 : Nat} {a1 : Int} (hW : WT T H) (g0 : T.2.2.2 r0 = some 54) (i1 : (-9223372036854775808) ≤ a1 ∧ a1 ≤ 9223372036854775807) : wpc kt 1 190 [.ref r0, vL a1] T H (uq_190_o r0 a1 T H) := by
  refine wp_enter e190 (Nat.le_of_ble_eq_true rfl) rfl ?_
  show wp _ _ 190 0 [(0, .ref r0), (1, vL a1)] [] _ H _
  refine wp_of e190 c190_0 (rw_iconst (pc' := 1) rfl ?_)
  refine wp_of e190 c190_1 (rw_istore_n (pc' := 2) (z := 0) (L' := [(3, vI 0), (0, .ref r0), (1, vL a1)]) rfl rfl rfl ?_)
  have lp1152 : ∀ (n1153 : Nat) (v1155 : Int), (0 ≤ v1155 ∧ v1155 ≤ 6) → (6 - v1155).toNat = n1153 → wp kt 0 190 2 [(3, vI v1155), (0, .ref r0), (1, vL a1)] [] T H (uq_190_o r0 a1 T H) := by
    intro n1153
    induction n1153 using Nat.strongRecOn with
    | _ n1153 ih1154 =>
      intro v1155 b1158 m1159
      refine wp_of e190 c190_2 (rw_iload_n (pc' := 3) (z := v1155) rfl rfl ?_)
      refine wp_of e190 c190_3 (rw_aload_n (pc' := 4) (v := .ref r0) rfl rfl rfl ?_)
      refine wp_of e190 c190_4 (xg_I (pc' := 7) lf_10_72 hW g0 sh_54 (by decide) (by decide) ty_54_3 rfl rfl (fun b1160 b1161 => ?_))
      refine wp_of e190 c190_7 (rw_icmp_ge (p1 := 29) (p2 := 10) (by decide) rfl ⟨Int.le_trans (by decide) b1158.1, Int.le_trans b1158.2 (by decide)⟩ ⟨Int.le_trans (by decide) b1160, Int.le_trans b1161 (by decide)⟩ (fun c1162 => ?_) (fun c1162 => ?_))
      · refine wp_of e190 c190_29 (rw_iconst (pc' := 30) rfl ?_)
        exact wp_ireturn e190 c190_30 rfl ⟨rfl, rfl, -1, rfl, ⟨by decide, by decide⟩, (by omega)⟩
      · refine wp_of e190 c190_10 (rw_aload_n (pc' := 11) (v := .ref r0) rfl rfl rfl ?_)
        refine wp_of e190 c190_11 (xg_R (pc' := 14) lf_10_15 hW g0 sh_54 (by decide) (by decide) ty_54_9 rfl rfl (fun r1163 q1164 g1165 => ?_))
        refine wp_of e190 c190_14 (rw_iload_n (pc' := 15) (z := v1155) rfl rfl ?_)
        refine wp_of e190 c190_15 (xa_L (pc' := 16) hW g1165 sh_55 (by decide) (ty_55 _) (b1158.1) (by omega) rfl (fun b1166 b1167 => ?_))
        refine wp_of e190 c190_16 (rw_lload_n (pc' := 17) (z := a1) rfl rfl ?_)
        refine wp_of e190 c190_17 (rw_lcmp (pc' := 18) rfl ⟨b1166, b1167⟩ ⟨i1.1, i1.2⟩ ?_)
        have b1168 := wq_cmp_b (H r1163 (v1155.toNat)) a1
        refine wp_of e190 c190_18 (rw_if_ne (p1 := 23) (p2 := 21) (by decide) rfl ⟨by omega, by omega⟩ (fun c1169 => ?_) (fun c1169 => ?_))
        · refine wp_of e190 c190_23 (rw_iinc (pc' := 26) (z := v1155) (L' := [(3, vI (v1155 + 1)), (0, .ref r0), (1, vL a1)]) rfl rfl rfl rfl ?_)
          refine wp_of e190 c190_26 (rw_goto (p1 := 2) (by decide) ?_)
          exact wp_lc (ks := [3, 0, 1]) (wl_c rfl (wl_c rfl (wl_c rfl wl_n))) rfl (by decide) (ih1154 _ (by omega) (v1155 + 1) ⟨by omega, by omega⟩ rfl)
        · refine wp_of e190 c190_21 (rw_iload_n (pc' := 22) (z := v1155) rfl rfl ?_)
          exact wp_ireturn e190 c190_22 rfl ⟨rfl, rfl, v1155, rfl, ⟨Int.le_trans (by decide) b1158.1, by omega⟩, (by omega)⟩
  exact wp_lc (ks := [3, 0, 1]) (wl_c rfl (wl_c rfl (wl_c rfl wl_n))) rfl (by decide) (lp1152 _ 0 ⟨by decide, by decide⟩ rfl)
/-! StrikeAwakeModel.known()I k -/
abbrev uq_195_k (r0 : Nat) (rp : Nat) (B : Nat → Int) (n : Int) (q : Int) (d : xD) (T : wq_T) (H : wq_H) : Option Value → wq_T → wq_H → Prop := fun r T' H' => T = T' ∧ WT T H' ∧ wfr [(42, 9), (42, 13), (42, 14)] T H H' ∧ ∃ z : Int, some (vI z) = r ∧ (0 ≤ z ∧ z ≤ 5) ∧ (((0 ≤ z ∧ z ≤ 5) ∧ (xkn B n q d = 0) ∧ (z = xwho B n q d) ∧ (z < d 0 3) ∧ (xK B n q = 1) ∧ RC T H' r0 B n q) ∨ ((z = 0) ∧ (xkn B n q d ≠ 0) ∧ RO T H' r0 (xkn B n q d) q))
set_option maxHeartbeats 4000000 in
theorem u_195_k {kt : Nat → Option mc_E} {T : wq_T} {H : wq_H} {r0 : Nat} {rp : Nat} {B : Nat → Int} {n : Int} {q : Int} {d : xD} (hW : WT T H) (g0 : T.2.2.2 r0 = some 42) (qrp : H r0 4 = (rp : Int)) (grp : T.2.2.2 rp = some 54) (hRC_r0 : RC T H r0 B n q) (hDM_rp : DM T H rp r0 d) : wpc kt 4 195 [.ref r0] T H (uq_195_k r0 rp B n q d T H) := by
  refine wp_enter e195 (Nat.le_of_ble_eq_true rfl) rfl ?_
  have f0 : wfr [(42, 9), (42, 13), (42, 14)] T H H := wfr.rf
  show wp _ _ 195 0 [(0, .ref r0)] [] _ H _
  have u1094 := RC_k hRC_r0
  have u1095 := DM_k hDM_rp
  have _s := RC_s hRC_r0
  have _x1 := @xkn_b d B n q
  have _x2 := @xwho_e d B n q
  refine wp_of e195 c195_0 (rw_aload_n (pc' := 1) (v := .ref r0) rfl rfl rfl ?_)
  refine wp_of e195 c195_1 (xc_V (pc' := 4) (r := r0) (as := []) (st := []) (lm_9_162) rfl rfl (Nat.le_of_ble_eq_true rfl) hW g0 sh_42 (by decide) rfl (by decide) (u_189_k (B := B) (n := n) (q := q) hW g0 hRC_r0) (fun R1096 T1097 H1098 p1099 => ?_))
  obtain ⟨e1100, e1102, z1103, e1101, b1104, p1105⟩ := p1099
  subst e1100
  subst e1101
  subst e1102
  rcases p1105 with ⟨a1106, a1107, a1108, a1109⟩ | ⟨a1110, a1111⟩
  · show wp _ _ 195 4 [(0, .ref r0)] [vI z1103] _ H _
    refine wp_of e195 c195_4 (rw_if_ne (p1 := 12) (p2 := 7) (by decide) rfl ⟨Int.le_trans (by decide) b1104.1, Int.le_trans b1104.2 (by decide)⟩ (fun c1112 => ?_) (fun c1112 => ?_))
    · refine wp_of e195 c195_12 (rw_aload_n (pc' := 13) (v := .ref r0) rfl rfl rfl ?_)
      refine wp_of e195 c195_13 (xg_K (pc' := 16) lf_9_166 hW g0 sh_42 (by decide) (by decide) rfl qrp rfl ?_)
      refine wp_of e195 c195_16 (rw_aload_n (pc' := 17) (v := .ref r0) rfl rfl rfl ?_)
      refine wp_of e195 c195_17 (xg_L (pc' := 20) lf_9_94 hW g0 sh_42 (by decide) (by decide) ty_42_15 rfl rfl (fun b1113 b1114 => ?_))
      refine wp_of e195 c195_20 (xc_V (pc' := 23) (r := rp) (as := [vL (H r0 15)]) (st := []) (lm_9_170) rfl rfl (Nat.le_of_ble_eq_true rfl) hW grp sh_54 (by decide) rfl (by decide) (u_190_k (mm := r0) (d := d) (y := (xY B n q)) hW grp ⟨b1113, b1114⟩ (by omega) hDM_rp) (fun R1115 T1116 H1117 p1118 => ?_))
      obtain ⟨e1119, e1121, z1122, e1120, b1123, p1124⟩ := p1118
      subst e1119
      subst e1120
      subst e1121
      obtain ⟨a1125, a1126⟩ := p1124
      show wp _ _ 195 23 [(0, .ref r0)] [vI z1122] _ H _
      refine wp_of e195 c195_23 (rw_istore_n (pc' := 24) (z := z1122) (L' := [(1, vI z1122), (0, .ref r0)]) rfl rfl rfl ?_)
      refine wp_of e195 c195_24 (rw_iload_n (pc' := 25) (z := z1122) rfl rfl ?_)
      refine wp_of e195 c195_25 (rw_iconst (pc' := 26) rfl ?_)
      refine wp_of e195 c195_26 (rw_icmp_ne (p1 := 34) (p2 := 29) (by decide) rfl ⟨Int.le_trans (by decide) b1123.1, Int.le_trans b1123.2 (by decide)⟩ ⟨by decide, by decide⟩ (fun c1127 => ?_) (fun c1127 => ?_))
      · refine wp_of e195 c195_34 (rw_aload_n (pc' := 35) (v := .ref r0) rfl rfl rfl ?_)
        refine wp_of e195 c195_35 (xg_I (pc' := 38) lf_9_75 hW g0 sh_42 (by decide) (by decide) ty_42_9 rfl rfl (fun b1128 b1129 => ?_))
        refine wp_of e195 c195_38 (rw_iconst (pc' := 39) rfl ?_)
        refine wp_of e195 c195_39 (rw_icmp_ne (p1 := 46) (p2 := 42) (by decide) rfl ⟨Int.le_trans (by decide) b1128, Int.le_trans b1129 (by decide)⟩ ⟨by decide, by decide⟩ (fun c1130 => ?_) (fun c1130 => ?_))
        · refine wp_of e195 c195_46 (rw_iload_n (pc' := 47) (z := z1122) rfl rfl ?_)
          exact wp_ireturn e195 c195_47 rfl ⟨rfl, hW, f0, z1122, rfl, ⟨by omega, b1123.2⟩, (Or.inl ⟨by omega, by omega, by omega, by omega, by omega, hRC_r0⟩)⟩
        · exfalso
          omega
      · refine wp_of e195 c195_29 (rw_aload_n (pc' := 30) (v := .ref r0) rfl rfl rfl ?_)
        refine wp_of e195 c195_30 (rw_iconst (pc' := 31) rfl ?_)
        refine wp_of e195 c195_31 (xc_V (pc' := 34) (r := r0) (as := [vI 2]) (st := []) (lm_9_121) rfl rfl (Nat.le_of_ble_eq_true rfl) hW g0 sh_42 (by decide) rfl (by decide) (u_181_k (B := B) (n := n) (q := q) hW g0 ⟨by decide, by decide⟩ (by omega) hRC_r0) (fun R1131 T1132 H1133 p1134 => ?_))
        obtain ⟨e1135, w1137, f1138, e1136, p1139⟩ := p1134
        subst e1135
        subst e1136
        have f1141 := f0.tr f1138 rfl
        show wp _ _ 195 34 [(1, vI z1122), (0, .ref r0)] [] _ H1133 _
        have u1142 := RO_k p1139
        refine wp_of e195 c195_34 (rw_aload_n (pc' := 35) (v := .ref r0) rfl rfl rfl ?_)
        refine wp_of e195 c195_35 (xg_I (pc' := 38) lf_9_75 w1137 g0 sh_42 (by decide) (by decide) ty_42_9 rfl rfl (fun b1143 b1144 => ?_))
        refine wp_of e195 c195_38 (rw_iconst (pc' := 39) rfl ?_)
        refine wp_of e195 c195_39 (rw_icmp_ne (p1 := 46) (p2 := 42) (by decide) rfl ⟨Int.le_trans (by decide) b1143, Int.le_trans b1144 (by decide)⟩ ⟨by decide, by decide⟩ (fun c1145 => ?_) (fun c1145 => ?_))
        · exfalso
          omega
        · refine wp_of e195 c195_42 (rw_iconst (pc' := 43) rfl ?_)
          refine wp_of e195 c195_43 (rw_goto (p1 := 47) (by decide) ?_)
          exact wp_ireturn e195 c195_47 rfl ⟨rfl, w1137, f1141, 0, rfl, ⟨by decide, by decide⟩, (Or.inr ⟨by omega, by omega, RO_eq p1139 (by omega) (by omega)⟩)⟩
    · exfalso
      omega
  · show wp _ _ 195 4 [(0, .ref r0)] [vI z1103] _ H _
    refine wp_of e195 c195_4 (rw_if_ne (p1 := 12) (p2 := 7) (by decide) rfl ⟨Int.le_trans (by decide) b1104.1, Int.le_trans b1104.2 (by decide)⟩ (fun c1146 => ?_) (fun c1146 => ?_))
    · exfalso
      omega
    · refine wp_of e195 c195_7 (rw_aload_n (pc' := 8) (v := .ref r0) rfl rfl rfl ?_)
      refine wp_of e195 c195_8 (rw_iconst (pc' := 9) rfl ?_)
      refine wp_of e195 c195_9 (xc_V (pc' := 12) (r := r0) (as := [vI 1]) (st := []) (lm_9_121) rfl rfl (Nat.le_of_ble_eq_true rfl) hW g0 sh_42 (by decide) rfl (by decide) (u_181_k (B := B) (n := n) (q := q) hW g0 ⟨by decide, by decide⟩ (by omega) hRC_r0) (fun R1147 T1148 H1149 p1150 => ?_))
      obtain ⟨e1151, w1153, f1154, e1152, p1155⟩ := p1150
      subst e1151
      subst e1152
      have f1157 := f0.tr f1154 rfl
      show wp _ _ 195 12 [(0, .ref r0)] [] _ H1149 _
      have u1158 := RO_k p1155
      refine wp_of e195 c195_12 (rw_aload_n (pc' := 13) (v := .ref r0) rfl rfl rfl ?_)
      have k1159 : H1149 r0 4 = H r0 4 := (f1154 r0 4 _ g0 rfl)
      have q1160 : H1149 r0 4 = (rp : Int) := k1159.trans qrp
      refine wp_of e195 c195_13 (xg_K (pc' := 16) lf_9_166 w1153 g0 sh_42 (by decide) (by decide) rfl q1160 rfl ?_)
      refine wp_of e195 c195_16 (rw_aload_n (pc' := 17) (v := .ref r0) rfl rfl rfl ?_)
      have k1161 : H1149 r0 15 = H r0 15 := (f1154 r0 15 _ g0 rfl)
      refine wp_of e195 c195_17 (xg_L (pc' := 20) lf_9_94 w1153 g0 sh_42 (by decide) (by decide) ty_42_15 rfl rfl (fun b1162 b1163 => ?_))
      refine wp_of e195 c195_20 (xc_V (pc' := 23) (r := rp) (as := [vL (H1149 r0 15)]) (st := []) (lm_9_170) rfl rfl (Nat.le_of_ble_eq_true rfl) w1153 grp sh_54 (by decide) rfl (by decide) (u_190_o  w1153 grp ⟨b1162, b1163⟩) (fun R1164 T1165 H1166 p1167 => ?_))
      obtain ⟨e1168, e1170, z1171, e1169, b1172, p1173⟩ := p1167
      subst e1168
      subst e1169
      subst e1170
      show wp _ _ 195 23 [(0, .ref r0)] [vI z1171] _ H1149 _
      refine wp_of e195 c195_23 (rw_istore_n (pc' := 24) (z := z1171) (L' := [(1, vI z1171), (0, .ref r0)]) rfl rfl rfl ?_)
      refine wp_of e195 c195_24 (rw_iload_n (pc' := 25) (z := z1171) rfl rfl ?_)
      refine wp_of e195 c195_25 (rw_iconst (pc' := 26) rfl ?_)
      refine wp_of e195 c195_26 (rw_icmp_ne (p1 := 34) (p2 := 29) (by decide) rfl ⟨Int.le_trans (by decide) b1172.1, Int.le_trans b1172.2 (by decide)⟩ ⟨by decide, by decide⟩ (fun c1175 => ?_) (fun c1175 => ?_))
      · refine wp_of e195 c195_34 (rw_aload_n (pc' := 35) (v := .ref r0) rfl rfl rfl ?_)
        refine wp_of e195 c195_35 (xg_I (pc' := 38) lf_9_75 w1153 g0 sh_42 (by decide) (by decide) ty_42_9 rfl rfl (fun b1176 b1177 => ?_))
        refine wp_of e195 c195_38 (rw_iconst (pc' := 39) rfl ?_)
        refine wp_of e195 c195_39 (rw_icmp_ne (p1 := 46) (p2 := 42) (by decide) rfl ⟨Int.le_trans (by decide) b1176, Int.le_trans b1177 (by decide)⟩ ⟨by decide, by decide⟩ (fun c1178 => ?_) (fun c1178 => ?_))
        · exfalso
          omega
        · refine wp_of e195 c195_42 (rw_iconst (pc' := 43) rfl ?_)
          refine wp_of e195 c195_43 (rw_goto (p1 := 47) (by decide) ?_)
          exact wp_ireturn e195 c195_47 rfl ⟨rfl, w1153, f1157, 0, rfl, ⟨by decide, by decide⟩, (Or.inr ⟨by omega, by omega, RO_eq p1155 (by omega) (by omega)⟩)⟩
      · refine wp_of e195 c195_29 (rw_aload_n (pc' := 30) (v := .ref r0) rfl rfl rfl ?_)
        refine wp_of e195 c195_30 (rw_iconst (pc' := 31) rfl ?_)
        refine wp_of e195 c195_31 (xc_V (pc' := 34) (r := r0) (as := [vI 2]) (st := []) (lm_9_121) rfl rfl (Nat.le_of_ble_eq_true rfl) w1153 g0 sh_42 (by decide) rfl (by decide) (u_181_o (fo := 1) (po := q) w1153 g0 ⟨by decide, by decide⟩ p1155) (fun R1179 T1180 H1181 p1182 => ?_))
        obtain ⟨e1183, e1185, e1184, p1186⟩ := p1182
        subst e1183
        subst e1184
        subst e1185
        show wp _ _ 195 34 [(1, vI z1171), (0, .ref r0)] [] _ H1149 _
        have u1188 := RO_k p1186
        refine wp_of e195 c195_34 (rw_aload_n (pc' := 35) (v := .ref r0) rfl rfl rfl ?_)
        refine wp_of e195 c195_35 (xg_I (pc' := 38) lf_9_75 w1153 g0 sh_42 (by decide) (by decide) ty_42_9 rfl rfl (fun b1189 b1190 => ?_))
        refine wp_of e195 c195_38 (rw_iconst (pc' := 39) rfl ?_)
        refine wp_of e195 c195_39 (rw_icmp_ne (p1 := 46) (p2 := 42) (by decide) rfl ⟨Int.le_trans (by decide) b1189, Int.le_trans b1190 (by decide)⟩ ⟨by decide, by decide⟩ (fun c1191 => ?_) (fun c1191 => ?_))
        · exfalso
          omega
        · refine wp_of e195 c195_42 (rw_iconst (pc' := 43) rfl ?_)
          refine wp_of e195 c195_43 (rw_goto (p1 := 47) (by decide) ?_)
          exact wp_ireturn e195 c195_47 rfl ⟨rfl, w1153, f1157, 0, rfl, ⟨by decide, by decide⟩, (Or.inr ⟨by omega, by omega, RO_eq p1186 (by omega) (by omega)⟩)⟩
/-! StrikeAwakeModel.known()I o -/
abbrev uq_195_o (r0 : Nat) (rp : Nat) (fo : Int) (po : Int) (T : wq_T) (H : wq_H) : Option Value → wq_T → wq_H → Prop := fun r T' H' => T = T' ∧ H = H' ∧ ∃ z : Int, some (vI z) = r ∧ (0 ≤ z ∧ z ≤ 5) ∧ (((z = 0) ∧ RO T H r0 fo po))
set_option maxHeartbeats 4000000 in
theorem u_195_o {kt : Nat → Option mc_E} {T : wq_T} {H : wq_H} {r0 : Nat} {rp : Nat} {fo : Int} {po : Int} (hW : WT T H) (g0 : T.2.2.2 r0 = some 42) (qrp : H r0 4 = (rp : Int)) (grp : T.2.2.2 rp = some 54) (hRO_r0 : RO T H r0 fo po) : wpc kt 4 195 [.ref r0] T H (uq_195_o r0 rp fo po T H) := by
  refine wp_enter e195 (Nat.le_of_ble_eq_true rfl) rfl ?_
  show wp _ _ 195 0 [(0, .ref r0)] [] _ H _
  have u1051 := RO_k hRO_r0
  refine wp_of e195 c195_0 (rw_aload_n (pc' := 1) (v := .ref r0) rfl rfl rfl ?_)
  refine wp_of e195 c195_1 (xc_V (pc' := 4) (r := r0) (as := []) (st := []) (lm_9_162) rfl rfl (Nat.le_of_ble_eq_true rfl) hW g0 sh_42 (by decide) rfl (by decide) (u_189_o (fo := fo) (po := po) hW g0 hRO_r0) (fun R1052 T1053 H1054 p1055 => ?_))
  obtain ⟨e1056, e1058, z1059, e1057, b1060, p1061⟩ := p1055
  subst e1056
  subst e1057
  subst e1058
  show wp _ _ 195 4 [(0, .ref r0)] [vI z1059] _ H _
  refine wp_of e195 c195_4 (rw_if_ne (p1 := 12) (p2 := 7) (by decide) rfl ⟨Int.le_trans (by decide) b1060.1, Int.le_trans b1060.2 (by decide)⟩ (fun c1063 => ?_) (fun c1063 => ?_))
  · exfalso
    omega
  · refine wp_of e195 c195_7 (rw_aload_n (pc' := 8) (v := .ref r0) rfl rfl rfl ?_)
    refine wp_of e195 c195_8 (rw_iconst (pc' := 9) rfl ?_)
    refine wp_of e195 c195_9 (xc_V (pc' := 12) (r := r0) (as := [vI 1]) (st := []) (lm_9_121) rfl rfl (Nat.le_of_ble_eq_true rfl) hW g0 sh_42 (by decide) rfl (by decide) (u_181_o (fo := fo) (po := po) hW g0 ⟨by decide, by decide⟩ hRO_r0) (fun R1064 T1065 H1066 p1067 => ?_))
    obtain ⟨e1068, e1070, e1069, p1071⟩ := p1067
    subst e1068
    subst e1069
    subst e1070
    show wp _ _ 195 12 [(0, .ref r0)] [] _ H _
    have u1073 := RO_k p1071
    refine wp_of e195 c195_12 (rw_aload_n (pc' := 13) (v := .ref r0) rfl rfl rfl ?_)
    refine wp_of e195 c195_13 (xg_K (pc' := 16) lf_9_166 hW g0 sh_42 (by decide) (by decide) rfl qrp rfl ?_)
    refine wp_of e195 c195_16 (rw_aload_n (pc' := 17) (v := .ref r0) rfl rfl rfl ?_)
    refine wp_of e195 c195_17 (xg_L (pc' := 20) lf_9_94 hW g0 sh_42 (by decide) (by decide) ty_42_15 rfl rfl (fun b1074 b1075 => ?_))
    refine wp_of e195 c195_20 (xc_V (pc' := 23) (r := rp) (as := [vL (H r0 15)]) (st := []) (lm_9_170) rfl rfl (Nat.le_of_ble_eq_true rfl) hW grp sh_54 (by decide) rfl (by decide) (u_190_o  hW grp ⟨b1074, b1075⟩) (fun R1076 T1077 H1078 p1079 => ?_))
    obtain ⟨e1080, e1082, z1083, e1081, b1084, p1085⟩ := p1079
    subst e1080
    subst e1081
    subst e1082
    show wp _ _ 195 23 [(0, .ref r0)] [vI z1083] _ H _
    refine wp_of e195 c195_23 (rw_istore_n (pc' := 24) (z := z1083) (L' := [(1, vI z1083), (0, .ref r0)]) rfl rfl rfl ?_)
    refine wp_of e195 c195_24 (rw_iload_n (pc' := 25) (z := z1083) rfl rfl ?_)
    refine wp_of e195 c195_25 (rw_iconst (pc' := 26) rfl ?_)
    refine wp_of e195 c195_26 (rw_icmp_ne (p1 := 34) (p2 := 29) (by decide) rfl ⟨Int.le_trans (by decide) b1084.1, Int.le_trans b1084.2 (by decide)⟩ ⟨by decide, by decide⟩ (fun c1087 => ?_) (fun c1087 => ?_))
    · refine wp_of e195 c195_34 (rw_aload_n (pc' := 35) (v := .ref r0) rfl rfl rfl ?_)
      refine wp_of e195 c195_35 (xg_I (pc' := 38) lf_9_75 hW g0 sh_42 (by decide) (by decide) ty_42_9 rfl rfl (fun b1088 b1089 => ?_))
      refine wp_of e195 c195_38 (rw_iconst (pc' := 39) rfl ?_)
      refine wp_of e195 c195_39 (rw_icmp_ne (p1 := 46) (p2 := 42) (by decide) rfl ⟨Int.le_trans (by decide) b1088, Int.le_trans b1089 (by decide)⟩ ⟨by decide, by decide⟩ (fun c1090 => ?_) (fun c1090 => ?_))
      · exfalso
        omega
      · refine wp_of e195 c195_42 (rw_iconst (pc' := 43) rfl ?_)
        refine wp_of e195 c195_43 (rw_goto (p1 := 47) (by decide) ?_)
        exact wp_ireturn e195 c195_47 rfl ⟨rfl, rfl, 0, rfl, ⟨by decide, by decide⟩, ⟨by omega, p1071⟩⟩
    · refine wp_of e195 c195_29 (rw_aload_n (pc' := 30) (v := .ref r0) rfl rfl rfl ?_)
      refine wp_of e195 c195_30 (rw_iconst (pc' := 31) rfl ?_)
      refine wp_of e195 c195_31 (xc_V (pc' := 34) (r := r0) (as := [vI 2]) (st := []) (lm_9_121) rfl rfl (Nat.le_of_ble_eq_true rfl) hW g0 sh_42 (by decide) rfl (by decide) (u_181_o (fo := fo) (po := po) hW g0 ⟨by decide, by decide⟩ p1071) (fun R1091 T1092 H1093 p1094 => ?_))
      obtain ⟨e1095, e1097, e1096, p1098⟩ := p1094
      subst e1095
      subst e1096
      subst e1097
      show wp _ _ 195 34 [(1, vI z1083), (0, .ref r0)] [] _ H _
      have u1100 := RO_k p1098
      refine wp_of e195 c195_34 (rw_aload_n (pc' := 35) (v := .ref r0) rfl rfl rfl ?_)
      refine wp_of e195 c195_35 (xg_I (pc' := 38) lf_9_75 hW g0 sh_42 (by decide) (by decide) ty_42_9 rfl rfl (fun b1101 b1102 => ?_))
      refine wp_of e195 c195_38 (rw_iconst (pc' := 39) rfl ?_)
      refine wp_of e195 c195_39 (rw_icmp_ne (p1 := 46) (p2 := 42) (by decide) rfl ⟨Int.le_trans (by decide) b1101, Int.le_trans b1102 (by decide)⟩ ⟨by decide, by decide⟩ (fun c1103 => ?_) (fun c1103 => ?_))
      · exfalso
        omega
      · refine wp_of e195 c195_42 (rw_iconst (pc' := 43) rfl ?_)
        refine wp_of e195 c195_43 (rw_goto (p1 := 47) (by decide) ?_)
        exact wp_ireturn e195 c195_47 rfl ⟨rfl, rfl, 0, rfl, ⟨by decide, by decide⟩, ⟨by omega, p1098⟩⟩
/-! StrikeAwakeModel.readKnown()I k -/
abbrev uq_194_k (r0 : Nat) (rp : Nat) (rb : Nat) (B : Nat → Int) (n : Int) (q : Int) (d : xD) (T : wq_T) (H : wq_H) : Option Value → wq_T → wq_H → Prop := fun r T' H' => T = T' ∧ WT T H' ∧ wfr [(42, 8), (42, 9), (42, 10), (42, 11), (42, 12), (42, 13), (42, 14), (42, 15)] T H H' ∧ ∃ z : Int, some (vI z) = r ∧ (0 ≤ z ∧ z ≤ 5) ∧ (((0 ≤ z ∧ z ≤ 5) ∧ (xkn B n q d = 0) ∧ (z = xwho B n q d) ∧ (z < d 0 3) ∧ RC T H' r0 B n (xN B n q)) ∨ ((z = 0) ∧ (xkn B n q d ≠ 0) ∧ RO T H' r0 (xkn B n q d) q))
set_option maxHeartbeats 4000000 in
theorem u_194_k {kt : Nat → Option mc_E} {T : wq_T} {H : wq_H} {r0 : Nat} {rp : Nat} {rb : Nat} {B : Nat → Int} {n : Int} {q : Int} {d : xD} (hW : WT T H) (g0 : T.2.2.2 r0 = some 42) (qrp : H r0 4 = (rp : Int)) (grp : T.2.2.2 rp = some 54) (qrb : H r0 5 = (rb : Int)) (grb : T.2.2.2 rb = some 43) (hRC_r0 : RC T H r0 B n q) (hDM_rp : DM T H rp r0 d) : wpc kt 5 194 [.ref r0] T H (uq_194_k r0 rp rb B n q d T H) := by
  refine wp_enter e194 (Nat.le_of_ble_eq_true rfl) rfl ?_
  have f0 : wfr [(42, 8), (42, 9), (42, 10), (42, 11), (42, 12), (42, 13), (42, 14), (42, 15)] T H H := wfr.rf
  show wp _ _ 194 0 [(0, .ref r0)] [] _ H _
  have u1045 := RC_k hRC_r0
  have u1046 := DM_k hDM_rp
  refine wp_of e194 c194_0 (rw_aload_n (pc' := 1) (v := .ref r0) rfl rfl rfl ?_)
  refine wp_of e194 c194_1 (xc_V (pc' := 4) (r := r0) (as := []) (st := []) (lm_9_176) rfl rfl (Nat.le_of_ble_eq_true rfl) hW g0 sh_42 (by decide) rfl (by decide) (u_195_k (B := B) (n := n) (q := q) (d := d) hW g0 qrp grp hRC_r0 hDM_rp) (fun R1047 T1048 H1049 p1050 => ?_))
  obtain ⟨e1051, w1053, f1054, z1055, e1052, b1056, p1057⟩ := p1050
  subst e1051
  subst e1052
  rcases p1057 with ⟨a1058, a1059, a1060, a1061, a1062, a1063⟩ | ⟨a1064, a1065, a1066⟩
  · have f1067 := f0.tr f1054 rfl
    show wp _ _ 194 4 [(0, .ref r0)] [vI z1055] _ H1049 _
    have u1068 := RC_k a1063
    refine wp_of e194 c194_4 (rw_istore_n (pc' := 5) (z := z1055) (L' := [(1, vI z1055), (0, .ref r0)]) rfl rfl rfl ?_)
    refine wp_of e194 c194_5 (rw_aload_n (pc' := 6) (v := .ref r0) rfl rfl rfl ?_)
    have k1069 : H1049 r0 5 = H r0 5 := (f1054 r0 5 _ g0 rfl)
    have q1070 : H1049 r0 5 = (rb : Int) := k1069.trans qrb
    have u1071 := RC_a a1063
    have h1072 : TM T H1049 rb B := RC_tm a1063 q1070
    refine wp_of e194 c194_6 (xc_V (pc' := 9) (r := r0) (as := []) (st := []) (lm_9_118) rfl rfl (Nat.le_of_ble_eq_true rfl) w1053 g0 sh_42 (by decide) rfl (by decide) (u_172_k (B := B) (n := n) (a := (xE B n q)) (q := (xN B n q)) w1053 g0 q1070 grb (by omega) (by omega) (by omega) (by omega) (by omega) (rfl) h1072) (fun R1073 T1074 H1075 p1076 => ?_))
    obtain ⟨e1077, w1079, f1080, e1078, p1081⟩ := p1076
    subst e1077
    subst e1078
    have f1083 := f1067.tr f1080 rfl
    show wp _ _ 194 9 [(1, vI z1055), (0, .ref r0)] [] _ H1075 _
    have u1084 := RC_k p1081
    refine wp_of e194 c194_9 (rw_iload_n (pc' := 10) (z := z1055) rfl rfl ?_)
    exact wp_ireturn e194 c194_10 rfl ⟨rfl, w1079, f1083, z1055, rfl, ⟨b1056.1, b1056.2⟩, (Or.inl ⟨by omega, by omega, by omega, by omega, p1081⟩)⟩
  · have f1085 := f0.tr f1054 rfl
    show wp _ _ 194 4 [(0, .ref r0)] [vI z1055] _ H1049 _
    have u1086 := RO_k a1066
    refine wp_of e194 c194_4 (rw_istore_n (pc' := 5) (z := z1055) (L' := [(1, vI z1055), (0, .ref r0)]) rfl rfl rfl ?_)
    refine wp_of e194 c194_5 (rw_aload_n (pc' := 6) (v := .ref r0) rfl rfl rfl ?_)
    refine wp_of e194 c194_6 (xc_V (pc' := 9) (r := r0) (as := []) (st := []) (lm_9_118) rfl rfl (Nat.le_of_ble_eq_true rfl) w1053 g0 sh_42 (by decide) rfl (by decide) (u_172_o (fo := (xkn B n q d)) (po := q) w1053 g0 a1066) (fun R1087 T1088 H1089 p1090 => ?_))
    obtain ⟨e1091, e1093, e1092, p1094⟩ := p1090
    subst e1091
    subst e1092
    subst e1093
    show wp _ _ 194 9 [(1, vI z1055), (0, .ref r0)] [] _ H1049 _
    have u1096 := RO_k p1094
    refine wp_of e194 c194_9 (rw_iload_n (pc' := 10) (z := z1055) rfl rfl ?_)
    exact wp_ireturn e194 c194_10 rfl ⟨rfl, w1053, f1085, z1055, rfl, ⟨b1056.1, b1056.2⟩, (Or.inr ⟨by omega, by omega, RO_eq p1094 (by omega) (by omega)⟩)⟩
/-! StrikeAwakeModel.readKnown()I o -/
abbrev uq_194_o (r0 : Nat) (rp : Nat) (rb : Nat) (fo : Int) (po : Int) (T : wq_T) (H : wq_H) : Option Value → wq_T → wq_H → Prop := fun r T' H' => T = T' ∧ H = H' ∧ ∃ z : Int, some (vI z) = r ∧ (0 ≤ z ∧ z ≤ 5) ∧ (((z = 0) ∧ RO T H r0 fo po))
set_option maxHeartbeats 4000000 in
theorem u_194_o {kt : Nat → Option mc_E} {T : wq_T} {H : wq_H} {r0 : Nat} {rp : Nat} {rb : Nat} {fo : Int} {po : Int} (hW : WT T H) (g0 : T.2.2.2 r0 = some 42) (qrp : H r0 4 = (rp : Int)) (grp : T.2.2.2 rp = some 54) (qrb : H r0 5 = (rb : Int)) (grb : T.2.2.2 rb = some 43) (hRO_r0 : RO T H r0 fo po) : wpc kt 5 194 [.ref r0] T H (uq_194_o r0 rp rb fo po T H) := by
  refine wp_enter e194 (Nat.le_of_ble_eq_true rfl) rfl ?_
  show wp _ _ 194 0 [(0, .ref r0)] [] _ H _
  have u1022 := RO_k hRO_r0
  refine wp_of e194 c194_0 (rw_aload_n (pc' := 1) (v := .ref r0) rfl rfl rfl ?_)
  refine wp_of e194 c194_1 (xc_V (pc' := 4) (r := r0) (as := []) (st := []) (lm_9_176) rfl rfl (Nat.le_of_ble_eq_true rfl) hW g0 sh_42 (by decide) rfl (by decide) (u_195_o (fo := fo) (po := po) hW g0 qrp grp hRO_r0) (fun R1023 T1024 H1025 p1026 => ?_))
  obtain ⟨e1027, e1029, z1030, e1028, b1031, p1032⟩ := p1026
  subst e1027
  subst e1028
  subst e1029
  obtain ⟨a1033, a1034⟩ := p1032
  show wp _ _ 194 4 [(0, .ref r0)] [vI z1030] _ H _
  have u1035 := RO_k a1034
  refine wp_of e194 c194_4 (rw_istore_n (pc' := 5) (z := z1030) (L' := [(1, vI z1030), (0, .ref r0)]) rfl rfl rfl ?_)
  refine wp_of e194 c194_5 (rw_aload_n (pc' := 6) (v := .ref r0) rfl rfl rfl ?_)
  refine wp_of e194 c194_6 (xc_V (pc' := 9) (r := r0) (as := []) (st := []) (lm_9_118) rfl rfl (Nat.le_of_ble_eq_true rfl) hW g0 sh_42 (by decide) rfl (by decide) (u_172_o (fo := fo) (po := po) hW g0 a1034) (fun R1036 T1037 H1038 p1039 => ?_))
  obtain ⟨e1040, e1042, e1041, p1043⟩ := p1039
  subst e1040
  subst e1041
  subst e1042
  show wp _ _ 194 9 [(1, vI z1030), (0, .ref r0)] [] _ H _
  have u1045 := RO_k p1043
  refine wp_of e194 c194_9 (rw_iload_n (pc' := 10) (z := z1030) rfl rfl ?_)
  exact wp_ireturn e194 c194_10 rfl ⟨rfl, rfl, z1030, rfl, ⟨b1031.1, b1031.2⟩, ⟨by omega, p1043⟩⟩
/-! StrikeAwakeModel.hoursFrom(II)I  -/
abbrev uq_202 (a0 : Int) (a1 : Int) (lo : Int) (hi : Int) (T : wq_T) (H : wq_H) : Option Value → wq_T → wq_H → Prop := fun r T' H' => T = T' ∧ H = H' ∧ ∃ z : Int, some (vI z) = r ∧ ((-2147483648) ≤ z ∧ z ≤ 2147483647) ∧ (((z = xhs lo hi)))
set_option maxHeartbeats 4000000 in
theorem u_202 {kt : Nat → Option mc_E} {T : wq_T} {H : wq_H} {a0 : Int} {a1 : Int} {lo : Int} {hi : Int} (hW : WT T H) (i0 : 0 ≤ a0 ∧ a0 ≤ 24) (i1 : 0 ≤ a1 ∧ a1 ≤ 40) (p0 : a0 = lo) (p1 : a1 = hi) (p2 : lo ≤ hi) : wpc kt 1 202 [vI a0, vI a1] T H (uq_202 a0 a1 lo hi T H) := by
  refine wp_enter e202 (Nat.le_of_ble_eq_true rfl) rfl ?_
  show wp _ _ 202 0 [(0, vI a0), (1, vI a1)] [] _ H _
  refine wp_of e202 c202_0 (rw_iconst (pc' := 1) rfl ?_)
  refine wp_of e202 c202_1 (rw_istore_n (pc' := 2) (z := 0) (L' := [(2, vI 0), (0, vI a0), (1, vI a1)]) rfl rfl rfl ?_)
  refine wp_of e202 c202_2 (rw_iload_n (pc' := 3) (z := a0) rfl rfl ?_)
  refine wp_of e202 c202_3 (rw_istore_n (pc' := 4) (z := a0) (L' := [(3, vI a0), (2, vI 0), (0, vI a0), (1, vI a1)]) rfl rfl rfl ?_)
  have lp1032 : ∀ (n1033 : Nat) (v1035 : Int) (v1036 : Int), (0 ≤ v1035 ∧ v1035 ≤ 24) → (0 ≤ v1036 ∧ v1036 ≤ 16777215) → (v1036 = xhs lo v1035) → (lo ≤ v1035) → (v1035 ≤ hi) → (24 - v1035).toNat = n1033 → wp kt 0 202 4 [(3, vI v1035), (2, vI v1036), (1, vI a1)] [] T H (uq_202 a0 a1 lo hi T H) := by
    intro n1033
    induction n1033 using Nat.strongRecOn with
    | _ n1033 ih1034 =>
      intro v1035 v1036 b1039 b1040 x1041 x1042 x1043 m1044
      refine wp_of e202 c202_4 (rw_iload_n (pc' := 5) (z := v1035) rfl rfl ?_)
      refine wp_of e202 c202_5 (rw_iload_n (pc' := 6) (z := a1) rfl rfl ?_)
      refine wp_of e202 c202_6 (rw_icmp_ge (p1 := 27) (p2 := 9) (by decide) rfl ⟨Int.le_trans (by decide) b1039.1, Int.le_trans b1039.2 (by decide)⟩ ⟨Int.le_trans (by decide) i1.1, Int.le_trans i1.2 (by decide)⟩ (fun c1045 => ?_) (fun c1045 => ?_))
      · have : xhs lo v1035 = xhs lo hi := by
          by_cases e : v1035 = hi
          · rw [e]
          · rw [show v1035 = 24 by omega]
            exact (xhs_24 (by omega)).symm
        refine wp_of e202 c202_27 (rw_iload_n (pc' := 28) (z := v1036) rfl rfl ?_)
        exact wp_ireturn e202 c202_28 rfl ⟨rfl, rfl, v1036, rfl, ⟨Int.le_trans (by decide) b1040.1, Int.le_trans b1040.2 (by decide)⟩, (by omega)⟩
      · refine wp_of e202 c202_9 (rw_iload_n (pc' := 10) (z := v1035) rfl rfl ?_)
        refine wp_of e202 c202_10 (rw_bipush (pc' := 12) (z := 24) rfl (by decide) ?_)
        refine wp_of e202 c202_12 (rw_icmp_ge (p1 := 27) (p2 := 15) (by decide) rfl ⟨Int.le_trans (by decide) b1039.1, Int.le_trans b1039.2 (by decide)⟩ ⟨by decide, by decide⟩ (fun c1046 => ?_) (fun c1046 => ?_))
        · have : xhs lo v1035 = xhs lo hi := by
            by_cases e : v1035 = hi
            · rw [e]
            · rw [show v1035 = 24 by omega]
              exact (xhs_24 (by omega)).symm
          refine wp_of e202 c202_27 (rw_iload_n (pc' := 28) (z := v1036) rfl rfl ?_)
          exact wp_ireturn e202 c202_28 rfl ⟨rfl, rfl, v1036, rfl, ⟨Int.le_trans (by decide) b1040.1, Int.le_trans b1040.2 (by decide)⟩, (by omega)⟩
        · refine wp_of e202 c202_15 (rw_iload_n (pc' := 16) (z := v1036) rfl rfl ?_)
          refine wp_of e202 c202_16 (rw_iconst (pc' := 17) rfl ?_)
          refine wp_of e202 c202_17 (rw_iload_n (pc' := 18) (z := v1035) rfl rfl ?_)
          refine wp_of e202 c202_18 (rw_ishl (pc' := 19) rfl ?_)
          obtain ⟨v1047, e1048⟩ : ∃ x : Int, x = wq_shl 1 v1035 := ⟨_, rfl⟩
          rw [← e1048]
          have b1049 : 1 ≤ v1047 ∧ v1047 ≤ 8388608 := by
            rw [e1048]
            exact wq_shl1_24 ⟨by omega, by omega⟩
          refine wp_of e202 c202_19 (rw_ior (pc' := 20) rfl ?_)
          obtain ⟨v1050, e1051⟩ : ∃ x : Int, x = wq_or v1036 v1047 := ⟨_, rfl⟩
          rw [← e1051]
          have b1052 : 0 ≤ v1050 ∧ v1050 ≤ 16777215 := by
            rw [e1051]
            exact wq_or_24 ⟨by omega, by omega⟩ ⟨by omega, by omega⟩
          refine wp_of e202 c202_20 (rw_istore_n (pc' := 21) (z := v1050) (L' := [(2, vI v1050), (3, vI v1035), (1, vI a1)]) rfl rfl rfl ?_)
          refine wp_of e202 c202_21 (rw_iinc (pc' := 24) (z := v1035) (L' := [(3, vI (v1035 + 1)), (2, vI v1050), (1, vI a1)]) rfl rfl rfl rfl ?_)
          refine wp_of e202 c202_24 (rw_goto (p1 := 4) (by decide) ?_)
          have : xhs lo (v1035 + 1) = v1050 := by
            have e := @hf_ok lo v1035 (by omega) (by omega) (by omega) (by omega)
            rw [← e]
            subst_vars
            rfl
          exact wp_lc (ks := [3, 2, 1]) (wl_c rfl (wl_c rfl (wl_c rfl wl_n))) rfl (by decide) (ih1034 _ (by omega) (v1035 + 1) v1050 ⟨by omega, by omega⟩ ⟨b1052.1, b1052.2⟩ (by omega) (by omega) (by omega) rfl)
  have : xhs lo a0 = 0 := by
    rw [show lo = a0 by omega]
    exact hf_z (by omega) (by omega)
  exact wp_lc (ks := [3, 2, 0, 1]) (wl_c rfl (wl_c rfl (wl_c rfl wl_n))) rfl (by decide) (lp1032 _ a0 0 ⟨i0.1, i0.2⟩ ⟨by decide, by decide⟩ (by omega) (by omega) (by omega) rfl)
