/-! what methods do (own work, written by wip/gen3/sx3.py) -/
/-! StrikeAwakeModel.whole(II)I o -/
abbrev uq_185_o (r0 : Nat) (a1 : Int) (a2 : Int) (fo : Int) (po : Int) (T : wq_T) (H : wq_H) : Option Value → wq_T → wq_H → Prop := fun r T' H' => T = T' ∧ H = H' ∧ ∃ z : Int, some (vI z) = r ∧ (0 ≤ z ∧ z ≤ 100) ∧ (((z = 0) ∧ RO T H r0 fo po))
set_option maxHeartbeats 4000000 in
theorem u_185_o {kt : Nat → Option mc_E} {T : wq_T} {H : wq_H} {r0 : Nat} {a1 : Int} {a2 : Int} {fo : Int} {po : Int} (hW : WT T H) (g0 : T.2.2.2 r0 = some 42) (i1 : 0 ≤ a1 ∧ a1 ≤ 100) (i2 : 0 ≤ a2 ∧ a2 ≤ 100) (hRO_r0 : RO T H r0 fo po) : wpc kt 2 185 [.ref r0, vI a1, vI a2] T H (uq_185_o r0 a1 a2 fo po T H) := by
  refine wp_enter e185 (Nat.le_of_ble_eq_true rfl) rfl ?_
  show wp _ _ 185 0 [(0, .ref r0), (1, vI a1), (2, vI a2)] [] _ H _
  have u1016 := RO_k hRO_r0
  refine wp_of e185 c185_0 (rw_aload_n (pc' := 1) (v := .ref r0) rfl rfl rfl ?_)
  refine wp_of e185 c185_1 (xg_I (pc' := 4) lf_9_75 hW g0 sh_42 (by decide) (by decide) ty_42_9 rfl rfl (fun b1017 b1018 => ?_))
  refine wp_of e185 c185_4 (rw_iconst (pc' := 5) rfl ?_)
  refine wp_of e185 c185_5 (rw_icmp_eq (p1 := 16) (p2 := 8) (by decide) rfl ⟨Int.le_trans (by decide) b1017, Int.le_trans b1018 (by decide)⟩ ⟨by decide, by decide⟩ (fun c1019 => ?_) (fun c1019 => ?_))
  · exfalso
    omega
  · refine wp_of e185 c185_8 (rw_aload_n (pc' := 9) (v := .ref r0) rfl rfl rfl ?_)
    refine wp_of e185 c185_9 (rw_iconst (pc' := 10) rfl ?_)
    refine wp_of e185 c185_10 (xc_V (pc' := 13) (r := r0) (as := [vI 1]) (st := []) (lm_9_121) rfl rfl (Nat.le_of_ble_eq_true rfl) hW g0 sh_42 (by decide) rfl (by decide) (u_181_o (fo := fo) (po := po) hW g0 ⟨by decide, by decide⟩ hRO_r0) (fun R1020 T1021 H1022 p1023 => ?_))
    obtain ⟨e1024, e1026, e1025, p1027⟩ := p1023
    subst e1024
    subst e1025
    subst e1026
    show wp _ _ 185 13 [(0, .ref r0), (1, vI a1), (2, vI a2)] [] _ H _
    have u1029 := RO_k p1027
    refine wp_of e185 c185_13 (rw_goto (p1 := 33) (by decide) ?_)
    refine wp_of e185 c185_33 (rw_aload_n (pc' := 34) (v := .ref r0) rfl rfl rfl ?_)
    refine wp_of e185 c185_34 (xg_I (pc' := 37) lf_9_75 hW g0 sh_42 (by decide) (by decide) ty_42_9 rfl rfl (fun b1030 b1031 => ?_))
    refine wp_of e185 c185_37 (rw_iconst (pc' := 38) rfl ?_)
    refine wp_of e185 c185_38 (rw_icmp_ne (p1 := 45) (p2 := 41) (by decide) rfl ⟨Int.le_trans (by decide) b1030, Int.le_trans b1031 (by decide)⟩ ⟨by decide, by decide⟩ (fun c1032 => ?_) (fun c1032 => ?_))
    · exfalso
      omega
    · refine wp_of e185 c185_41 (rw_iconst (pc' := 42) rfl ?_)
      refine wp_of e185 c185_42 (rw_goto (p1 := 49) (by decide) ?_)
      exact wp_ireturn e185 c185_49 rfl ⟨rfl, rfl, 0, rfl, ⟨by decide, by decide⟩, ⟨by omega, p1027⟩⟩
/-! StrikeAwakeModel.readWhole(II)I k -/
abbrev uq_184_k (r0 : Nat) (a1 : Int) (a2 : Int) (rb : Nat) (B : Nat → Int) (n : Int) (q : Int) (lo : Int) (hi : Int) (T : wq_T) (H : wq_H) : Option Value → wq_T → wq_H → Prop := fun r T' H' => T = T' ∧ WT T H' ∧ wfr [(42, 8), (42, 9), (42, 10), (42, 11), (42, 12), (42, 13), (42, 14), (42, 15)] T H H' ∧ ∃ z : Int, some (vI z) = r ∧ (0 ≤ z ∧ z ≤ 100) ∧ (((xh B n q lo hi = 0) ∧ (z = xV B n q) ∧ (lo ≤ z ∧ z ≤ hi) ∧ RC T H' r0 B n (xN B n q)) ∨ ((z = 0) ∧ (xh B n q lo hi ≠ 0) ∧ RO T H' r0 (xh B n q lo hi) q))
set_option maxHeartbeats 4000000 in
theorem u_184_k {kt : Nat → Option mc_E} {T : wq_T} {H : wq_H} {r0 : Nat} {a1 : Int} {a2 : Int} {rb : Nat} {B : Nat → Int} {n : Int} {q : Int} {lo : Int} {hi : Int} (hW : WT T H) (g0 : T.2.2.2 r0 = some 42) (i1 : 0 ≤ a1 ∧ a1 ≤ 100) (i2 : 0 ≤ a2 ∧ a2 ≤ 100) (qrb : H r0 5 = (rb : Int)) (grb : T.2.2.2 rb = some 43) (p0 : a1 = lo) (p1 : a2 = hi) (hRC_r0 : RC T H r0 B n q) : wpc kt 3 184 [.ref r0, vI a1, vI a2] T H (uq_184_k r0 a1 a2 rb B n q lo hi T H) := by
  refine wp_enter e184 (Nat.le_of_ble_eq_true rfl) rfl ?_
  have f0 : wfr [(42, 8), (42, 9), (42, 10), (42, 11), (42, 12), (42, 13), (42, 14), (42, 15)] T H H := wfr.rf
  show wp _ _ 184 0 [(0, .ref r0), (1, vI a1), (2, vI a2)] [] _ H _
  have u1044 := RC_k hRC_r0
  refine wp_of e184 c184_0 (rw_aload_n (pc' := 1) (v := .ref r0) rfl rfl rfl ?_)
  refine wp_of e184 c184_1 (rw_iload_n (pc' := 2) (z := a1) rfl rfl ?_)
  refine wp_of e184 c184_2 (rw_iload_n (pc' := 3) (z := a2) rfl rfl ?_)
  refine wp_of e184 c184_3 (xc_V (pc' := 6) (r := r0) (as := [vI a1, vI a2]) (st := []) (lm_9_129) rfl rfl (Nat.le_of_ble_eq_true rfl) hW g0 sh_42 (by decide) rfl (by decide) (u_185_k (B := B) (n := n) (q := q) (lo := lo) (hi := hi) hW g0 ⟨i1.1, i1.2⟩ ⟨i2.1, i2.2⟩ (by omega) (by omega) hRC_r0) (fun R1045 T1046 H1047 p1048 => ?_))
  obtain ⟨e1049, w1051, f1052, z1053, e1050, b1054, p1055⟩ := p1048
  subst e1049
  subst e1050
  rcases p1055 with ⟨a1056, a1057, a1058, a1059, a1060⟩ | ⟨a1061, a1062, a1063⟩
  · have f1064 := f0.tr f1052 rfl
    show wp _ _ 184 6 [(0, .ref r0), (1, vI a1), (2, vI a2)] [vI z1053] _ H1047 _
    have u1065 := RC_k a1060
    refine wp_of e184 c184_6 (rw_istore_n (pc' := 7) (z := z1053) (L' := [(3, vI z1053), (0, .ref r0), (1, vI a1), (2, vI a2)]) rfl rfl rfl ?_)
    refine wp_of e184 c184_7 (rw_aload_n (pc' := 8) (v := .ref r0) rfl rfl rfl ?_)
    have k1066 : H1047 r0 5 = H r0 5 := (f1052 r0 5 _ g0 rfl)
    have q1067 : H1047 r0 5 = (rb : Int) := k1066.trans qrb
    have u1068 := RC_a a1060
    have h1069 : TM T H1047 rb B := RC_tm a1060 q1067
    refine wp_of e184 c184_8 (xc_V (pc' := 11) (r := r0) (as := []) (st := []) (lm_9_118) rfl rfl (Nat.le_of_ble_eq_true rfl) w1051 g0 sh_42 (by decide) rfl (by decide) (u_172_k (B := B) (n := n) (a := (xE B n q)) (q := (xN B n q)) w1051 g0 q1067 grb (by omega) (by omega) (by omega) (by omega) (by omega) (rfl) h1069) (fun R1070 T1071 H1072 p1073 => ?_))
    obtain ⟨e1074, w1076, f1077, e1075, p1078⟩ := p1073
    subst e1074
    subst e1075
    have f1080 := f1064.tr f1077 rfl
    show wp _ _ 184 11 [(3, vI z1053), (0, .ref r0), (1, vI a1), (2, vI a2)] [] _ H1072 _
    have u1081 := RC_k p1078
    refine wp_of e184 c184_11 (rw_iload_n (pc' := 12) (z := z1053) rfl rfl ?_)
    exact wp_ireturn e184 c184_12 rfl ⟨rfl, w1076, f1080, z1053, rfl, ⟨b1054.1, b1054.2⟩, (Or.inl ⟨by omega, by omega, by omega, p1078⟩)⟩
  · have f1082 := f0.tr f1052 rfl
    show wp _ _ 184 6 [(0, .ref r0), (1, vI a1), (2, vI a2)] [vI z1053] _ H1047 _
    have u1083 := RO_k a1063
    refine wp_of e184 c184_6 (rw_istore_n (pc' := 7) (z := z1053) (L' := [(3, vI z1053), (0, .ref r0), (1, vI a1), (2, vI a2)]) rfl rfl rfl ?_)
    refine wp_of e184 c184_7 (rw_aload_n (pc' := 8) (v := .ref r0) rfl rfl rfl ?_)
    refine wp_of e184 c184_8 (xc_V (pc' := 11) (r := r0) (as := []) (st := []) (lm_9_118) rfl rfl (Nat.le_of_ble_eq_true rfl) w1051 g0 sh_42 (by decide) rfl (by decide) (u_172_o (fo := (xh B n q lo hi)) (po := q) w1051 g0 a1063) (fun R1084 T1085 H1086 p1087 => ?_))
    obtain ⟨e1088, e1090, e1089, p1091⟩ := p1087
    subst e1088
    subst e1089
    subst e1090
    show wp _ _ 184 11 [(3, vI z1053), (0, .ref r0), (1, vI a1), (2, vI a2)] [] _ H1047 _
    have u1093 := RO_k p1091
    refine wp_of e184 c184_11 (rw_iload_n (pc' := 12) (z := z1053) rfl rfl ?_)
    exact wp_ireturn e184 c184_12 rfl ⟨rfl, w1051, f1082, z1053, rfl, ⟨b1054.1, b1054.2⟩, (Or.inr ⟨by omega, by omega, RO_eq p1091 (by omega) (by omega)⟩)⟩
/-! StrikeAwakeModel.readWhole(II)I o -/
abbrev uq_184_o (r0 : Nat) (a1 : Int) (a2 : Int) (rb : Nat) (fo : Int) (po : Int) (T : wq_T) (H : wq_H) : Option Value → wq_T → wq_H → Prop := fun r T' H' => T = T' ∧ H = H' ∧ ∃ z : Int, some (vI z) = r ∧ (0 ≤ z ∧ z ≤ 100) ∧ (((z = 0) ∧ RO T H r0 fo po))
set_option maxHeartbeats 4000000 in
theorem u_184_o {kt : Nat → Option mc_E} {T : wq_T} {H : wq_H} {r0 : Nat} {a1 : Int} {a2 : Int} {rb : Nat} {fo : Int} {po : Int} (hW : WT T H) (g0 : T.2.2.2 r0 = some 42) (i1 : 0 ≤ a1 ∧ a1 ≤ 100) (i2 : 0 ≤ a2 ∧ a2 ≤ 100) (qrb : H r0 5 = (rb : Int)) (grb : T.2.2.2 rb = some 43) (hRO_r0 : RO T H r0 fo po) : wpc kt 3 184 [.ref r0, vI a1, vI a2] T H (uq_184_o r0 a1 a2 rb fo po T H) := by
  refine wp_enter e184 (Nat.le_of_ble_eq_true rfl) rfl ?_
  show wp _ _ 184 0 [(0, .ref r0), (1, vI a1), (2, vI a2)] [] _ H _
  have u1022 := RO_k hRO_r0
  refine wp_of e184 c184_0 (rw_aload_n (pc' := 1) (v := .ref r0) rfl rfl rfl ?_)
  refine wp_of e184 c184_1 (rw_iload_n (pc' := 2) (z := a1) rfl rfl ?_)
  refine wp_of e184 c184_2 (rw_iload_n (pc' := 3) (z := a2) rfl rfl ?_)
  refine wp_of e184 c184_3 (xc_V (pc' := 6) (r := r0) (as := [vI a1, vI a2]) (st := []) (lm_9_129) rfl rfl (Nat.le_of_ble_eq_true rfl) hW g0 sh_42 (by decide) rfl (by decide) (u_185_o (fo := fo) (po := po) hW g0 ⟨i1.1, i1.2⟩ ⟨i2.1, i2.2⟩ hRO_r0) (fun R1023 T1024 H1025 p1026 => ?_))
  obtain ⟨e1027, e1029, z1030, e1028, b1031, p1032⟩ := p1026
  subst e1027
  subst e1028
  subst e1029
  obtain ⟨a1033, a1034⟩ := p1032
  show wp _ _ 184 6 [(0, .ref r0), (1, vI a1), (2, vI a2)] [vI z1030] _ H _
  have u1035 := RO_k a1034
  refine wp_of e184 c184_6 (rw_istore_n (pc' := 7) (z := z1030) (L' := [(3, vI z1030), (0, .ref r0), (1, vI a1), (2, vI a2)]) rfl rfl rfl ?_)
  refine wp_of e184 c184_7 (rw_aload_n (pc' := 8) (v := .ref r0) rfl rfl rfl ?_)
  refine wp_of e184 c184_8 (xc_V (pc' := 11) (r := r0) (as := []) (st := []) (lm_9_118) rfl rfl (Nat.le_of_ble_eq_true rfl) hW g0 sh_42 (by decide) rfl (by decide) (u_172_o (fo := fo) (po := po) hW g0 a1034) (fun R1036 T1037 H1038 p1039 => ?_))
  obtain ⟨e1040, e1042, e1041, p1043⟩ := p1039
  subst e1040
  subst e1041
  subst e1042
  show wp _ _ 184 11 [(3, vI z1030), (0, .ref r0), (1, vI a1), (2, vI a2)] [] _ H _
  have u1045 := RO_k p1043
  refine wp_of e184 c184_11 (rw_iload_n (pc' := 12) (z := z1030) rfl rfl ?_)
  exact wp_ireturn e184 c184_12 rfl ⟨rfl, rfl, z1030, rfl, ⟨b1031.1, b1031.2⟩, ⟨by omega, p1043⟩⟩
/-! StrikeAwakeModel.readPart(Ljava/lang/String;II)I k -/
abbrev uq_182_k (r0 : Nat) (s1 : Nat) (a2 : Int) (a3 : Int) (rb : Nat) (B : Nat → Int) (n : Int) (q : Int) (kk : Int) (lo : Int) (hi : Int) (T : wq_T) (H : wq_H) : Option Value → wq_T → wq_H → Prop := fun r T' H' => T = T' ∧ WT T H' ∧ wfr [(42, 8), (42, 9), (42, 10), (42, 11), (42, 12), (42, 13), (42, 14), (42, 15)] T H H' ∧ ∃ z : Int, some (vI z) = r ∧ (0 ≤ z ∧ z ≤ 100) ∧ (((xw B n q kk = 0) ∧ (xh B n (xN B n q) lo hi = 0) ∧ (q ≤ (xN B n (xN B n q))) ∧ (z = xV B n (xN B n q)) ∧ (lo ≤ z ∧ z ≤ hi) ∧ RC T H' r0 B n (xN B n (xN B n q))) ∨ ((z = 0) ∧ (xw B n q kk ≠ 0) ∧ RO T H' r0 (xw B n q kk) q) ∨ ((z = 0) ∧ (xw B n q kk = 0) ∧ (xh B n (xN B n q) lo hi ≠ 0) ∧ RO T H' r0 (xh B n (xN B n q) lo hi) (xN B n q)))
set_option maxHeartbeats 4000000 in
theorem u_182_k {kt : Nat → Option mc_E} {T : wq_T} {H : wq_H} {r0 : Nat} {s1 : Nat} {t1 : List Int32} {a2 : Int} {a3 : Int} {rb : Nat} {B : Nat → Int} {n : Int} {q : Int} {kk : Int} {lo : Int} {hi : Int} (hW : WT T H) (g0 : T.2.2.2 r0 = some 42) (h1 : mc_find mc_sb s1 = some t1) (i2 : 0 ≤ a2 ∧ a2 ≤ 100) (i3 : 0 ≤ a3 ∧ a3 ≤ 100) (qrb : H r0 5 = (rb : Int)) (grb : T.2.2.2 rb = some 43) (p0 : wkw t1 t1.length = kk) (p1 : a2 = lo) (p2 : a3 = hi) (hRC_r0 : RC T H r0 B n q) : wpc kt 4 182 [.ref r0, .ref s1, vI a2, vI a3] T H (uq_182_k r0 s1 a2 a3 rb B n q kk lo hi T H) := by
  refine wp_enter e182 (Nat.le_of_ble_eq_true rfl) rfl ?_
  have f0 : wfr [(42, 8), (42, 9), (42, 10), (42, 11), (42, 12), (42, 13), (42, 14), (42, 15)] T H H := wfr.rf
  show wp _ _ 182 0 [(0, .ref r0), (1, .ref s1), (2, vI a2), (3, vI a3)] [] _ H _
  have u1052 := RC_k hRC_r0
  refine wp_of e182 c182_0 (rw_aload_n (pc' := 1) (v := .ref r0) rfl rfl rfl ?_)
  refine wp_of e182 c182_1 (rw_aload_n (pc' := 2) (v := .ref s1) rfl rfl rfl ?_)
  refine wp_of e182 c182_2 (xc_V (pc' := 5) (r := r0) (as := [.ref s1]) (st := []) (lm_9_133) rfl rfl (Nat.le_of_ble_eq_true rfl) hW g0 sh_42 (by decide) rfl (by decide) (u_183_k (B := B) (n := n) (q := q) (kk := kk) hW g0 h1 qrb grb (by assumption) hRC_r0) (fun R1053 T1054 H1055 p1056 => ?_))
  obtain ⟨e1057, w1059, f1060, e1058, p1061⟩ := p1056
  subst e1057
  subst e1058
  rcases p1061 with ⟨a1062, a1063⟩ | ⟨a1064, a1065⟩
  · have f1066 := f0.tr f1060 rfl
    show wp _ _ 182 5 [(0, .ref r0), (1, .ref s1), (2, vI a2), (3, vI a3)] [] _ H1055 _
    have u1067 := RC_k a1063
    refine wp_of e182 c182_5 (rw_aload_n (pc' := 6) (v := .ref r0) rfl rfl rfl ?_)
    refine wp_of e182 c182_6 (rw_iload_n (pc' := 7) (z := a2) rfl rfl ?_)
    refine wp_of e182 c182_7 (rw_iload_n (pc' := 8) (z := a3) rfl rfl ?_)
    have k1068 : H1055 r0 5 = H r0 5 := (f1060 r0 5 _ g0 rfl)
    have q1069 : H1055 r0 5 = (rb : Int) := k1068.trans qrb
    refine wp_of e182 c182_8 (xc_V (pc' := 11) (r := r0) (as := [vI a2, vI a3]) (st := []) (lm_9_137) rfl rfl (Nat.le_of_ble_eq_true rfl) w1059 g0 sh_42 (by decide) rfl (by decide) (u_184_k (B := B) (n := n) (q := ((xN B n q))) (lo := lo) (hi := hi) w1059 g0 ⟨i2.1, i2.2⟩ ⟨i3.1, i3.2⟩ q1069 grb (by omega) (by omega) a1063) (fun R1070 T1071 H1072 p1073 => ?_))
    obtain ⟨e1074, w1076, f1077, z1078, e1075, b1079, p1080⟩ := p1073
    subst e1074
    subst e1075
    rcases p1080 with ⟨a1081, a1082, a1083, a1084⟩ | ⟨a1085, a1086, a1087⟩
    · have f1088 := f1066.tr f1077 rfl
      show wp _ _ 182 11 [(0, .ref r0), (1, .ref s1), (2, vI a2), (3, vI a3)] [vI z1078] _ H1072 _
      have u1089 := RC_k a1084
      exact wp_ireturn e182 c182_11 rfl ⟨rfl, w1076, f1088, z1078, rfl, ⟨b1079.1, b1079.2⟩, (Or.inl ⟨by omega, by omega, by omega, by omega, by omega, a1084⟩)⟩
    · have f1090 := f1066.tr f1077 rfl
      show wp _ _ 182 11 [(0, .ref r0), (1, .ref s1), (2, vI a2), (3, vI a3)] [vI z1078] _ H1072 _
      have u1091 := RO_k a1087
      exact wp_ireturn e182 c182_11 rfl ⟨rfl, w1076, f1090, z1078, rfl, ⟨b1079.1, b1079.2⟩, (Or.inr (Or.inr ⟨by omega, by omega, by omega, RO_eq a1087 (by omega) (by omega)⟩))⟩
  · have f1092 := f0.tr f1060 rfl
    show wp _ _ 182 5 [(0, .ref r0), (1, .ref s1), (2, vI a2), (3, vI a3)] [] _ H1055 _
    have u1093 := RO_k a1065
    refine wp_of e182 c182_5 (rw_aload_n (pc' := 6) (v := .ref r0) rfl rfl rfl ?_)
    refine wp_of e182 c182_6 (rw_iload_n (pc' := 7) (z := a2) rfl rfl ?_)
    refine wp_of e182 c182_7 (rw_iload_n (pc' := 8) (z := a3) rfl rfl ?_)
    have k1094 : H1055 r0 5 = H r0 5 := (f1060 r0 5 _ g0 rfl)
    have q1095 : H1055 r0 5 = (rb : Int) := k1094.trans qrb
    refine wp_of e182 c182_8 (xc_V (pc' := 11) (r := r0) (as := [vI a2, vI a3]) (st := []) (lm_9_137) rfl rfl (Nat.le_of_ble_eq_true rfl) w1059 g0 sh_42 (by decide) rfl (by decide) (u_184_o (fo := (xw B n q kk)) (po := q) w1059 g0 ⟨i2.1, i2.2⟩ ⟨i3.1, i3.2⟩ q1095 grb a1065) (fun R1096 T1097 H1098 p1099 => ?_))
    obtain ⟨e1100, e1102, z1103, e1101, b1104, p1105⟩ := p1099
    subst e1100
    subst e1101
    subst e1102
    obtain ⟨a1106, a1107⟩ := p1105
    show wp _ _ 182 11 [(0, .ref r0), (1, .ref s1), (2, vI a2), (3, vI a3)] [vI z1103] _ H1055 _
    have u1108 := RO_k a1107
    exact wp_ireturn e182 c182_11 rfl ⟨rfl, w1059, f1092, z1103, rfl, ⟨b1104.1, b1104.2⟩, (Or.inr (Or.inl ⟨by omega, by omega, RO_eq a1107 (by omega) (by omega)⟩))⟩
/-! StrikeAwakeModel.readPart(Ljava/lang/String;II)I o -/
abbrev uq_182_o (r0 : Nat) (s1 : Nat) (a2 : Int) (a3 : Int) (rb : Nat) (fo : Int) (po : Int) (kk : Int) (T : wq_T) (H : wq_H) : Option Value → wq_T → wq_H → Prop := fun r T' H' => T = T' ∧ H = H' ∧ ∃ z : Int, some (vI z) = r ∧ (0 ≤ z ∧ z ≤ 100) ∧ (((z = 0) ∧ RO T H r0 fo po))
set_option maxHeartbeats 4000000 in
theorem u_182_o {kt : Nat → Option mc_E} {T : wq_T} {H : wq_H} {r0 : Nat} {s1 : Nat} {t1 : List Int32} {a2 : Int} {a3 : Int} {rb : Nat} {fo : Int} {po : Int} {kk : Int} (hW : WT T H) (g0 : T.2.2.2 r0 = some 42) (h1 : mc_find mc_sb s1 = some t1) (i2 : 0 ≤ a2 ∧ a2 ≤ 100) (i3 : 0 ≤ a3 ∧ a3 ≤ 100) (qrb : H r0 5 = (rb : Int)) (grb : T.2.2.2 rb = some 43) (p0 : wkw t1 t1.length = kk) (hRO_r0 : RO T H r0 fo po) : wpc kt 4 182 [.ref r0, .ref s1, vI a2, vI a3] T H (uq_182_o r0 s1 a2 a3 rb fo po kk T H) := by
  refine wp_enter e182 (Nat.le_of_ble_eq_true rfl) rfl ?_
  show wp _ _ 182 0 [(0, .ref r0), (1, .ref s1), (2, vI a2), (3, vI a3)] [] _ H _
  have u1022 := RO_k hRO_r0
  refine wp_of e182 c182_0 (rw_aload_n (pc' := 1) (v := .ref r0) rfl rfl rfl ?_)
  refine wp_of e182 c182_1 (rw_aload_n (pc' := 2) (v := .ref s1) rfl rfl rfl ?_)
  refine wp_of e182 c182_2 (xc_V (pc' := 5) (r := r0) (as := [.ref s1]) (st := []) (lm_9_133) rfl rfl (Nat.le_of_ble_eq_true rfl) hW g0 sh_42 (by decide) rfl (by decide) (u_183_o (fo := fo) (po := po) (kk := kk) hW g0 h1 qrb grb (by assumption) hRO_r0) (fun R1023 T1024 H1025 p1026 => ?_))
  obtain ⟨e1027, e1029, e1028, p1030⟩ := p1026
  subst e1027
  subst e1028
  subst e1029
  show wp _ _ 182 5 [(0, .ref r0), (1, .ref s1), (2, vI a2), (3, vI a3)] [] _ H _
  have u1032 := RO_k p1030
  refine wp_of e182 c182_5 (rw_aload_n (pc' := 6) (v := .ref r0) rfl rfl rfl ?_)
  refine wp_of e182 c182_6 (rw_iload_n (pc' := 7) (z := a2) rfl rfl ?_)
  refine wp_of e182 c182_7 (rw_iload_n (pc' := 8) (z := a3) rfl rfl ?_)
  refine wp_of e182 c182_8 (xc_V (pc' := 11) (r := r0) (as := [vI a2, vI a3]) (st := []) (lm_9_137) rfl rfl (Nat.le_of_ble_eq_true rfl) hW g0 sh_42 (by decide) rfl (by decide) (u_184_o (fo := fo) (po := po) hW g0 ⟨i2.1, i2.2⟩ ⟨i3.1, i3.2⟩ qrb grb p1030) (fun R1033 T1034 H1035 p1036 => ?_))
  obtain ⟨e1037, e1039, z1040, e1038, b1041, p1042⟩ := p1036
  subst e1037
  subst e1038
  subst e1039
  obtain ⟨a1043, a1044⟩ := p1042
  show wp _ _ 182 11 [(0, .ref r0), (1, .ref s1), (2, vI a2), (3, vI a3)] [vI z1040] _ H _
  have u1045 := RO_k a1044
  exact wp_ireturn e182 c182_11 rfl ⟨rfl, rfl, z1040, rfl, ⟨b1041.1, b1041.2⟩, ⟨by omega, a1044⟩⟩
/-! StrikeAwakeModel.isName()Z k -/
abbrev uq_189_k (r0 : Nat) (B : Nat → Int) (n : Int) (q : Int) (T : wq_T) (H : wq_H) : Option Value → wq_T → wq_H → Prop := fun r T' H' => T = T' ∧ H = H' ∧ ∃ z : Int, some (vI z) = r ∧ (0 ≤ z ∧ z ≤ 1) ∧ (((z = 1) ∧ (xre B n q = 11) ∧ (xK B n q = 1) ∧ (H r0 15 = xY B n q)) ∨ ((z = 0) ∧ (xre B n q ≠ 11)))
set_option maxHeartbeats 4000000 in
theorem u_189_k {kt : Nat → Option mc_E} {T : wq_T} {H : wq_H} {r0 : Nat} {B : Nat → Int} {n : Int} {q : Int} (hW : WT T H) (g0 : T.2.2.2 r0 = some 42) (hRC_r0 : RC T H r0 B n q) : wpc kt 3 189 [.ref r0] T H (uq_189_k r0 B n q T H) := by
  refine wp_enter e189 (Nat.le_of_ble_eq_true rfl) rfl ?_
  show wp _ _ 189 0 [(0, .ref r0)] [] _ H _
  have u1191 := RC_k hRC_r0
  have _s := RC_s hRC_r0
  have _x := @xre_b B n q
  refine wp_of e189 c189_0 (rw_aload_n (pc' := 1) (v := .ref r0) rfl rfl rfl ?_)
  refine wp_of e189 c189_1 (xg_I (pc' := 4) lf_9_75 hW g0 sh_42 (by decide) (by decide) ty_42_9 rfl rfl (fun b1192 b1193 => ?_))
  refine wp_of e189 c189_4 (rw_iconst (pc' := 5) rfl ?_)
  refine wp_of e189 c189_5 (rw_icmp_ne (p1 := 62) (p2 := 8) (by decide) rfl ⟨Int.le_trans (by decide) b1192, Int.le_trans b1193 (by decide)⟩ ⟨by decide, by decide⟩ (fun c1194 => ?_) (fun c1194 => ?_))
  · refine wp_of e189 c189_62 (rw_iconst (pc' := 63) rfl ?_)
    exact wp_zreturn e189 c189_63 rfl (by omega) ⟨rfl, rfl, 0, rfl, ⟨by decide, by decide⟩, (Or.inr ⟨by omega, by omega⟩)⟩
  · refine wp_of e189 c189_8 (rw_aload_n (pc' := 9) (v := .ref r0) rfl rfl rfl ?_)
    refine wp_of e189 c189_9 (rw_ldcS (pc' := 11) (k := 72) rfl rfl rfl rfl ?_)
    refine wp_of e189 c189_11 (xc_V (pc' := 14) (r := r0) (as := [.ref 72]) (st := []) (lm_9_114) rfl rfl (Nat.le_of_ble_eq_true rfl) hW g0 sh_42 (by decide) rfl (by decide) (u_178_k (B := B) (n := n) (q := q) (kk := 12343) hW g0 rfl (by decide +kernel) hRC_r0) (fun R1195 T1196 H1197 p1198 => ?_))
    obtain ⟨e1199, e1201, z1202, e1200, b1203, p1204⟩ := p1198
    subst e1199
    subst e1200
    subst e1201
    rcases p1204 with ⟨a1205, a1206, a1207⟩ | ⟨a1208, a1209⟩
    · show wp _ _ 189 14 [(0, .ref r0)] [vI z1202] _ H _
      have y1210 := xre_y (B := B) (n := n) (q := q) 0 12343 rfl (by decide) (by omega)
      refine wp_of e189 c189_14 (rw_if_ne (p1 := 62) (p2 := 17) (by decide) rfl ⟨Int.le_trans (by decide) b1203.1, Int.le_trans b1203.2 (by decide)⟩ (fun c1211 => ?_) (fun c1211 => ?_))
      · refine wp_of e189 c189_62 (rw_iconst (pc' := 63) rfl ?_)
        exact wp_zreturn e189 c189_63 rfl (by omega) ⟨rfl, rfl, 0, rfl, ⟨by decide, by decide⟩, (Or.inr ⟨by omega, by omega⟩)⟩
      · exfalso
        omega
    · show wp _ _ 189 14 [(0, .ref r0)] [vI z1202] _ H _
      have y1212 := xre_n (B := B) (n := n) (q := q) 0 12343 rfl (by decide) (by omega)
      refine wp_of e189 c189_14 (rw_if_ne (p1 := 62) (p2 := 17) (by decide) rfl ⟨Int.le_trans (by decide) b1203.1, Int.le_trans b1203.2 (by decide)⟩ (fun c1213 => ?_) (fun c1213 => ?_))
      · exfalso
        omega
      · refine wp_of e189 c189_17 (rw_aload_n (pc' := 18) (v := .ref r0) rfl rfl rfl ?_)
        refine wp_of e189 c189_18 (rw_ldcS (pc' := 20) (k := 76) rfl rfl rfl rfl ?_)
        refine wp_of e189 c189_20 (xc_V (pc' := 23) (r := r0) (as := [.ref 76]) (st := []) (lm_9_114) rfl rfl (Nat.le_of_ble_eq_true rfl) hW g0 sh_42 (by decide) rfl (by decide) (u_178_k (B := B) (n := n) (q := q) (kk := 542723566) hW g0 rfl (by decide +kernel) hRC_r0) (fun R1214 T1215 H1216 p1217 => ?_))
        obtain ⟨e1218, e1220, z1221, e1219, b1222, p1223⟩ := p1217
        subst e1218
        subst e1219
        subst e1220
        rcases p1223 with ⟨a1224, a1225, a1226⟩ | ⟨a1227, a1228⟩
        · show wp _ _ 189 23 [(0, .ref r0)] [vI z1221] _ H _
          have y1229 := xre_y (B := B) (n := n) (q := q) 1 542723566 rfl (by decide) (by omega)
          refine wp_of e189 c189_23 (rw_if_ne (p1 := 62) (p2 := 26) (by decide) rfl ⟨Int.le_trans (by decide) b1222.1, Int.le_trans b1222.2 (by decide)⟩ (fun c1230 => ?_) (fun c1230 => ?_))
          · refine wp_of e189 c189_62 (rw_iconst (pc' := 63) rfl ?_)
            exact wp_zreturn e189 c189_63 rfl (by omega) ⟨rfl, rfl, 0, rfl, ⟨by decide, by decide⟩, (Or.inr ⟨by omega, by omega⟩)⟩
          · exfalso
            omega
        · show wp _ _ 189 23 [(0, .ref r0)] [vI z1221] _ H _
          have y1231 := xre_n (B := B) (n := n) (q := q) 1 542723566 rfl (by decide) (by omega)
          refine wp_of e189 c189_23 (rw_if_ne (p1 := 62) (p2 := 26) (by decide) rfl ⟨Int.le_trans (by decide) b1222.1, Int.le_trans b1222.2 (by decide)⟩ (fun c1232 => ?_) (fun c1232 => ?_))
          · exfalso
            omega
          · refine wp_of e189 c189_26 (rw_aload_n (pc' := 27) (v := .ref r0) rfl rfl rfl ?_)
            refine wp_of e189 c189_27 (rw_ldcS (pc' := 29) (k := 77) rfl rfl rfl rfl ?_)
            refine wp_of e189 c189_29 (xc_V (pc' := 32) (r := r0) (as := [.ref 77]) (st := []) (lm_9_114) rfl rfl (Nat.le_of_ble_eq_true rfl) hW g0 sh_42 (by decide) rfl (by decide) (u_178_k (B := B) (n := n) (q := q) (kk := 643584494) hW g0 rfl (by decide +kernel) hRC_r0) (fun R1233 T1234 H1235 p1236 => ?_))
            obtain ⟨e1237, e1239, z1240, e1238, b1241, p1242⟩ := p1236
            subst e1237
            subst e1238
            subst e1239
            rcases p1242 with ⟨a1243, a1244, a1245⟩ | ⟨a1246, a1247⟩
            · show wp _ _ 189 32 [(0, .ref r0)] [vI z1240] _ H _
              have y1248 := xre_y (B := B) (n := n) (q := q) 2 643584494 rfl (by decide) (by omega)
              refine wp_of e189 c189_32 (rw_if_ne (p1 := 62) (p2 := 35) (by decide) rfl ⟨Int.le_trans (by decide) b1241.1, Int.le_trans b1241.2 (by decide)⟩ (fun c1249 => ?_) (fun c1249 => ?_))
              · refine wp_of e189 c189_62 (rw_iconst (pc' := 63) rfl ?_)
                exact wp_zreturn e189 c189_63 rfl (by omega) ⟨rfl, rfl, 0, rfl, ⟨by decide, by decide⟩, (Or.inr ⟨by omega, by omega⟩)⟩
              · exfalso
                omega
            · show wp _ _ 189 32 [(0, .ref r0)] [vI z1240] _ H _
              have y1250 := xre_n (B := B) (n := n) (q := q) 2 643584494 rfl (by decide) (by omega)
              refine wp_of e189 c189_32 (rw_if_ne (p1 := 62) (p2 := 35) (by decide) rfl ⟨Int.le_trans (by decide) b1241.1, Int.le_trans b1241.2 (by decide)⟩ (fun c1251 => ?_) (fun c1251 => ?_))
              · exfalso
                omega
              · refine wp_of e189 c189_35 (rw_aload_n (pc' := 36) (v := .ref r0) rfl rfl rfl ?_)
                refine wp_of e189 c189_36 (rw_ldcS (pc' := 38) (k := 78) rfl rfl rfl rfl ?_)
                refine wp_of e189 c189_38 (xc_V (pc' := 41) (r := r0) (as := [.ref 78]) (st := []) (lm_9_114) rfl rfl (Nat.le_of_ble_eq_true rfl) hW g0 sh_42 (by decide) rfl (by decide) (u_178_k (B := B) (n := n) (q := q) (kk := 1574484) hW g0 rfl (by decide +kernel) hRC_r0) (fun R1252 T1253 H1254 p1255 => ?_))
                obtain ⟨e1256, e1258, z1259, e1257, b1260, p1261⟩ := p1255
                subst e1256
                subst e1257
                subst e1258
                rcases p1261 with ⟨a1262, a1263, a1264⟩ | ⟨a1265, a1266⟩
                · show wp _ _ 189 41 [(0, .ref r0)] [vI z1259] _ H _
                  have y1267 := xre_y (B := B) (n := n) (q := q) 3 1574484 rfl (by decide) (by omega)
                  refine wp_of e189 c189_41 (rw_if_ne (p1 := 62) (p2 := 44) (by decide) rfl ⟨Int.le_trans (by decide) b1260.1, Int.le_trans b1260.2 (by decide)⟩ (fun c1268 => ?_) (fun c1268 => ?_))
                  · refine wp_of e189 c189_62 (rw_iconst (pc' := 63) rfl ?_)
                    exact wp_zreturn e189 c189_63 rfl (by omega) ⟨rfl, rfl, 0, rfl, ⟨by decide, by decide⟩, (Or.inr ⟨by omega, by omega⟩)⟩
                  · exfalso
                    omega
                · show wp _ _ 189 41 [(0, .ref r0)] [vI z1259] _ H _
                  have y1269 := xre_n (B := B) (n := n) (q := q) 3 1574484 rfl (by decide) (by omega)
                  refine wp_of e189 c189_41 (rw_if_ne (p1 := 62) (p2 := 44) (by decide) rfl ⟨Int.le_trans (by decide) b1260.1, Int.le_trans b1260.2 (by decide)⟩ (fun c1270 => ?_) (fun c1270 => ?_))
                  · exfalso
                    omega
                  · refine wp_of e189 c189_44 (rw_aload_n (pc' := 45) (v := .ref r0) rfl rfl rfl ?_)
                    refine wp_of e189 c189_45 (rw_ldcS (pc' := 47) (k := 79) rfl rfl rfl rfl ?_)
                    refine wp_of e189 c189_47 (xc_V (pc' := 50) (r := r0) (as := [.ref 79]) (st := []) (lm_9_114) rfl rfl (Nat.le_of_ble_eq_true rfl) hW g0 sh_42 (by decide) rfl (by decide) (u_178_k (B := B) (n := n) (q := q) (kk := 81486) hW g0 rfl (by decide +kernel) hRC_r0) (fun R1271 T1272 H1273 p1274 => ?_))
                    obtain ⟨e1275, e1277, z1278, e1276, b1279, p1280⟩ := p1274
                    subst e1275
                    subst e1276
                    subst e1277
                    rcases p1280 with ⟨a1281, a1282, a1283⟩ | ⟨a1284, a1285⟩
                    · show wp _ _ 189 50 [(0, .ref r0)] [vI z1278] _ H _
                      have y1286 := xre_y (B := B) (n := n) (q := q) 4 81486 rfl (by decide) (by omega)
                      refine wp_of e189 c189_50 (rw_if_ne (p1 := 62) (p2 := 53) (by decide) rfl ⟨Int.le_trans (by decide) b1279.1, Int.le_trans b1279.2 (by decide)⟩ (fun c1287 => ?_) (fun c1287 => ?_))
                      · refine wp_of e189 c189_62 (rw_iconst (pc' := 63) rfl ?_)
                        exact wp_zreturn e189 c189_63 rfl (by omega) ⟨rfl, rfl, 0, rfl, ⟨by decide, by decide⟩, (Or.inr ⟨by omega, by omega⟩)⟩
                      · exfalso
                        omega
                    · show wp _ _ 189 50 [(0, .ref r0)] [vI z1278] _ H _
                      have y1288 := xre_n (B := B) (n := n) (q := q) 4 81486 rfl (by decide) (by omega)
                      refine wp_of e189 c189_50 (rw_if_ne (p1 := 62) (p2 := 53) (by decide) rfl ⟨Int.le_trans (by decide) b1279.1, Int.le_trans b1279.2 (by decide)⟩ (fun c1289 => ?_) (fun c1289 => ?_))
                      · exfalso
                        omega
                      · refine wp_of e189 c189_53 (rw_aload_n (pc' := 54) (v := .ref r0) rfl rfl rfl ?_)
                        refine wp_of e189 c189_54 (rw_ldcS (pc' := 56) (k := 80) rfl rfl rfl rfl ?_)
                        refine wp_of e189 c189_56 (xc_V (pc' := 59) (r := r0) (as := [.ref 80]) (st := []) (lm_9_114) rfl rfl (Nat.le_of_ble_eq_true rfl) hW g0 sh_42 (by decide) rfl (by decide) (u_178_k (B := B) (n := n) (q := q) (kk := 659117163) hW g0 rfl (by decide +kernel) hRC_r0) (fun R1290 T1291 H1292 p1293 => ?_))
                        obtain ⟨e1294, e1296, z1297, e1295, b1298, p1299⟩ := p1293
                        subst e1294
                        subst e1295
                        subst e1296
                        rcases p1299 with ⟨a1300, a1301, a1302⟩ | ⟨a1303, a1304⟩
                        · show wp _ _ 189 59 [(0, .ref r0)] [vI z1297] _ H _
                          have y1305 := xre_y (B := B) (n := n) (q := q) 5 659117163 rfl (by decide) (by omega)
                          refine wp_of e189 c189_59 (rw_if_eq (p1 := 64) (p2 := 62) (by decide) rfl ⟨Int.le_trans (by decide) b1298.1, Int.le_trans b1298.2 (by decide)⟩ (fun c1306 => ?_) (fun c1306 => ?_))
                          · exfalso
                            omega
                          · refine wp_of e189 c189_62 (rw_iconst (pc' := 63) rfl ?_)
                            exact wp_zreturn e189 c189_63 rfl (by omega) ⟨rfl, rfl, 0, rfl, ⟨by decide, by decide⟩, (Or.inr ⟨by omega, by omega⟩)⟩
                        · show wp _ _ 189 59 [(0, .ref r0)] [vI z1297] _ H _
                          have y1307 := xre_n (B := B) (n := n) (q := q) 5 659117163 rfl (by decide) (by omega)
                          refine wp_of e189 c189_59 (rw_if_eq (p1 := 64) (p2 := 62) (by decide) rfl ⟨Int.le_trans (by decide) b1298.1, Int.le_trans b1298.2 (by decide)⟩ (fun c1308 => ?_) (fun c1308 => ?_))
                          · refine wp_of e189 c189_64 (rw_aload_n (pc' := 65) (v := .ref r0) rfl rfl rfl ?_)
                            refine wp_of e189 c189_65 (rw_ldcS (pc' := 67) (k := 81) rfl rfl rfl rfl ?_)
                            refine wp_of e189 c189_67 (xc_V (pc' := 70) (r := r0) (as := [.ref 81]) (st := []) (lm_9_114) rfl rfl (Nat.le_of_ble_eq_true rfl) hW g0 sh_42 (by decide) rfl (by decide) (u_178_k (B := B) (n := n) (q := q) (kk := 671108) hW g0 rfl (by decide +kernel) hRC_r0) (fun R1309 T1310 H1311 p1312 => ?_))
                            obtain ⟨e1313, e1315, z1316, e1314, b1317, p1318⟩ := p1312
                            subst e1313
                            subst e1314
                            subst e1315
                            rcases p1318 with ⟨a1319, a1320, a1321⟩ | ⟨a1322, a1323⟩
                            · show wp _ _ 189 70 [(0, .ref r0)] [vI z1316] _ H _
                              have y1324 := xre_y (B := B) (n := n) (q := q) 6 671108 rfl (by decide) (by omega)
                              refine wp_of e189 c189_70 (rw_if_ne (p1 := 113) (p2 := 73) (by decide) rfl ⟨Int.le_trans (by decide) b1317.1, Int.le_trans b1317.2 (by decide)⟩ (fun c1325 => ?_) (fun c1325 => ?_))
                              · refine wp_of e189 c189_113 (rw_iconst (pc' := 114) rfl ?_)
                                exact wp_zreturn e189 c189_114 rfl (by omega) ⟨rfl, rfl, 0, rfl, ⟨by decide, by decide⟩, (Or.inr ⟨by omega, by omega⟩)⟩
                              · exfalso
                                omega
                            · show wp _ _ 189 70 [(0, .ref r0)] [vI z1316] _ H _
                              have y1326 := xre_n (B := B) (n := n) (q := q) 6 671108 rfl (by decide) (by omega)
                              refine wp_of e189 c189_70 (rw_if_ne (p1 := 113) (p2 := 73) (by decide) rfl ⟨Int.le_trans (by decide) b1317.1, Int.le_trans b1317.2 (by decide)⟩ (fun c1327 => ?_) (fun c1327 => ?_))
                              · exfalso
                                omega
                              · refine wp_of e189 c189_73 (rw_aload_n (pc' := 74) (v := .ref r0) rfl rfl rfl ?_)
                                refine wp_of e189 c189_74 (rw_ldcS (pc' := 76) (k := 82) rfl rfl rfl rfl ?_)
                                refine wp_of e189 c189_76 (xc_V (pc' := 79) (r := r0) (as := [.ref 82]) (st := []) (lm_9_114) rfl rfl (Nat.le_of_ble_eq_true rfl) hW g0 sh_42 (by decide) rfl (by decide) (u_178_k (B := B) (n := n) (q := q) (kk := 15931570) hW g0 rfl (by decide +kernel) hRC_r0) (fun R1328 T1329 H1330 p1331 => ?_))
                                obtain ⟨e1332, e1334, z1335, e1333, b1336, p1337⟩ := p1331
                                subst e1332
                                subst e1333
                                subst e1334
                                rcases p1337 with ⟨a1338, a1339, a1340⟩ | ⟨a1341, a1342⟩
                                · show wp _ _ 189 79 [(0, .ref r0)] [vI z1335] _ H _
                                  have y1343 := xre_y (B := B) (n := n) (q := q) 7 15931570 rfl (by decide) (by omega)
                                  refine wp_of e189 c189_79 (rw_if_ne (p1 := 113) (p2 := 82) (by decide) rfl ⟨Int.le_trans (by decide) b1336.1, Int.le_trans b1336.2 (by decide)⟩ (fun c1344 => ?_) (fun c1344 => ?_))
                                  · refine wp_of e189 c189_113 (rw_iconst (pc' := 114) rfl ?_)
                                    exact wp_zreturn e189 c189_114 rfl (by omega) ⟨rfl, rfl, 0, rfl, ⟨by decide, by decide⟩, (Or.inr ⟨by omega, by omega⟩)⟩
                                  · exfalso
                                    omega
                                · show wp _ _ 189 79 [(0, .ref r0)] [vI z1335] _ H _
                                  have y1345 := xre_n (B := B) (n := n) (q := q) 7 15931570 rfl (by decide) (by omega)
                                  refine wp_of e189 c189_79 (rw_if_ne (p1 := 113) (p2 := 82) (by decide) rfl ⟨Int.le_trans (by decide) b1336.1, Int.le_trans b1336.2 (by decide)⟩ (fun c1346 => ?_) (fun c1346 => ?_))
                                  · exfalso
                                    omega
                                  · refine wp_of e189 c189_82 (rw_aload_n (pc' := 83) (v := .ref r0) rfl rfl rfl ?_)
                                    refine wp_of e189 c189_83 (rw_ldcS (pc' := 85) (k := 83) rfl rfl rfl rfl ?_)
                                    refine wp_of e189 c189_85 (xc_V (pc' := 88) (r := r0) (as := [.ref 83]) (st := []) (lm_9_114) rfl rfl (Nat.le_of_ble_eq_true rfl) hW g0 sh_42 (by decide) rfl (by decide) (u_178_k (B := B) (n := n) (q := q) (kk := 8423732) hW g0 rfl (by decide +kernel) hRC_r0) (fun R1347 T1348 H1349 p1350 => ?_))
                                    obtain ⟨e1351, e1353, z1354, e1352, b1355, p1356⟩ := p1350
                                    subst e1351
                                    subst e1352
                                    subst e1353
                                    rcases p1356 with ⟨a1357, a1358, a1359⟩ | ⟨a1360, a1361⟩
                                    · show wp _ _ 189 88 [(0, .ref r0)] [vI z1354] _ H _
                                      have y1362 := xre_y (B := B) (n := n) (q := q) 8 8423732 rfl (by decide) (by omega)
                                      refine wp_of e189 c189_88 (rw_if_ne (p1 := 113) (p2 := 91) (by decide) rfl ⟨Int.le_trans (by decide) b1355.1, Int.le_trans b1355.2 (by decide)⟩ (fun c1363 => ?_) (fun c1363 => ?_))
                                      · refine wp_of e189 c189_113 (rw_iconst (pc' := 114) rfl ?_)
                                        exact wp_zreturn e189 c189_114 rfl (by omega) ⟨rfl, rfl, 0, rfl, ⟨by decide, by decide⟩, (Or.inr ⟨by omega, by omega⟩)⟩
                                      · exfalso
                                        omega
                                    · show wp _ _ 189 88 [(0, .ref r0)] [vI z1354] _ H _
                                      have y1364 := xre_n (B := B) (n := n) (q := q) 8 8423732 rfl (by decide) (by omega)
                                      refine wp_of e189 c189_88 (rw_if_ne (p1 := 113) (p2 := 91) (by decide) rfl ⟨Int.le_trans (by decide) b1355.1, Int.le_trans b1355.2 (by decide)⟩ (fun c1365 => ?_) (fun c1365 => ?_))
                                      · exfalso
                                        omega
                                      · refine wp_of e189 c189_91 (rw_aload_n (pc' := 92) (v := .ref r0) rfl rfl rfl ?_)
                                        refine wp_of e189 c189_92 (rw_ldcS (pc' := 94) (k := 84) rfl rfl rfl rfl ?_)
                                        refine wp_of e189 c189_94 (xc_V (pc' := 97) (r := r0) (as := [.ref 84]) (st := []) (lm_9_114) rfl rfl (Nat.le_of_ble_eq_true rfl) hW g0 sh_42 (by decide) rfl (by decide) (u_178_k (B := B) (n := n) (q := q) (kk := 14384) hW g0 rfl (by decide +kernel) hRC_r0) (fun R1366 T1367 H1368 p1369 => ?_))
                                        obtain ⟨e1370, e1372, z1373, e1371, b1374, p1375⟩ := p1369
                                        subst e1370
                                        subst e1371
                                        subst e1372
                                        rcases p1375 with ⟨a1376, a1377, a1378⟩ | ⟨a1379, a1380⟩
                                        · show wp _ _ 189 97 [(0, .ref r0)] [vI z1373] _ H _
                                          have y1381 := xre_y (B := B) (n := n) (q := q) 9 14384 rfl (by decide) (by omega)
                                          refine wp_of e189 c189_97 (rw_if_ne (p1 := 113) (p2 := 100) (by decide) rfl ⟨Int.le_trans (by decide) b1374.1, Int.le_trans b1374.2 (by decide)⟩ (fun c1382 => ?_) (fun c1382 => ?_))
                                          · refine wp_of e189 c189_113 (rw_iconst (pc' := 114) rfl ?_)
                                            exact wp_zreturn e189 c189_114 rfl (by omega) ⟨rfl, rfl, 0, rfl, ⟨by decide, by decide⟩, (Or.inr ⟨by omega, by omega⟩)⟩
                                          · exfalso
                                            omega
                                        · show wp _ _ 189 97 [(0, .ref r0)] [vI z1373] _ H _
                                          have y1383 := xre_n (B := B) (n := n) (q := q) 9 14384 rfl (by decide) (by omega)
                                          refine wp_of e189 c189_97 (rw_if_ne (p1 := 113) (p2 := 100) (by decide) rfl ⟨Int.le_trans (by decide) b1374.1, Int.le_trans b1374.2 (by decide)⟩ (fun c1384 => ?_) (fun c1384 => ?_))
                                          · exfalso
                                            omega
                                          · refine wp_of e189 c189_100 (rw_aload_n (pc' := 101) (v := .ref r0) rfl rfl rfl ?_)
                                            refine wp_of e189 c189_101 (rw_ldcS (pc' := 103) (k := 85) rfl rfl rfl rfl ?_)
                                            refine wp_of e189 c189_103 (xc_V (pc' := 106) (r := r0) (as := [.ref 85]) (st := []) (lm_9_114) rfl rfl (Nat.le_of_ble_eq_true rfl) hW g0 sh_42 (by decide) rfl (by decide) (u_178_k (B := B) (n := n) (q := q) (kk := 56377) hW g0 rfl (by decide +kernel) hRC_r0) (fun R1385 T1386 H1387 p1388 => ?_))
                                            obtain ⟨e1389, e1391, z1392, e1390, b1393, p1394⟩ := p1388
                                            subst e1389
                                            subst e1390
                                            subst e1391
                                            rcases p1394 with ⟨a1395, a1396, a1397⟩ | ⟨a1398, a1399⟩
                                            · show wp _ _ 189 106 [(0, .ref r0)] [vI z1392] _ H _
                                              have y1400 := xre_y (B := B) (n := n) (q := q) 10 56377 rfl (by decide) (by omega)
                                              refine wp_of e189 c189_106 (rw_if_ne (p1 := 113) (p2 := 109) (by decide) rfl ⟨Int.le_trans (by decide) b1393.1, Int.le_trans b1393.2 (by decide)⟩ (fun c1401 => ?_) (fun c1401 => ?_))
                                              · refine wp_of e189 c189_113 (rw_iconst (pc' := 114) rfl ?_)
                                                exact wp_zreturn e189 c189_114 rfl (by omega) ⟨rfl, rfl, 0, rfl, ⟨by decide, by decide⟩, (Or.inr ⟨by omega, by omega⟩)⟩
                                              · exfalso
                                                omega
                                            · show wp _ _ 189 106 [(0, .ref r0)] [vI z1392] _ H _
                                              have y1402 := xre_n (B := B) (n := n) (q := q) 10 56377 rfl (by decide) (by omega)
                                              refine wp_of e189 c189_106 (rw_if_ne (p1 := 113) (p2 := 109) (by decide) rfl ⟨Int.le_trans (by decide) b1393.1, Int.le_trans b1393.2 (by decide)⟩ (fun c1403 => ?_) (fun c1403 => ?_))
                                              · exfalso
                                                omega
                                              · refine wp_of e189 c189_109 (rw_iconst (pc' := 110) rfl ?_)
                                                refine wp_of e189 c189_110 (rw_goto (p1 := 114) (by decide) ?_)
                                                exact wp_zreturn e189 c189_114 rfl (by omega) ⟨rfl, rfl, 1, rfl, ⟨by decide, by decide⟩, (Or.inl ⟨by omega, by omega, by omega, by omega⟩)⟩
                          · exfalso
                            omega
/-! StrikeAwakeModel.isName()Z o -/
abbrev uq_189_o (r0 : Nat) (fo : Int) (po : Int) (T : wq_T) (H : wq_H) : Option Value → wq_T → wq_H → Prop := fun r T' H' => T = T' ∧ H = H' ∧ ∃ z : Int, some (vI z) = r ∧ (0 ≤ z ∧ z ≤ 1) ∧ (((z = 0)))
set_option maxHeartbeats 4000000 in
theorem u_189_o {kt : Nat → Option mc_E} {T : wq_T} {H : wq_H} {r0 : Nat} {fo : Int} {po : Int} (hW : WT T H) (g0 : T.2.2.2 r0 = some 42) (hRO_r0 : RO T H r0 fo po) : wpc kt 3 189 [.ref r0] T H (uq_189_o r0 fo po T H) := by
  refine wp_enter e189 (Nat.le_of_ble_eq_true rfl) rfl ?_
  show wp _ _ 189 0 [(0, .ref r0)] [] _ H _
  have u1004 := RO_k hRO_r0
  refine wp_of e189 c189_0 (rw_aload_n (pc' := 1) (v := .ref r0) rfl rfl rfl ?_)
  refine wp_of e189 c189_1 (xg_I (pc' := 4) lf_9_75 hW g0 sh_42 (by decide) (by decide) ty_42_9 rfl rfl (fun b1005 b1006 => ?_))
  refine wp_of e189 c189_4 (rw_iconst (pc' := 5) rfl ?_)
  refine wp_of e189 c189_5 (rw_icmp_ne (p1 := 62) (p2 := 8) (by decide) rfl ⟨Int.le_trans (by decide) b1005, Int.le_trans b1006 (by decide)⟩ ⟨by decide, by decide⟩ (fun c1007 => ?_) (fun c1007 => ?_))
  · refine wp_of e189 c189_62 (rw_iconst (pc' := 63) rfl ?_)
    exact wp_zreturn e189 c189_63 rfl (by omega) ⟨rfl, rfl, 0, rfl, ⟨by decide, by decide⟩, (by omega)⟩
  · exfalso
    omega
/-! StrikeAwakeModel.begins(II)V k -/
abbrev uq_188_k (r0 : Nat) (a1 : Int) (a2 : Int) (rb : Nat) (B : Nat → Int) (n : Int) (q : Int) (T : wq_T) (H : wq_H) : Option Value → wq_T → wq_H → Prop := fun r T' H' => T = T' ∧ WT T H' ∧ wfr [(42, 8), (42, 9), (42, 10), (42, 11), (42, 12), (42, 13), (42, 14), (42, 15)] T H H' ∧ none = r ∧ (((a1 ≠ a2) ∧ RC T H' r0 B n (xN B n q)) ∨ ((a1 = a2) ∧ RO T H' r0 (5) q))
set_option maxHeartbeats 4000000 in
theorem u_188_k {kt : Nat → Option mc_E} {T : wq_T} {H : wq_H} {r0 : Nat} {a1 : Int} {a2 : Int} {rb : Nat} {B : Nat → Int} {n : Int} {q : Int} (hW : WT T H) (g0 : T.2.2.2 r0 = some 42) (i1 : (-2147483648) ≤ a1 ∧ a1 ≤ 2147483647) (i2 : (-2147483648) ≤ a2 ∧ a2 ≤ 2147483647) (qrb : H r0 5 = (rb : Int)) (grb : T.2.2.2 rb = some 43) (p0 : xK B n q = 1) (hRC_r0 : RC T H r0 B n q) : wpc kt 3 188 [.ref r0, vI a1, vI a2] T H (uq_188_k r0 a1 a2 rb B n q T H) := by
  refine wp_enter e188 (Nat.le_of_ble_eq_true rfl) rfl ?_
  have f0 : wfr [(42, 8), (42, 9), (42, 10), (42, 11), (42, 12), (42, 13), (42, 14), (42, 15)] T H H := wfr.rf
  show wp _ _ 188 0 [(0, .ref r0), (1, vI a1), (2, vI a2)] [] _ H _
  have u1033 := RC_k hRC_r0
  refine wp_of e188 c188_0 (rw_iload_n (pc' := 1) (z := a1) rfl rfl ?_)
  refine wp_of e188 c188_1 (rw_iload_n (pc' := 2) (z := a2) rfl rfl ?_)
  refine wp_of e188 c188_2 (rw_icmp_ne (p1 := 10) (p2 := 5) (by decide) rfl ⟨i1.1, i1.2⟩ ⟨i2.1, i2.2⟩ (fun c1034 => ?_) (fun c1034 => ?_))
  · refine wp_of e188 c188_10 (rw_aload_n (pc' := 11) (v := .ref r0) rfl rfl rfl ?_)
    have u1035 := RC_a hRC_r0
    have h1036 : TM T H rb B := RC_tm hRC_r0 qrb
    refine wp_of e188 c188_11 (xc_V (pc' := 14) (r := r0) (as := []) (st := []) (lm_9_118) rfl rfl (Nat.le_of_ble_eq_true rfl) hW g0 sh_42 (by decide) rfl (by decide) (u_172_k (B := B) (n := n) (a := (xE B n q)) (q := (xN B n q)) hW g0 qrb grb (by omega) (by omega) (by omega) (by omega) (by omega) (rfl) h1036) (fun R1037 T1038 H1039 p1040 => ?_))
    obtain ⟨e1041, w1043, f1044, e1042, p1045⟩ := p1040
    subst e1041
    subst e1042
    have f1047 := f0.tr f1044 rfl
    show wp _ _ 188 14 [(0, .ref r0), (1, vI a1), (2, vI a2)] [] _ H1039 _
    have u1048 := RC_k p1045
    exact wp_return e188 c188_14 rfl ⟨rfl, w1043, f1047, rfl, (Or.inl ⟨by omega, p1045⟩)⟩
  · refine wp_of e188 c188_5 (rw_aload_n (pc' := 6) (v := .ref r0) rfl rfl rfl ?_)
    refine wp_of e188 c188_6 (rw_iconst (pc' := 7) rfl ?_)
    refine wp_of e188 c188_7 (xc_V (pc' := 10) (r := r0) (as := [vI 5]) (st := []) (lm_9_121) rfl rfl (Nat.le_of_ble_eq_true rfl) hW g0 sh_42 (by decide) rfl (by decide) (u_181_k (B := B) (n := n) (q := q) hW g0 ⟨by decide, by decide⟩ (by omega) hRC_r0) (fun R1049 T1050 H1051 p1052 => ?_))
    obtain ⟨e1053, w1055, f1056, e1054, p1057⟩ := p1052
    subst e1053
    subst e1054
    have f1059 := f0.tr f1056 rfl
    show wp _ _ 188 10 [(0, .ref r0), (1, vI a1), (2, vI a2)] [] _ H1051 _
    have u1060 := RO_k p1057
    refine wp_of e188 c188_10 (rw_aload_n (pc' := 11) (v := .ref r0) rfl rfl rfl ?_)
    refine wp_of e188 c188_11 (xc_V (pc' := 14) (r := r0) (as := []) (st := []) (lm_9_118) rfl rfl (Nat.le_of_ble_eq_true rfl) w1055 g0 sh_42 (by decide) rfl (by decide) (u_172_o (fo := 5) (po := q) w1055 g0 p1057) (fun R1061 T1062 H1063 p1064 => ?_))
    obtain ⟨e1065, e1067, e1066, p1068⟩ := p1064
    subst e1065
    subst e1066
    subst e1067
    show wp _ _ 188 14 [(0, .ref r0), (1, vI a1), (2, vI a2)] [] _ H1051 _
    have u1070 := RO_k p1068
    exact wp_return e188 c188_14 rfl ⟨rfl, w1055, f1059, rfl, (Or.inr ⟨by omega, RO_eq p1068 (by omega) (by omega)⟩)⟩
/-! StrikeAwakeModel$Parish.find(J)I k -/
abbrev uq_190_k (r0 : Nat) (a1 : Int) (mm : Nat) (d : xD) (y : Int) (T : wq_T) (H : wq_H) : Option Value → wq_T → wq_H → Prop := fun r T' H' => T = T' ∧ H = H' ∧ ∃ z : Int, some (vI z) = r ∧ ((-1) ≤ z ∧ z ≤ 5) ∧ (((-1 ≤ z ∧ z ≤ 5) ∧ (z = xfi (d 1) (d 0 3) y)))
set_option maxHeartbeats 4000000 in
theorem u_190_k {kt : Nat → Option mc_E} {T : wq_T} {H : wq_H} {r0 : Nat} {a1 : Int} {mm : Nat} {d : xD} {y : Int} (hW : WT T H) (g0 : T.2.2.2 r0 = some 54) (i1 : (-9223372036854775808) ≤ a1 ∧ a1 ≤ 9223372036854775807) (p0 : a1 = y) (hDM_r0 : DM T H r0 mm d) : wpc kt 1 190 [.ref r0, vL a1] T H (uq_190_k r0 a1 mm d y T H) := by
  refine wp_enter e190 (Nat.le_of_ble_eq_true rfl) rfl ?_
  show wp _ _ 190 0 [(0, .ref r0), (1, vL a1)] [] _ H _
  have u1090 := DM_k hDM_r0
  have h1091 : MA9 T H r0 (d 1) := hDM_r0.2.2.2.1
  refine wp_of e190 c190_0 (rw_iconst (pc' := 1) rfl ?_)
  refine wp_of e190 c190_1 (rw_istore_n (pc' := 2) (z := 0) (L' := [(3, vI 0), (0, .ref r0), (1, vL a1)]) rfl rfl rfl ?_)
  have lp1169 : ∀ (n1170 : Nat) (v1172 : Int), (0 ≤ v1172 ∧ v1172 ≤ 6) → (xfr (d 1) (d 0 3) y v1172 = xfi (d 1) (d 0 3) y) → (6 - v1172).toNat = n1170 → wp kt 0 190 2 [(3, vI v1172), (0, .ref r0), (1, vL a1)] [] T H (uq_190_k r0 a1 mm d y T H) := by
    intro n1170
    induction n1170 using Nat.strongRecOn with
    | _ n1170 ih1171 =>
      intro v1172 b1175 x1176 m1177
      refine wp_of e190 c190_2 (rw_iload_n (pc' := 3) (z := v1172) rfl rfl ?_)
      refine wp_of e190 c190_3 (rw_aload_n (pc' := 4) (v := .ref r0) rfl rfl rfl ?_)
      refine wp_of e190 c190_4 (xg_I (pc' := 7) lf_10_72 hW g0 sh_54 (by decide) (by decide) ty_54_3 rfl rfl (fun b1178 b1179 => ?_))
      refine wp_of e190 c190_7 (rw_icmp_ge (p1 := 29) (p2 := 10) (by decide) rfl ⟨Int.le_trans (by decide) b1175.1, Int.le_trans b1175.2 (by decide)⟩ ⟨Int.le_trans (by decide) b1178, Int.le_trans b1179 (by decide)⟩ (fun c1180 => ?_) (fun c1180 => ?_))
      · have := @xfr_n (d 1) (d 0 3) y v1172 (by omega)
        refine wp_of e190 c190_29 (rw_iconst (pc' := 30) rfl ?_)
        exact wp_ireturn e190 c190_30 rfl ⟨rfl, rfl, -1, rfl, ⟨by decide, by decide⟩, ⟨by omega, by omega⟩⟩
      · refine wp_of e190 c190_10 (rw_aload_n (pc' := 11) (v := .ref r0) rfl rfl rfl ?_)
        refine wp_of e190 c190_11 (xg_R (pc' := 14) lf_10_15 hW g0 sh_54 (by decide) (by decide) ty_54_9 rfl rfl (fun r1181 q1182 g1183 => ?_))
        refine wp_of e190 c190_14 (rw_iload_n (pc' := 15) (z := v1172) rfl rfl ?_)
        refine wp_of e190 c190_15 (xa_L (pc' := 16) hW g1183 sh_55 (by decide) (ty_55 _) (b1175.1) (by omega) rfl (fun b1184 b1185 => ?_))
        have := MA_at h1091 q1182 (k := (v1172.toNat)) (by omega)
        refine wp_of e190 c190_16 (rw_lload_n (pc' := 17) (z := a1) rfl rfl ?_)
        refine wp_of e190 c190_17 (rw_lcmp (pc' := 18) rfl ⟨b1184, b1185⟩ ⟨i1.1, i1.2⟩ ?_)
        have b1186 := wq_cmp_b (H r1181 (v1172.toNat)) a1
        refine wp_of e190 c190_18 (rw_if_ne (p1 := 23) (p2 := 21) (by decide) rfl ⟨by omega, by omega⟩ (fun c1187 => ?_) (fun c1187 => ?_))
        · have := @xfr_s (d 1) (d 0 3) y v1172 (by omega) (by omega)
          refine wp_of e190 c190_23 (rw_iinc (pc' := 26) (z := v1172) (L' := [(3, vI (v1172 + 1)), (0, .ref r0), (1, vL a1)]) rfl rfl rfl rfl ?_)
          refine wp_of e190 c190_26 (rw_goto (p1 := 2) (by decide) ?_)
          exact wp_lc (ks := [3, 0, 1]) (wl_c rfl (wl_c rfl (wl_c rfl wl_n))) rfl (by decide) (ih1171 _ (by omega) (v1172 + 1) ⟨by omega, by omega⟩ (by omega) rfl)
        · have := @xfr_e (d 1) (d 0 3) y v1172 (by omega) (by omega)
          refine wp_of e190 c190_21 (rw_iload_n (pc' := 22) (z := v1172) rfl rfl ?_)
          exact wp_ireturn e190 c190_22 rfl ⟨rfl, rfl, v1172, rfl, ⟨Int.le_trans (by decide) b1175.1, by omega⟩, ⟨by omega, by omega⟩⟩
  have : xfr (d 1) (d 0 3) y 0 = xfi (d 1) (d 0 3) y := rfl
  exact wp_lc (ks := [3, 0, 1]) (wl_c rfl (wl_c rfl (wl_c rfl wl_n))) rfl (by decide) (lp1169 _ 0 ⟨by decide, by decide⟩ (by omega) rfl)
/-! StrikeAwakeModel$Parish.find(J)I o -/
abbrev uq_190_o (r0 : Nat) (a1 : Int) (T : wq_T) (H : wq_H) : Option Value → wq_T → wq_H → Prop := fun r T' H' => T = T' ∧ H = H' ∧ ∃ z : Int, some (vI z) = r ∧ ((-1) ≤ z ∧ z ≤ 5) ∧ (((-1 ≤ z ∧ z ≤ 5)))
set_option maxHeartbeats 4000000 in
theorem u_190_o {kt : Nat → Option mc_E} {T : wq_T} {H : wq_H} {r0 : Nat} {a1 : Int} (hW : WT T H) (g0 : T.2.2.2 r0 = some 54) (i1 : (-9223372036854775808) ≤ a1 ∧ a1 ≤ 9223372036854775807) : wpc kt 1 190 [.ref r0, vL a1] T H (uq_190_o r0 a1 T H) := by
  refine wp_enter e190 (Nat.le_of_ble_eq_true rfl) rfl ?_
  show wp _ _ 190 0 [(0, .ref r0), (1, vL a1)] [] _ H _
  refine wp_of e190 c190_0 (rw_iconst (pc' := 1) rfl ?_)
  refine wp_of e190 c190_1 (rw_istore_n (pc' := 2) (z := 0) (L' := [(3, vI 0), (0, .ref r0), (1, vL a1)]) rfl rfl rfl ?_)
  have lp1152 : ∀ (n1153 : Nat) (v1155 : Int), (0 ≤ v1155 ∧ v1155 ≤ 6) → (6 - v1155).toNat = n1153 → wp kt 0 190 2 [(3, vI v1155), (0, .ref r0), (1, vL a1)] [] T H (uq_190_o r0 a1 T H) := by
    intro n1153
    induction n1153 using Nat.strongRecOn with
    | _ n1153 ih1154 =>
      intro v1155 b1158 m1159
      refine wp_of e190 c190_2 (rw_iload_n (pc' := 3) (z := v1155) rfl rfl ?_)
      refine wp_of e190 c190_3 (rw_aload_n (pc' := 4) (v := .ref r0) rfl rfl rfl ?_)
      refine wp_of e190 c190_4 (xg_I (pc' := 7) lf_10_72 hW g0 sh_54 (by decide) (by decide) ty_54_3 rfl rfl (fun b1160 b1161 => ?_))
      refine wp_of e190 c190_7 (rw_icmp_ge (p1 := 29) (p2 := 10) (by decide) rfl ⟨Int.le_trans (by decide) b1158.1, Int.le_trans b1158.2 (by decide)⟩ ⟨Int.le_trans (by decide) b1160, Int.le_trans b1161 (by decide)⟩ (fun c1162 => ?_) (fun c1162 => ?_))
      · refine wp_of e190 c190_29 (rw_iconst (pc' := 30) rfl ?_)
        exact wp_ireturn e190 c190_30 rfl ⟨rfl, rfl, -1, rfl, ⟨by decide, by decide⟩, (by omega)⟩
      · refine wp_of e190 c190_10 (rw_aload_n (pc' := 11) (v := .ref r0) rfl rfl rfl ?_)
        refine wp_of e190 c190_11 (xg_R (pc' := 14) lf_10_15 hW g0 sh_54 (by decide) (by decide) ty_54_9 rfl rfl (fun r1163 q1164 g1165 => ?_))
        refine wp_of e190 c190_14 (rw_iload_n (pc' := 15) (z := v1155) rfl rfl ?_)
        refine wp_of e190 c190_15 (xa_L (pc' := 16) hW g1165 sh_55 (by decide) (ty_55 _) (b1158.1) (by omega) rfl (fun b1166 b1167 => ?_))
        refine wp_of e190 c190_16 (rw_lload_n (pc' := 17) (z := a1) rfl rfl ?_)
        refine wp_of e190 c190_17 (rw_lcmp (pc' := 18) rfl ⟨b1166, b1167⟩ ⟨i1.1, i1.2⟩ ?_)
        have b1168 := wq_cmp_b (H r1163 (v1155.toNat)) a1
        refine wp_of e190 c190_18 (rw_if_ne (p1 := 23) (p2 := 21) (by decide) rfl ⟨by omega, by omega⟩ (fun c1169 => ?_) (fun c1169 => ?_))
        · refine wp_of e190 c190_23 (rw_iinc (pc' := 26) (z := v1155) (L' := [(3, vI (v1155 + 1)), (0, .ref r0), (1, vL a1)]) rfl rfl rfl rfl ?_)
          refine wp_of e190 c190_26 (rw_goto (p1 := 2) (by decide) ?_)
          exact wp_lc (ks := [3, 0, 1]) (wl_c rfl (wl_c rfl (wl_c rfl wl_n))) rfl (by decide) (ih1154 _ (by omega) (v1155 + 1) ⟨by omega, by omega⟩ rfl)
        · refine wp_of e190 c190_21 (rw_iload_n (pc' := 22) (z := v1155) rfl rfl ?_)
          exact wp_ireturn e190 c190_22 rfl ⟨rfl, rfl, v1155, rfl, ⟨Int.le_trans (by decide) b1158.1, by omega⟩, (by omega)⟩
  exact wp_lc (ks := [3, 0, 1]) (wl_c rfl (wl_c rfl (wl_c rfl wl_n))) rfl (by decide) (lp1152 _ 0 ⟨by decide, by decide⟩ rfl)
/-! StrikeAwakeModel.known()I k -/
abbrev uq_195_k (r0 : Nat) (rp : Nat) (B : Nat → Int) (n : Int) (q : Int) (d : xD) (T : wq_T) (H : wq_H) : Option Value → wq_T → wq_H → Prop := fun r T' H' => T = T' ∧ WT T H' ∧ wfr [(42, 9), (42, 13), (42, 14)] T H H' ∧ ∃ z : Int, some (vI z) = r ∧ (0 ≤ z ∧ z ≤ 5) ∧ (((0 ≤ z ∧ z ≤ 5) ∧ (xkn B n q d = 0) ∧ (z = xwho B n q d) ∧ (z < d 0 3) ∧ (xK B n q = 1) ∧ RC T H' r0 B n q) ∨ ((z = 0) ∧ (xkn B n q d ≠ 0) ∧ RO T H' r0 (xkn B n q d) q))
set_option maxHeartbeats 4000000 in
theorem u_195_k {kt : Nat → Option mc_E} {T : wq_T} {H : wq_H} {r0 : Nat} {rp : Nat} {B : Nat → Int} {n : Int} {q : Int} {d : xD} (hW : WT T H) (g0 : T.2.2.2 r0 = some 42) (qrp : H r0 4 = (rp : Int)) (grp : T.2.2.2 rp = some 54) (hRC_r0 : RC T H r0 B n q) (hDM_rp : DM T H rp r0 d) : wpc kt 4 195 [.ref r0] T H (uq_195_k r0 rp B n q d T H) := by
  refine wp_enter e195 (Nat.le_of_ble_eq_true rfl) rfl ?_
  have f0 : wfr [(42, 9), (42, 13), (42, 14)] T H H := wfr.rf
  show wp _ _ 195 0 [(0, .ref r0)] [] _ H _
  have u1094 := RC_k hRC_r0
  have u1095 := DM_k hDM_rp
  have _s := RC_s hRC_r0
  have _x1 := @xkn_b d B n q
  have _x2 := @xwho_e d B n q
  refine wp_of e195 c195_0 (rw_aload_n (pc' := 1) (v := .ref r0) rfl rfl rfl ?_)
  refine wp_of e195 c195_1 (xc_V (pc' := 4) (r := r0) (as := []) (st := []) (lm_9_162) rfl rfl (Nat.le_of_ble_eq_true rfl) hW g0 sh_42 (by decide) rfl (by decide) (u_189_k (B := B) (n := n) (q := q) hW g0 hRC_r0) (fun R1096 T1097 H1098 p1099 => ?_))
  obtain ⟨e1100, e1102, z1103, e1101, b1104, p1105⟩ := p1099
  subst e1100
  subst e1101
  subst e1102
  rcases p1105 with ⟨a1106, a1107, a1108, a1109⟩ | ⟨a1110, a1111⟩
  · show wp _ _ 195 4 [(0, .ref r0)] [vI z1103] _ H _
    refine wp_of e195 c195_4 (rw_if_ne (p1 := 12) (p2 := 7) (by decide) rfl ⟨Int.le_trans (by decide) b1104.1, Int.le_trans b1104.2 (by decide)⟩ (fun c1112 => ?_) (fun c1112 => ?_))
    · refine wp_of e195 c195_12 (rw_aload_n (pc' := 13) (v := .ref r0) rfl rfl rfl ?_)
      refine wp_of e195 c195_13 (xg_K (pc' := 16) lf_9_166 hW g0 sh_42 (by decide) (by decide) rfl qrp rfl ?_)
      refine wp_of e195 c195_16 (rw_aload_n (pc' := 17) (v := .ref r0) rfl rfl rfl ?_)
      refine wp_of e195 c195_17 (xg_L (pc' := 20) lf_9_94 hW g0 sh_42 (by decide) (by decide) ty_42_15 rfl rfl (fun b1113 b1114 => ?_))
      refine wp_of e195 c195_20 (xc_V (pc' := 23) (r := rp) (as := [vL (H r0 15)]) (st := []) (lm_9_170) rfl rfl (Nat.le_of_ble_eq_true rfl) hW grp sh_54 (by decide) rfl (by decide) (u_190_k (mm := r0) (d := d) (y := (xY B n q)) hW grp ⟨b1113, b1114⟩ (by omega) hDM_rp) (fun R1115 T1116 H1117 p1118 => ?_))
      obtain ⟨e1119, e1121, z1122, e1120, b1123, p1124⟩ := p1118
      subst e1119
      subst e1120
      subst e1121
      obtain ⟨a1125, a1126⟩ := p1124
      show wp _ _ 195 23 [(0, .ref r0)] [vI z1122] _ H _
      refine wp_of e195 c195_23 (rw_istore_n (pc' := 24) (z := z1122) (L' := [(1, vI z1122), (0, .ref r0)]) rfl rfl rfl ?_)
      refine wp_of e195 c195_24 (rw_iload_n (pc' := 25) (z := z1122) rfl rfl ?_)
      refine wp_of e195 c195_25 (rw_iconst (pc' := 26) rfl ?_)
      refine wp_of e195 c195_26 (rw_icmp_ne (p1 := 34) (p2 := 29) (by decide) rfl ⟨Int.le_trans (by decide) b1123.1, Int.le_trans b1123.2 (by decide)⟩ ⟨by decide, by decide⟩ (fun c1127 => ?_) (fun c1127 => ?_))
      · refine wp_of e195 c195_34 (rw_aload_n (pc' := 35) (v := .ref r0) rfl rfl rfl ?_)
        refine wp_of e195 c195_35 (xg_I (pc' := 38) lf_9_75 hW g0 sh_42 (by decide) (by decide) ty_42_9 rfl rfl (fun b1128 b1129 => ?_))
        refine wp_of e195 c195_38 (rw_iconst (pc' := 39) rfl ?_)
        refine wp_of e195 c195_39 (rw_icmp_ne (p1 := 46) (p2 := 42) (by decide) rfl ⟨Int.le_trans (by decide) b1128, Int.le_trans b1129 (by decide)⟩ ⟨by decide, by decide⟩ (fun c1130 => ?_) (fun c1130 => ?_))
        · refine wp_of e195 c195_46 (rw_iload_n (pc' := 47) (z := z1122) rfl rfl ?_)
          exact wp_ireturn e195 c195_47 rfl ⟨rfl, hW, f0, z1122, rfl, ⟨by omega, b1123.2⟩, (Or.inl ⟨by omega, by omega, by omega, by omega, by omega, hRC_r0⟩)⟩
        · exfalso
          omega
      · refine wp_of e195 c195_29 (rw_aload_n (pc' := 30) (v := .ref r0) rfl rfl rfl ?_)
        refine wp_of e195 c195_30 (rw_iconst (pc' := 31) rfl ?_)
        refine wp_of e195 c195_31 (xc_V (pc' := 34) (r := r0) (as := [vI 2]) (st := []) (lm_9_121) rfl rfl (Nat.le_of_ble_eq_true rfl) hW g0 sh_42 (by decide) rfl (by decide) (u_181_k (B := B) (n := n) (q := q) hW g0 ⟨by decide, by decide⟩ (by omega) hRC_r0) (fun R1131 T1132 H1133 p1134 => ?_))
        obtain ⟨e1135, w1137, f1138, e1136, p1139⟩ := p1134
        subst e1135
        subst e1136
        have f1141 := f0.tr f1138 rfl
        show wp _ _ 195 34 [(1, vI z1122), (0, .ref r0)] [] _ H1133 _
        have u1142 := RO_k p1139
        refine wp_of e195 c195_34 (rw_aload_n (pc' := 35) (v := .ref r0) rfl rfl rfl ?_)
        refine wp_of e195 c195_35 (xg_I (pc' := 38) lf_9_75 w1137 g0 sh_42 (by decide) (by decide) ty_42_9 rfl rfl (fun b1143 b1144 => ?_))
        refine wp_of e195 c195_38 (rw_iconst (pc' := 39) rfl ?_)
        refine wp_of e195 c195_39 (rw_icmp_ne (p1 := 46) (p2 := 42) (by decide) rfl ⟨Int.le_trans (by decide) b1143, Int.le_trans b1144 (by decide)⟩ ⟨by decide, by decide⟩ (fun c1145 => ?_) (fun c1145 => ?_))
        · exfalso
          omega
        · refine wp_of e195 c195_42 (rw_iconst (pc' := 43) rfl ?_)
          refine wp_of e195 c195_43 (rw_goto (p1 := 47) (by decide) ?_)
          exact wp_ireturn e195 c195_47 rfl ⟨rfl, w1137, f1141, 0, rfl, ⟨by decide, by decide⟩, (Or.inr ⟨by omega, by omega, RO_eq p1139 (by omega) (by omega)⟩)⟩
    · exfalso
      omega
  · show wp _ _ 195 4 [(0, .ref r0)] [vI z1103] _ H _
    refine wp_of e195 c195_4 (rw_if_ne (p1 := 12) (p2 := 7) (by decide) rfl ⟨Int.le_trans (by decide) b1104.1, Int.le_trans b1104.2 (by decide)⟩ (fun c1146 => ?_) (fun c1146 => ?_))
    · exfalso
      omega
    · refine wp_of e195 c195_7 (rw_aload_n (pc' := 8) (v := .ref r0) rfl rfl rfl ?_)
      refine wp_of e195 c195_8 (rw_iconst (pc' := 9) rfl ?_)
      refine wp_of e195 c195_9 (xc_V (pc' := 12) (r := r0) (as := [vI 1]) (st := []) (lm_9_121) rfl rfl (Nat.le_of_ble_eq_true rfl) hW g0 sh_42 (by decide) rfl (by decide) (u_181_k (B := B) (n := n) (q := q) hW g0 ⟨by decide, by decide⟩ (by omega) hRC_r0) (fun R1147 T1148 H1149 p1150 => ?_))
      obtain ⟨e1151, w1153, f1154, e1152, p1155⟩ := p1150
      subst e1151
      subst e1152
      have f1157 := f0.tr f1154 rfl
      show wp _ _ 195 12 [(0, .ref r0)] [] _ H1149 _
      have u1158 := RO_k p1155
      refine wp_of e195 c195_12 (rw_aload_n (pc' := 13) (v := .ref r0) rfl rfl rfl ?_)
      have k1159 : H1149 r0 4 = H r0 4 := (f1154 r0 4 _ g0 rfl)
      have q1160 : H1149 r0 4 = (rp : Int) := k1159.trans qrp
      refine wp_of e195 c195_13 (xg_K (pc' := 16) lf_9_166 w1153 g0 sh_42 (by decide) (by decide) rfl q1160 rfl ?_)
      refine wp_of e195 c195_16 (rw_aload_n (pc' := 17) (v := .ref r0) rfl rfl rfl ?_)
      have k1161 : H1149 r0 15 = H r0 15 := (f1154 r0 15 _ g0 rfl)
      refine wp_of e195 c195_17 (xg_L (pc' := 20) lf_9_94 w1153 g0 sh_42 (by decide) (by decide) ty_42_15 rfl rfl (fun b1162 b1163 => ?_))
      refine wp_of e195 c195_20 (xc_V (pc' := 23) (r := rp) (as := [vL (H1149 r0 15)]) (st := []) (lm_9_170) rfl rfl (Nat.le_of_ble_eq_true rfl) w1153 grp sh_54 (by decide) rfl (by decide) (u_190_o  w1153 grp ⟨b1162, b1163⟩) (fun R1164 T1165 H1166 p1167 => ?_))
      obtain ⟨e1168, e1170, z1171, e1169, b1172, p1173⟩ := p1167
      subst e1168
      subst e1169
      subst e1170
      show wp _ _ 195 23 [(0, .ref r0)] [vI z1171] _ H1149 _
      refine wp_of e195 c195_23 (rw_istore_n (pc' := 24) (z := z1171) (L' := [(1, vI z1171), (0, .ref r0)]) rfl rfl rfl ?_)
      refine wp_of e195 c195_24 (rw_iload_n (pc' := 25) (z := z1171) rfl rfl ?_)
      refine wp_of e195 c195_25 (rw_iconst (pc' := 26) rfl ?_)
      refine wp_of e195 c195_26 (rw_icmp_ne (p1 := 34) (p2 := 29) (by decide) rfl ⟨Int.le_trans (by decide) b1172.1, Int.le_trans b1172.2 (by decide)⟩ ⟨by decide, by decide⟩ (fun c1175 => ?_) (fun c1175 => ?_))
      · refine wp_of e195 c195_34 (rw_aload_n (pc' := 35) (v := .ref r0) rfl rfl rfl ?_)
        refine wp_of e195 c195_35 (xg_I (pc' := 38) lf_9_75 w1153 g0 sh_42 (by decide) (by decide) ty_42_9 rfl rfl (fun b1176 b1177 => ?_))
        refine wp_of e195 c195_38 (rw_iconst (pc' := 39) rfl ?_)
        refine wp_of e195 c195_39 (rw_icmp_ne (p1 := 46) (p2 := 42) (by decide) rfl ⟨Int.le_trans (by decide) b1176, Int.le_trans b1177 (by decide)⟩ ⟨by decide, by decide⟩ (fun c1178 => ?_) (fun c1178 => ?_))
        · exfalso
          omega
        · refine wp_of e195 c195_42 (rw_iconst (pc' := 43) rfl ?_)
          refine wp_of e195 c195_43 (rw_goto (p1 := 47) (by decide) ?_)
          exact wp_ireturn e195 c195_47 rfl ⟨rfl, w1153, f1157, 0, rfl, ⟨by decide, by decide⟩, (Or.inr ⟨by omega, by omega, RO_eq p1155 (by omega) (by omega)⟩)⟩
      · refine wp_of e195 c195_29 (rw_aload_n (pc' := 30) (v := .ref r0) rfl rfl rfl ?_)
        refine wp_of e195 c195_30 (rw_iconst (pc' := 31) rfl ?_)
        refine wp_of e195 c195_31 (xc_V (pc' := 34) (r := r0) (as := [vI 2]) (st := []) (lm_9_121) rfl rfl (Nat.le_of_ble_eq_true rfl) w1153 g0 sh_42 (by decide) rfl (by decide) (u_181_o (fo := 1) (po := q) w1153 g0 ⟨by decide, by decide⟩ p1155) (fun R1179 T1180 H1181 p1182 => ?_))
        obtain ⟨e1183, e1185, e1184, p1186⟩ := p1182
        subst e1183
        subst e1184
        subst e1185
        show wp _ _ 195 34 [(1, vI z1171), (0, .ref r0)] [] _ H1149 _
        have u1188 := RO_k p1186
        refine wp_of e195 c195_34 (rw_aload_n (pc' := 35) (v := .ref r0) rfl rfl rfl ?_)
        refine wp_of e195 c195_35 (xg_I (pc' := 38) lf_9_75 w1153 g0 sh_42 (by decide) (by decide) ty_42_9 rfl rfl (fun b1189 b1190 => ?_))
        refine wp_of e195 c195_38 (rw_iconst (pc' := 39) rfl ?_)
        refine wp_of e195 c195_39 (rw_icmp_ne (p1 := 46) (p2 := 42) (by decide) rfl ⟨Int.le_trans (by decide) b1189, Int.le_trans b1190 (by decide)⟩ ⟨by decide, by decide⟩ (fun c1191 => ?_) (fun c1191 => ?_))
        · exfalso
          omega
        · refine wp_of e195 c195_42 (rw_iconst (pc' := 43) rfl ?_)
          refine wp_of e195 c195_43 (rw_goto (p1 := 47) (by decide) ?_)
          exact wp_ireturn e195 c195_47 rfl ⟨rfl, w1153, f1157, 0, rfl, ⟨by decide, by decide⟩, (Or.inr ⟨by omega, by omega, RO_eq p1186 (by omega) (by omega)⟩)⟩
/-! StrikeAwakeModel.known()I o -/
abbrev uq_195_o (r0 : Nat) (rp : Nat) (fo : Int) (po : Int) (T : wq_T) (H : wq_H) : Option Value → wq_T → wq_H → Prop := fun r T' H' => T = T' ∧ H = H' ∧ ∃ z : Int, some (vI z) = r ∧ (0 ≤ z ∧ z ≤ 5) ∧ (((z = 0) ∧ RO T H r0 fo po))
set_option maxHeartbeats 4000000 in
theorem u_195_o {kt : Nat → Option mc_E} {T : wq_T} {H : wq_H} {r0 : Nat} {rp : Nat} {fo : Int} {po : Int} (hW : WT T H) (g0 : T.2.2.2 r0 = some 42) (qrp : H r0 4 = (rp : Int)) (grp : T.2.2.2 rp = some 54) (hRO_r0 : RO T H r0 fo po) : wpc kt 4 195 [.ref r0] T H (uq_195_o r0 rp fo po T H) := by
  refine wp_enter e195 (Nat.le_of_ble_eq_true rfl) rfl ?_
  show wp _ _ 195 0 [(0, .ref r0)] [] _ H _
  have u1051 := RO_k hRO_r0
  refine wp_of e195 c195_0 (rw_aload_n (pc' := 1) (v := .ref r0) rfl rfl rfl ?_)
  refine wp_of e195 c195_1 (xc_V (pc' := 4) (r := r0) (as := []) (st := []) (lm_9_162) rfl rfl (Nat.le_of_ble_eq_true rfl) hW g0 sh_42 (by decide) rfl (by decide) (u_189_o (fo := fo) (po := po) hW g0 hRO_r0) (fun R1052 T1053 H1054 p1055 => ?_))
  obtain ⟨e1056, e1058, z1059, e1057, b1060, p1061⟩ := p1055
  subst e1056
  subst e1057
  subst e1058
  show wp _ _ 195 4 [(0, .ref r0)] [vI z1059] _ H _
  refine wp_of e195 c195_4 (rw_if_ne (p1 := 12) (p2 := 7) (by decide) rfl ⟨Int.le_trans (by decide) b1060.1, Int.le_trans b1060.2 (by decide)⟩ (fun c1063 => ?_) (fun c1063 => ?_))
  · exfalso
    omega
  · refine wp_of e195 c195_7 (rw_aload_n (pc' := 8) (v := .ref r0) rfl rfl rfl ?_)
    refine wp_of e195 c195_8 (rw_iconst (pc' := 9) rfl ?_)
    refine wp_of e195 c195_9 (xc_V (pc' := 12) (r := r0) (as := [vI 1]) (st := []) (lm_9_121) rfl rfl (Nat.le_of_ble_eq_true rfl) hW g0 sh_42 (by decide) rfl (by decide) (u_181_o (fo := fo) (po := po) hW g0 ⟨by decide, by decide⟩ hRO_r0) (fun R1064 T1065 H1066 p1067 => ?_))
    obtain ⟨e1068, e1070, e1069, p1071⟩ := p1067
    subst e1068
    subst e1069
    subst e1070
    show wp _ _ 195 12 [(0, .ref r0)] [] _ H _
    have u1073 := RO_k p1071
    refine wp_of e195 c195_12 (rw_aload_n (pc' := 13) (v := .ref r0) rfl rfl rfl ?_)
    refine wp_of e195 c195_13 (xg_K (pc' := 16) lf_9_166 hW g0 sh_42 (by decide) (by decide) rfl qrp rfl ?_)
    refine wp_of e195 c195_16 (rw_aload_n (pc' := 17) (v := .ref r0) rfl rfl rfl ?_)
    refine wp_of e195 c195_17 (xg_L (pc' := 20) lf_9_94 hW g0 sh_42 (by decide) (by decide) ty_42_15 rfl rfl (fun b1074 b1075 => ?_))
    refine wp_of e195 c195_20 (xc_V (pc' := 23) (r := rp) (as := [vL (H r0 15)]) (st := []) (lm_9_170) rfl rfl (Nat.le_of_ble_eq_true rfl) hW grp sh_54 (by decide) rfl (by decide) (u_190_o  hW grp ⟨b1074, b1075⟩) (fun R1076 T1077 H1078 p1079 => ?_))
    obtain ⟨e1080, e1082, z1083, e1081, b1084, p1085⟩ := p1079
    subst e1080
    subst e1081
    subst e1082
    show wp _ _ 195 23 [(0, .ref r0)] [vI z1083] _ H _
    refine wp_of e195 c195_23 (rw_istore_n (pc' := 24) (z := z1083) (L' := [(1, vI z1083), (0, .ref r0)]) rfl rfl rfl ?_)
    refine wp_of e195 c195_24 (rw_iload_n (pc' := 25) (z := z1083) rfl rfl ?_)
    refine wp_of e195 c195_25 (rw_iconst (pc' := 26) rfl ?_)
    refine wp_of e195 c195_26 (rw_icmp_ne (p1 := 34) (p2 := 29) (by decide) rfl ⟨Int.le_trans (by decide) b1084.1, Int.le_trans b1084.2 (by decide)⟩ ⟨by decide, by decide⟩ (fun c1087 => ?_) (fun c1087 => ?_))
    · refine wp_of e195 c195_34 (rw_aload_n (pc' := 35) (v := .ref r0) rfl rfl rfl ?_)
      refine wp_of e195 c195_35 (xg_I (pc' := 38) lf_9_75 hW g0 sh_42 (by decide) (by decide) ty_42_9 rfl rfl (fun b1088 b1089 => ?_))
      refine wp_of e195 c195_38 (rw_iconst (pc' := 39) rfl ?_)
      refine wp_of e195 c195_39 (rw_icmp_ne (p1 := 46) (p2 := 42) (by decide) rfl ⟨Int.le_trans (by decide) b1088, Int.le_trans b1089 (by decide)⟩ ⟨by decide, by decide⟩ (fun c1090 => ?_) (fun c1090 => ?_))
      · exfalso
        omega
      · refine wp_of e195 c195_42 (rw_iconst (pc' := 43) rfl ?_)
        refine wp_of e195 c195_43 (rw_goto (p1 := 47) (by decide) ?_)
        exact wp_ireturn e195 c195_47 rfl ⟨rfl, rfl, 0, rfl, ⟨by decide, by decide⟩, ⟨by omega, p1071⟩⟩
    · refine wp_of e195 c195_29 (rw_aload_n (pc' := 30) (v := .ref r0) rfl rfl rfl ?_)
      refine wp_of e195 c195_30 (rw_iconst (pc' := 31) rfl ?_)
      refine wp_of e195 c195_31 (xc_V (pc' := 34) (r := r0) (as := [vI 2]) (st := []) (lm_9_121) rfl rfl (Nat.le_of_ble_eq_true rfl) hW g0 sh_42 (by decide) rfl (by decide) (u_181_o (fo := fo) (po := po) hW g0 ⟨by decide, by decide⟩ p1071) (fun R1091 T1092 H1093 p1094 => ?_))
      obtain ⟨e1095, e1097, e1096, p1098⟩ := p1094
      subst e1095
      subst e1096
      subst e1097
      show wp _ _ 195 34 [(1, vI z1083), (0, .ref r0)] [] _ H _
      have u1100 := RO_k p1098
      refine wp_of e195 c195_34 (rw_aload_n (pc' := 35) (v := .ref r0) rfl rfl rfl ?_)
      refine wp_of e195 c195_35 (xg_I (pc' := 38) lf_9_75 hW g0 sh_42 (by decide) (by decide) ty_42_9 rfl rfl (fun b1101 b1102 => ?_))
      refine wp_of e195 c195_38 (rw_iconst (pc' := 39) rfl ?_)
      refine wp_of e195 c195_39 (rw_icmp_ne (p1 := 46) (p2 := 42) (by decide) rfl ⟨Int.le_trans (by decide) b1101, Int.le_trans b1102 (by decide)⟩ ⟨by decide, by decide⟩ (fun c1103 => ?_) (fun c1103 => ?_))
      · exfalso
        omega
      · refine wp_of e195 c195_42 (rw_iconst (pc' := 43) rfl ?_)
        refine wp_of e195 c195_43 (rw_goto (p1 := 47) (by decide) ?_)
        exact wp_ireturn e195 c195_47 rfl ⟨rfl, rfl, 0, rfl, ⟨by decide, by decide⟩, ⟨by omega, p1098⟩⟩
/-! StrikeAwakeModel.readKnown()I k -/
abbrev uq_194_k (r0 : Nat) (rp : Nat) (rb : Nat) (B : Nat → Int) (n : Int) (q : Int) (d : xD) (T : wq_T) (H : wq_H) : Option Value → wq_T → wq_H → Prop := fun r T' H' => T = T' ∧ WT T H' ∧ wfr [(42, 8), (42, 9), (42, 10), (42, 11), (42, 12), (42, 13), (42, 14), (42, 15)] T H H' ∧ ∃ z : Int, some (vI z) = r ∧ (0 ≤ z ∧ z ≤ 5) ∧ (((0 ≤ z ∧ z ≤ 5) ∧ (xkn B n q d = 0) ∧ (z = xwho B n q d) ∧ (z < d 0 3) ∧ RC T H' r0 B n (xN B n q)) ∨ ((z = 0) ∧ (xkn B n q d ≠ 0) ∧ RO T H' r0 (xkn B n q d) q))
set_option maxHeartbeats 4000000 in
theorem u_194_k {kt : Nat → Option mc_E} {T : wq_T} {H : wq_H} {r0 : Nat} {rp : Nat} {rb : Nat} {B : Nat → Int} {n : Int} {q : Int} {d : xD} (hW : WT T H) (g0 : T.2.2.2 r0 = some 42) (qrp : H r0 4 = (rp : Int)) (grp : T.2.2.2 rp = some 54) (qrb : H r0 5 = (rb : Int)) (grb : T.2.2.2 rb = some 43) (hRC_r0 : RC T H r0 B n q) (hDM_rp : DM T H rp r0 d) : wpc kt 5 194 [.ref r0] T H (uq_194_k r0 rp rb B n q d T H) := by
  refine wp_enter e194 (Nat.le_of_ble_eq_true rfl) rfl ?_
  have f0 : wfr [(42, 8), (42, 9), (42, 10), (42, 11), (42, 12), (42, 13), (42, 14), (42, 15)] T H H := wfr.rf
  show wp _ _ 194 0 [(0, .ref r0)] [] _ H _
  have u1045 := RC_k hRC_r0
  have u1046 := DM_k hDM_rp
  refine wp_of e194 c194_0 (rw_aload_n (pc' := 1) (v := .ref r0) rfl rfl rfl ?_)
  refine wp_of e194 c194_1 (xc_V (pc' := 4) (r := r0) (as := []) (st := []) (lm_9_176) rfl rfl (Nat.le_of_ble_eq_true rfl) hW g0 sh_42 (by decide) rfl (by decide) (u_195_k (B := B) (n := n) (q := q) (d := d) hW g0 qrp grp hRC_r0 hDM_rp) (fun R1047 T1048 H1049 p1050 => ?_))
  obtain ⟨e1051, w1053, f1054, z1055, e1052, b1056, p1057⟩ := p1050
  subst e1051
  subst e1052
  rcases p1057 with ⟨a1058, a1059, a1060, a1061, a1062, a1063⟩ | ⟨a1064, a1065, a1066⟩
  · have f1067 := f0.tr f1054 rfl
    show wp _ _ 194 4 [(0, .ref r0)] [vI z1055] _ H1049 _
    have u1068 := RC_k a1063
    refine wp_of e194 c194_4 (rw_istore_n (pc' := 5) (z := z1055) (L' := [(1, vI z1055), (0, .ref r0)]) rfl rfl rfl ?_)
    refine wp_of e194 c194_5 (rw_aload_n (pc' := 6) (v := .ref r0) rfl rfl rfl ?_)
    have k1069 : H1049 r0 5 = H r0 5 := (f1054 r0 5 _ g0 rfl)
    have q1070 : H1049 r0 5 = (rb : Int) := k1069.trans qrb
    have u1071 := RC_a a1063
    have h1072 : TM T H1049 rb B := RC_tm a1063 q1070
    refine wp_of e194 c194_6 (xc_V (pc' := 9) (r := r0) (as := []) (st := []) (lm_9_118) rfl rfl (Nat.le_of_ble_eq_true rfl) w1053 g0 sh_42 (by decide) rfl (by decide) (u_172_k (B := B) (n := n) (a := (xE B n q)) (q := (xN B n q)) w1053 g0 q1070 grb (by omega) (by omega) (by omega) (by omega) (by omega) (rfl) h1072) (fun R1073 T1074 H1075 p1076 => ?_))
    obtain ⟨e1077, w1079, f1080, e1078, p1081⟩ := p1076
    subst e1077
    subst e1078
    have f1083 := f1067.tr f1080 rfl
    show wp _ _ 194 9 [(1, vI z1055), (0, .ref r0)] [] _ H1075 _
    have u1084 := RC_k p1081
    refine wp_of e194 c194_9 (rw_iload_n (pc' := 10) (z := z1055) rfl rfl ?_)
    exact wp_ireturn e194 c194_10 rfl ⟨rfl, w1079, f1083, z1055, rfl, ⟨b1056.1, b1056.2⟩, (Or.inl ⟨by omega, by omega, by omega, by omega, p1081⟩)⟩
  · have f1085 := f0.tr f1054 rfl
    show wp _ _ 194 4 [(0, .ref r0)] [vI z1055] _ H1049 _
    have u1086 := RO_k a1066
    refine wp_of e194 c194_4 (rw_istore_n (pc' := 5) (z := z1055) (L' := [(1, vI z1055), (0, .ref r0)]) rfl rfl rfl ?_)
    refine wp_of e194 c194_5 (rw_aload_n (pc' := 6) (v := .ref r0) rfl rfl rfl ?_)
    refine wp_of e194 c194_6 (xc_V (pc' := 9) (r := r0) (as := []) (st := []) (lm_9_118) rfl rfl (Nat.le_of_ble_eq_true rfl) w1053 g0 sh_42 (by decide) rfl (by decide) (u_172_o (fo := (xkn B n q d)) (po := q) w1053 g0 a1066) (fun R1087 T1088 H1089 p1090 => ?_))
    obtain ⟨e1091, e1093, e1092, p1094⟩ := p1090
    subst e1091
    subst e1092
    subst e1093
    show wp _ _ 194 9 [(1, vI z1055), (0, .ref r0)] [] _ H1049 _
    have u1096 := RO_k p1094
    refine wp_of e194 c194_9 (rw_iload_n (pc' := 10) (z := z1055) rfl rfl ?_)
    exact wp_ireturn e194 c194_10 rfl ⟨rfl, w1053, f1085, z1055, rfl, ⟨b1056.1, b1056.2⟩, (Or.inr ⟨by omega, by omega, RO_eq p1094 (by omega) (by omega)⟩)⟩
/-! StrikeAwakeModel.readKnown()I o -/
abbrev uq_194_o (r0 : Nat) (rp : Nat) (rb : Nat) (fo : Int) (po : Int) (T : wq_T) (H : wq_H) : Option Value → wq_T → wq_H → Prop := fun r T' H' => T = T' ∧ H = H' ∧ ∃ z : Int, some (vI z) = r ∧ (0 ≤ z ∧ z ≤ 5) ∧ (((z = 0) ∧ RO T H r0 fo po))
set_option maxHeartbeats 4000000 in
theorem u_194_o {kt : Nat → Option mc_E} {T : wq_T} {H : wq_H} {r0 : Nat} {rp : Nat} {rb : Nat} {fo : Int} {po : Int} (hW : WT T H) (g0 : T.2.2.2 r0 = some 42) (qrp : H r0 4 = (rp : Int)) (grp : T.2.2.2 rp = some 54) (qrb : H r0 5 = (rb : Int)) (grb : T.2.2.2 rb = some 43) (hRO_r0 : RO T H r0 fo po) : wpc kt 5 194 [.ref r0] T H (uq_194_o r0 rp rb fo po T H) := by
  refine wp_enter e194 (Nat.le_of_ble_eq_true rfl) rfl ?_
  show wp _ _ 194 0 [(0, .ref r0)] [] _ H _
  have u1022 := RO_k hRO_r0
  refine wp_of e194 c194_0 (rw_aload_n (pc' := 1) (v := .ref r0) rfl rfl rfl ?_)
  refine wp_of e194 c194_1 (xc_V (pc' := 4) (r := r0) (as := []) (st := []) (lm_9_176) rfl rfl (Nat.le_of_ble_eq_true rfl) hW g0 sh_42 (by decide) rfl (by decide) (u_195_o (fo := fo) (po := po) hW g0 qrp grp hRO_r0) (fun R1023 T1024 H1025 p1026 => ?_))
  obtain ⟨e1027, e1029, z1030, e1028, b1031, p1032⟩ := p1026
  subst e1027
  subst e1028
  subst e1029
  obtain ⟨a1033, a1034⟩ := p1032
  show wp _ _ 194 4 [(0, .ref r0)] [vI z1030] _ H _
  have u1035 := RO_k a1034
  refine wp_of e194 c194_4 (rw_istore_n (pc' := 5) (z := z1030) (L' := [(1, vI z1030), (0, .ref r0)]) rfl rfl rfl ?_)
  refine wp_of e194 c194_5 (rw_aload_n (pc' := 6) (v := .ref r0) rfl rfl rfl ?_)
  refine wp_of e194 c194_6 (xc_V (pc' := 9) (r := r0) (as := []) (st := []) (lm_9_118) rfl rfl (Nat.le_of_ble_eq_true rfl) hW g0 sh_42 (by decide) rfl (by decide) (u_172_o (fo := fo) (po := po) hW g0 a1034) (fun R1036 T1037 H1038 p1039 => ?_))
  obtain ⟨e1040, e1042, e1041, p1043⟩ := p1039
  subst e1040
  subst e1041
  subst e1042
  show wp _ _ 194 9 [(1, vI z1030), (0, .ref r0)] [] _ H _
  have u1045 := RO_k p1043
  refine wp_of e194 c194_9 (rw_iload_n (pc' := 10) (z := z1030) rfl rfl ?_)
  exact wp_ireturn e194 c194_10 rfl ⟨rfl, rfl, z1030, rfl, ⟨b1031.1, b1031.2⟩, ⟨by omega, p1043⟩⟩
/-! StrikeAwakeModel.hoursFrom(II)I  -/
abbrev uq_202 (a0 : Int) (a1 : Int) (lo : Int) (hi : Int) (T : wq_T) (H : wq_H) : Option Value → wq_T → wq_H → Prop := fun r T' H' => T = T' ∧ H = H' ∧ ∃ z : Int, some (vI z) = r ∧ ((-2147483648) ≤ z ∧ z ≤ 2147483647) ∧ (((z = xhs lo hi)))
set_option maxHeartbeats 4000000 in
theorem u_202 {kt : Nat → Option mc_E} {T : wq_T} {H : wq_H} {a0 : Int} {a1 : Int} {lo : Int} {hi : Int} (hW : WT T H) (i0 : 0 ≤ a0 ∧ a0 ≤ 24) (i1 : 0 ≤ a1 ∧ a1 ≤ 40) (p0 : a0 = lo) (p1 : a1 = hi) (p2 : lo ≤ hi) : wpc kt 1 202 [vI a0, vI a1] T H (uq_202 a0 a1 lo hi T H) := by
  refine wp_enter e202 (Nat.le_of_ble_eq_true rfl) rfl ?_
  show wp _ _ 202 0 [(0, vI a0), (1, vI a1)] [] _ H _
  refine wp_of e202 c202_0 (rw_iconst (pc' := 1) rfl ?_)
  refine wp_of e202 c202_1 (rw_istore_n (pc' := 2) (z := 0) (L' := [(2, vI 0), (0, vI a0), (1, vI a1)]) rfl rfl rfl ?_)
  refine wp_of e202 c202_2 (rw_iload_n (pc' := 3) (z := a0) rfl rfl ?_)
  refine wp_of e202 c202_3 (rw_istore_n (pc' := 4) (z := a0) (L' := [(3, vI a0), (2, vI 0), (0, vI a0), (1, vI a1)]) rfl rfl rfl ?_)
  have lp1032 : ∀ (n1033 : Nat) (v1035 : Int) (v1036 : Int), (0 ≤ v1035 ∧ v1035 ≤ 24) → (0 ≤ v1036 ∧ v1036 ≤ 16777215) → (v1036 = xhs lo v1035) → (lo ≤ v1035) → (v1035 ≤ hi) → (24 - v1035).toNat = n1033 → wp kt 0 202 4 [(3, vI v1035), (2, vI v1036), (1, vI a1)] [] T H (uq_202 a0 a1 lo hi T H) := by
    intro n1033
    induction n1033 using Nat.strongRecOn with
    | _ n1033 ih1034 =>
      intro v1035 v1036 b1039 b1040 x1041 x1042 x1043 m1044
      refine wp_of e202 c202_4 (rw_iload_n (pc' := 5) (z := v1035) rfl rfl ?_)
      refine wp_of e202 c202_5 (rw_iload_n (pc' := 6) (z := a1) rfl rfl ?_)
      refine wp_of e202 c202_6 (rw_icmp_ge (p1 := 27) (p2 := 9) (by decide) rfl ⟨Int.le_trans (by decide) b1039.1, Int.le_trans b1039.2 (by decide)⟩ ⟨Int.le_trans (by decide) i1.1, Int.le_trans i1.2 (by decide)⟩ (fun c1045 => ?_) (fun c1045 => ?_))
      · have : xhs lo v1035 = xhs lo hi := by
          by_cases e : v1035 = hi
          · rw [e]
          · rw [show v1035 = 24 by omega]
            exact (xhs_24 (by omega)).symm
        refine wp_of e202 c202_27 (rw_iload_n (pc' := 28) (z := v1036) rfl rfl ?_)
        exact wp_ireturn e202 c202_28 rfl ⟨rfl, rfl, v1036, rfl, ⟨Int.le_trans (by decide) b1040.1, Int.le_trans b1040.2 (by decide)⟩, (by omega)⟩
      · refine wp_of e202 c202_9 (rw_iload_n (pc' := 10) (z := v1035) rfl rfl ?_)
        refine wp_of e202 c202_10 (rw_bipush (pc' := 12) (z := 24) rfl (by decide) ?_)
        refine wp_of e202 c202_12 (rw_icmp_ge (p1 := 27) (p2 := 15) (by decide) rfl ⟨Int.le_trans (by decide) b1039.1, Int.le_trans b1039.2 (by decide)⟩ ⟨by decide, by decide⟩ (fun c1046 => ?_) (fun c1046 => ?_))
        · have : xhs lo v1035 = xhs lo hi := by
            by_cases e : v1035 = hi
            · rw [e]
            · rw [show v1035 = 24 by omega]
              exact (xhs_24 (by omega)).symm
          refine wp_of e202 c202_27 (rw_iload_n (pc' := 28) (z := v1036) rfl rfl ?_)
          exact wp_ireturn e202 c202_28 rfl ⟨rfl, rfl, v1036, rfl, ⟨Int.le_trans (by decide) b1040.1, Int.le_trans b1040.2 (by decide)⟩, (by omega)⟩
        · refine wp_of e202 c202_15 (rw_iload_n (pc' := 16) (z := v1036) rfl rfl ?_)
          refine wp_of e202 c202_16 (rw_iconst (pc' := 17) rfl ?_)
          refine wp_of e202 c202_17 (rw_iload_n (pc' := 18) (z := v1035) rfl rfl ?_)
          refine wp_of e202 c202_18 (rw_ishl (pc' := 19) rfl ?_)
          obtain ⟨v1047, e1048⟩ : ∃ x : Int, x = wq_shl 1 v1035 := ⟨_, rfl⟩
          rw [← e1048]
          have b1049 : 1 ≤ v1047 ∧ v1047 ≤ 8388608 := by
            rw [e1048]
            exact wq_shl1_24 ⟨by omega, by omega⟩
          refine wp_of e202 c202_19 (rw_ior (pc' := 20) rfl ?_)
          obtain ⟨v1050, e1051⟩ : ∃ x : Int, x = wq_or v1036 v1047 := ⟨_, rfl⟩
          rw [← e1051]
          have b1052 : 0 ≤ v1050 ∧ v1050 ≤ 16777215 := by
            rw [e1051]
            exact wq_or_24 ⟨by omega, by omega⟩ ⟨by omega, by omega⟩
          refine wp_of e202 c202_20 (rw_istore_n (pc' := 21) (z := v1050) (L' := [(2, vI v1050), (3, vI v1035), (1, vI a1)]) rfl rfl rfl ?_)
          refine wp_of e202 c202_21 (rw_iinc (pc' := 24) (z := v1035) (L' := [(3, vI (v1035 + 1)), (2, vI v1050), (1, vI a1)]) rfl rfl rfl rfl ?_)
          refine wp_of e202 c202_24 (rw_goto (p1 := 4) (by decide) ?_)
          have : xhs lo (v1035 + 1) = v1050 := by
            have e := @hf_ok lo v1035 (by omega) (by omega) (by omega) (by omega)
            rw [← e]
            subst_vars
            rfl
          exact wp_lc (ks := [3, 2, 1]) (wl_c rfl (wl_c rfl (wl_c rfl wl_n))) rfl (by decide) (ih1034 _ (by omega) (v1035 + 1) v1050 ⟨by omega, by omega⟩ ⟨b1052.1, b1052.2⟩ (by omega) (by omega) (by omega) rfl)
  have : xhs lo a0 = 0 := by
    rw [show lo = a0 by omega]
    exact hf_z (by omega) (by omega)
  exact wp_lc (ks := [3, 2, 0, 1]) (wl_c rfl (wl_c rfl (wl_c rfl wl_n))) rfl (by decide) (lp1032 _ a0 0 ⟨i0.1, i0.2⟩ ⟨by decide, by decide⟩ (by omega) (by omega) (by omega) rfl)
/-! StrikeAwakeModel.readLaw()V k -/
abbrev uq_180_k (r0 : Nat) (rp : Nat) (rb : Nat) (B : Nat → Int) (n : Int) (q : Int) (d : xD) (N0 : Nat) (H0 : wq_H) (T : wq_T) (H : wq_H) : Option Value → wq_T → wq_H → Prop := fun r T' H' => T = T' ∧ WT T H' ∧ wfr [(54, 0), (54, 1), (54, 2), (42, 8), (42, 9), (42, 10), (42, 11), (42, 12), (42, 13), (42, 14), (42, 15)] T H H' ∧ none = r ∧ ((((xl0 B n q d).1 = 0) ∧ ((xl0 B n q d).2.2 = (xN B n (xN B n (xN B n (xN B n (xN B n (xN B n (xN B n q)))))))) ∧ (q ≤ (xN B n (xN B n (xN B n (xN B n (xN B n (xN B n (xN B n q)))))))) ∧ RC T H' r0 B n (xN B n (xN B n (xN B n (xN B n (xN B n (xN B n (xN B n q))))))) ∧ DM T H' rp r0 (xdlaw B n (xN B n q) d) ∧ FZ T H' rp N0 H0) ∨ (((xl0 B n q d).1 ≠ 0) ∧ RO T H' r0 ((xl0 B n q d).1) ((xl0 B n q d).2.1) ∧ FZ T H' rp N0 H0))
set_option maxHeartbeats 4000000 in
theorem u_180_k_t60o {kt : Nat → Option mc_E} {T : wq_T} {H : wq_H} {r0 : Nat} {rp : Nat} {rb : Nat} {B : Nat → Int} {n : Int} {q : Int} {d : xD} {N0 : Nat} {H0 : wq_H} (hW : WT T H) (g0 : T.2.2.2 r0 = some 42) (qrp : H r0 4 = (rp : Int)) (grp : T.2.2.2 rp = some 54) (qrb : H r0 5 = (rb : Int)) (grb : T.2.2.2 rb = some 43) (p0 : xK B n q = 1) (hRC_r0 : RC T H r0 B n q) (hDM_rp : DM T H rp r0 d) (hFZ_rp : FZ T H rp N0 H0) : ∀ (v1430 : Int) (H1431 : wq_H) (fo1435 : Int) (po1436 : Int), WT T H1431 → wfr [(54, 0), (54, 1), (54, 2), (42, 8), (42, 9), (42, 10), (42, 11), (42, 12), (42, 13), (42, 14), (42, 15)] T H H1431 → (0 ≤ v1430 ∧ v1430 ≤ 24) → RO T H1431 r0 fo1435 po1436 → FZ T H1431 rp N0 H0 → ((xl0 B n q d).1 = fo1435) → ((xl0 B n q d).2.1 = po1436) → wp kt 4 180 60 [(0, .ref r0), (1, vI v1430)] [] T H1431 (uq_180_k r0 rp rb B n q d N0 H0 T H) := by
  have f0 : wfr [(54, 0), (54, 1), (54, 2), (42, 8), (42, 9), (42, 10), (42, 11), (42, 12), (42, 13), (42, 14), (42, 15)] T H H := wfr.rf
  have u1411 := RC_k hRC_r0
  have u1412 := DM_k hDM_rp
  have h1413 : MA9 T H rp (d 1) := hDM_rp.2.2.2.1
  have h1414 : MA10 T H rp (d 2) := hDM_rp.2.2.2.2.1
  have h1415 : MA11 T H rp (d 3) := hDM_rp.2.2.2.2.2.1
  have h1416 : MA12 T H rp (d 4) := hDM_rp.2.2.2.2.2.2.1
  have h1417 : MA13 T H rp (d 5) := hDM_rp.2.2.2.2.2.2.2.1
  have h1418 : MA14 T H rp (d 6) := hDM_rp.2.2.2.2.2.2.2.2.1
  have h1419 : MA15 T H rp (d 7) := hDM_rp.2.2.2.2.2.2.2.2.2.1
  have h1420 : MA16 T H rp (d 8) := hDM_rp.2.2.2.2.2.2.2.2.2.2.1
  have h1421 : MA17 T H rp (d 9) := hDM_rp.2.2.2.2.2.2.2.2.2.2.2.1
  have h1422 : MA18 T H rp (d 10) := hDM_rp.2.2.2.2.2.2.2.2.2.2.2.2.1
  have h1423 : MA19 T H rp (d 11) := hDM_rp.2.2.2.2.2.2.2.2.2.2.2.2.2.1
  have h1424 : MA20 T H rp (d 12) := hDM_rp.2.2.2.2.2.2.2.2.2.2.2.2.2.2.1
  have h1425 : MA21 T H rp (d 13) := hDM_rp.2.2.2.2.2.2.2.2.2.2.2.2.2.2.2.1
  have h1426 : MA22 T H rp (d 14) := hDM_rp.2.2.2.2.2.2.2.2.2.2.2.2.2.2.2.2.1
  have h1427 : MA23 T H rp (d 15) := hDM_rp.2.2.2.2.2.2.2.2.2.2.2.2.2.2.2.2.2.1
  have h1428 : MA25 T H rp (d 17) := hDM_rp.2.2.2.2.2.2.2.2.2.2.2.2.2.2.2.2.2.2.1
  have h1429 : MA26 T H rp (d 16) := hDM_rp.2.2.2.2.2.2.2.2.2.2.2.2.2.2.2.2.2.2.2
  intro v1430 H1431 fo1435 po1436 w1432 f1433 b1437 h1438 h1439 x1440 x1441
  have u1442 := RO_k h1438
  refine wp_of e180 c180_60 (rw_aload_n (pc' := 61) (v := .ref r0) rfl rfl rfl ?_)
  refine wp_of e180 c180_61 (xg_I (pc' := 64) lf_9_75 w1432 g0 sh_42 (by decide) (by decide) ty_42_9 rfl rfl (fun b1443 b1444 => ?_))
  refine wp_of e180 c180_64 (rw_iconst (pc' := 65) rfl ?_)
  refine wp_of e180 c180_65 (rw_icmp_eq (p1 := 76) (p2 := 68) (by decide) rfl ⟨Int.le_trans (by decide) b1443, Int.le_trans b1444 (by decide)⟩ ⟨by decide, by decide⟩ (fun c1445 => ?_) (fun c1445 => ?_))
  · exact wp_return e180 c180_76 rfl ⟨rfl, w1432, f1433, rfl, (Or.inr ⟨by omega, RO_eq h1438 (by omega) (by omega), h1439⟩)⟩
  · exfalso
    omega
set_option maxHeartbeats 4000000 in
theorem u_180_k_t45o {kt : Nat → Option mc_E} {T : wq_T} {H : wq_H} {r0 : Nat} {rp : Nat} {rb : Nat} {B : Nat → Int} {n : Int} {q : Int} {d : xD} {N0 : Nat} {H0 : wq_H} (hW : WT T H) (g0 : T.2.2.2 r0 = some 42) (qrp : H r0 4 = (rp : Int)) (grp : T.2.2.2 rp = some 54) (qrb : H r0 5 = (rb : Int)) (grb : T.2.2.2 rb = some 43) (p0 : xK B n q = 1) (hRC_r0 : RC T H r0 B n q) (hDM_rp : DM T H rp r0 d) (hFZ_rp : FZ T H rp N0 H0) : ∀ (v1465 : Int) (H1466 : wq_H) (fo1470 : Int) (po1471 : Int), WT T H1466 → wfr [(54, 0), (54, 1), (54, 2), (42, 8), (42, 9), (42, 10), (42, 11), (42, 12), (42, 13), (42, 14), (42, 15)] T H H1466 → (0 ≤ v1465 ∧ v1465 ≤ 24) → RO T H1466 r0 fo1470 po1471 → FZ T H1466 rp N0 H0 → ((xl0 B n q d).1 = fo1470) → ((xl0 B n q d).2.1 = po1471) → wp kt 4 180 45 [(0, .ref r0), (1, vI v1465)] [] T H1466 (uq_180_k r0 rp rb B n q d N0 H0 T H) := by
  have f0 : wfr [(54, 0), (54, 1), (54, 2), (42, 8), (42, 9), (42, 10), (42, 11), (42, 12), (42, 13), (42, 14), (42, 15)] T H H := wfr.rf
  have u1446 := RC_k hRC_r0
  have u1447 := DM_k hDM_rp
  have h1448 : MA9 T H rp (d 1) := hDM_rp.2.2.2.1
  have h1449 : MA10 T H rp (d 2) := hDM_rp.2.2.2.2.1
  have h1450 : MA11 T H rp (d 3) := hDM_rp.2.2.2.2.2.1
  have h1451 : MA12 T H rp (d 4) := hDM_rp.2.2.2.2.2.2.1
  have h1452 : MA13 T H rp (d 5) := hDM_rp.2.2.2.2.2.2.2.1
  have h1453 : MA14 T H rp (d 6) := hDM_rp.2.2.2.2.2.2.2.2.1
  have h1454 : MA15 T H rp (d 7) := hDM_rp.2.2.2.2.2.2.2.2.2.1
  have h1455 : MA16 T H rp (d 8) := hDM_rp.2.2.2.2.2.2.2.2.2.2.1
  have h1456 : MA17 T H rp (d 9) := hDM_rp.2.2.2.2.2.2.2.2.2.2.2.1
  have h1457 : MA18 T H rp (d 10) := hDM_rp.2.2.2.2.2.2.2.2.2.2.2.2.1
  have h1458 : MA19 T H rp (d 11) := hDM_rp.2.2.2.2.2.2.2.2.2.2.2.2.2.1
  have h1459 : MA20 T H rp (d 12) := hDM_rp.2.2.2.2.2.2.2.2.2.2.2.2.2.2.1
  have h1460 : MA21 T H rp (d 13) := hDM_rp.2.2.2.2.2.2.2.2.2.2.2.2.2.2.2.1
  have h1461 : MA22 T H rp (d 14) := hDM_rp.2.2.2.2.2.2.2.2.2.2.2.2.2.2.2.2.1
  have h1462 : MA23 T H rp (d 15) := hDM_rp.2.2.2.2.2.2.2.2.2.2.2.2.2.2.2.2.2.1
  have h1463 : MA25 T H rp (d 17) := hDM_rp.2.2.2.2.2.2.2.2.2.2.2.2.2.2.2.2.2.2.1
  have h1464 : MA26 T H rp (d 16) := hDM_rp.2.2.2.2.2.2.2.2.2.2.2.2.2.2.2.2.2.2.2
  intro v1465 H1466 fo1470 po1471 w1467 f1468 b1472 h1473 h1474 x1475 x1476
  have u1477 := RO_k h1473
  refine wp_of e180 c180_45 (rw_aload_n (pc' := 46) (v := .ref r0) rfl rfl rfl ?_)
  have k1478 : H1466 r0 4 = H r0 4 := (f1468 r0 4 _ g0 rfl)
  have q1479 : H1466 r0 4 = (rp : Int) := k1478.trans qrp
  refine wp_of e180 c180_46 (xg_K (pc' := 49) lf_9_166 w1467 g0 sh_42 (by decide) (by decide) rfl q1479 rfl ?_)
  refine wp_of e180 c180_49 (rw_aload_n (pc' := 50) (v := .ref r0) rfl rfl rfl ?_)
  refine wp_of e180 c180_50 (rw_ldcS (pc' := 52) (k := 75) rfl rfl rfl rfl ?_)
  refine wp_of e180 c180_52 (rw_iconst (pc' := 53) rfl ?_)
  refine wp_of e180 c180_53 (rw_iconst (pc' := 54) rfl ?_)
  have k1480 : H1466 r0 5 = H r0 5 := (f1468 r0 5 _ g0 rfl)
  have q1481 : H1466 r0 5 = (rb : Int) := k1480.trans qrb
  refine wp_of e180 c180_54 (xc_V (pc' := 57) (r := r0) (as := [.ref 75, vI 0, vI 3]) (st := [.ref rp]) (lm_9_216) rfl rfl (Nat.le_of_ble_eq_true rfl) w1467 g0 sh_42 (by decide) rfl (by decide) (u_182_o (fo := fo1470) (po := po1471) (kk := 15558) w1467 g0 rfl ⟨by decide, by decide⟩ ⟨by decide, by decide⟩ q1481 grb (by decide +kernel) h1473) (fun R1482 T1483 H1484 p1485 => ?_))
  obtain ⟨e1486, e1488, z1489, e1487, b1490, p1491⟩ := p1485
  subst e1486
  subst e1487
  subst e1488
  obtain ⟨a1492, a1493⟩ := p1491
  show wp _ _ 180 57 [(0, .ref r0), (1, vI v1465)] [vI z1489, .ref rp] _ H1466 _
  have u1494 := RO_k a1493
  refine wp_of e180 c180_57 (xp_I (pc' := 60) lf_9_226 w1467 grp sh_54 (by decide) (by decide) ty_54_2 rfl rfl (Int.le_trans (by decide) b1490.1) (Int.le_trans b1490.2 (by decide)) ⟨Int.le_trans (by decide) b1490.1, Int.le_trans b1490.2 (by decide)⟩ rfl (fun H1495 e1496 w1497 => ?_))
  have f1498 := f1468.put' e1496 grp rfl
  have k1499 : H1495 rp 2 = z1489 := wq_u_s e1496
  have h1500 : FZ T H1495 rp N0 H0 := FZ_put h1474 (by decide) e1496
  have h1501 : RO T H1495 r0 fo1470 po1471 := (RO_fr w1467 g0 ((wfr.rf (l := [(54, 2)])).put' e1496 grp rfl) rfl a1493)
  exact wp_lc (ks := [0, 1]) (wl_c rfl (wl_c rfl wl_n)) rfl (by decide) (u_180_k_t60o hW g0 qrp grp qrb grb p0 hRC_r0 hDM_rp hFZ_rp v1465 H1495 fo1470 po1471 w1497 f1498 ⟨by omega, by omega⟩ h1501 h1500 (by omega) (by omega))
set_option maxHeartbeats 4000000 in
theorem u_180_k_t29o {kt : Nat → Option mc_E} {T : wq_T} {H : wq_H} {r0 : Nat} {rp : Nat} {rb : Nat} {B : Nat → Int} {n : Int} {q : Int} {d : xD} {N0 : Nat} {H0 : wq_H} (hW : WT T H) (g0 : T.2.2.2 r0 = some 42) (qrp : H r0 4 = (rp : Int)) (grp : T.2.2.2 rp = some 54) (qrb : H r0 5 = (rb : Int)) (grb : T.2.2.2 rb = some 43) (p0 : xK B n q = 1) (hRC_r0 : RC T H r0 B n q) (hDM_rp : DM T H rp r0 d) (hFZ_rp : FZ T H rp N0 H0) : ∀ (v1521 : Int) (H1522 : wq_H) (fo1526 : Int) (po1527 : Int), WT T H1522 → wfr [(54, 0), (54, 1), (54, 2), (42, 8), (42, 9), (42, 10), (42, 11), (42, 12), (42, 13), (42, 14), (42, 15)] T H H1522 → (0 ≤ v1521 ∧ v1521 ≤ 24) → RO T H1522 r0 fo1526 po1527 → FZ T H1522 rp N0 H0 → ((xl0 B n q d).1 = fo1526) → ((xl0 B n q d).2.1 = po1527) → wp kt 4 180 29 [(0, .ref r0), (1, vI v1521)] [] T H1522 (uq_180_k r0 rp rb B n q d N0 H0 T H) := by
  have f0 : wfr [(54, 0), (54, 1), (54, 2), (42, 8), (42, 9), (42, 10), (42, 11), (42, 12), (42, 13), (42, 14), (42, 15)] T H H := wfr.rf
  have u1502 := RC_k hRC_r0
  have u1503 := DM_k hDM_rp
  have h1504 : MA9 T H rp (d 1) := hDM_rp.2.2.2.1
  have h1505 : MA10 T H rp (d 2) := hDM_rp.2.2.2.2.1
  have h1506 : MA11 T H rp (d 3) := hDM_rp.2.2.2.2.2.1
  have h1507 : MA12 T H rp (d 4) := hDM_rp.2.2.2.2.2.2.1
  have h1508 : MA13 T H rp (d 5) := hDM_rp.2.2.2.2.2.2.2.1
  have h1509 : MA14 T H rp (d 6) := hDM_rp.2.2.2.2.2.2.2.2.1
  have h1510 : MA15 T H rp (d 7) := hDM_rp.2.2.2.2.2.2.2.2.2.1
  have h1511 : MA16 T H rp (d 8) := hDM_rp.2.2.2.2.2.2.2.2.2.2.1
  have h1512 : MA17 T H rp (d 9) := hDM_rp.2.2.2.2.2.2.2.2.2.2.2.1
  have h1513 : MA18 T H rp (d 10) := hDM_rp.2.2.2.2.2.2.2.2.2.2.2.2.1
  have h1514 : MA19 T H rp (d 11) := hDM_rp.2.2.2.2.2.2.2.2.2.2.2.2.2.1
  have h1515 : MA20 T H rp (d 12) := hDM_rp.2.2.2.2.2.2.2.2.2.2.2.2.2.2.1
  have h1516 : MA21 T H rp (d 13) := hDM_rp.2.2.2.2.2.2.2.2.2.2.2.2.2.2.2.1
  have h1517 : MA22 T H rp (d 14) := hDM_rp.2.2.2.2.2.2.2.2.2.2.2.2.2.2.2.2.1
  have h1518 : MA23 T H rp (d 15) := hDM_rp.2.2.2.2.2.2.2.2.2.2.2.2.2.2.2.2.2.1
  have h1519 : MA25 T H rp (d 17) := hDM_rp.2.2.2.2.2.2.2.2.2.2.2.2.2.2.2.2.2.2.1
  have h1520 : MA26 T H rp (d 16) := hDM_rp.2.2.2.2.2.2.2.2.2.2.2.2.2.2.2.2.2.2.2
  intro v1521 H1522 fo1526 po1527 w1523 f1524 b1528 h1529 h1530 x1531 x1532
  have u1533 := RO_k h1529
  refine wp_of e180 c180_29 (rw_aload_n (pc' := 30) (v := .ref r0) rfl rfl rfl ?_)
  have k1534 : H1522 r0 4 = H r0 4 := (f1524 r0 4 _ g0 rfl)
  have q1535 : H1522 r0 4 = (rp : Int) := k1534.trans qrp
  refine wp_of e180 c180_30 (xg_K (pc' := 33) lf_9_166 w1523 g0 sh_42 (by decide) (by decide) rfl q1535 rfl ?_)
  refine wp_of e180 c180_33 (rw_aload_n (pc' := 34) (v := .ref r0) rfl rfl rfl ?_)
  refine wp_of e180 c180_34 (rw_ldcS (pc' := 36) (k := 74) rfl rfl rfl rfl ?_)
  refine wp_of e180 c180_36 (rw_iconst (pc' := 37) rfl ?_)
  refine wp_of e180 c180_37 (rw_bipush (pc' := 39) (z := 9) rfl (by decide) ?_)
  have k1536 : H1522 r0 5 = H r0 5 := (f1524 r0 5 _ g0 rfl)
  have q1537 : H1522 r0 5 = (rb : Int) := k1536.trans qrb
  refine wp_of e180 c180_39 (xc_V (pc' := 42) (r := r0) (as := [.ref 74, vI 0, vI 9]) (st := [.ref rp]) (lm_9_216) rfl rfl (Nat.le_of_ble_eq_true rfl) w1523 g0 sh_42 (by decide) rfl (by decide) (u_182_o (fo := fo1526) (po := po1527) (kk := 72983685) w1523 g0 rfl ⟨by decide, by decide⟩ ⟨by decide, by decide⟩ q1537 grb (by decide +kernel) h1529) (fun R1538 T1539 H1540 p1541 => ?_))
  obtain ⟨e1542, e1544, z1545, e1543, b1546, p1547⟩ := p1541
  subst e1542
  subst e1543
  subst e1544
  obtain ⟨a1548, a1549⟩ := p1547
  show wp _ _ 180 42 [(0, .ref r0), (1, vI v1521)] [vI z1545, .ref rp] _ H1522 _
  have u1550 := RO_k a1549
  refine wp_of e180 c180_42 (xp_I (pc' := 45) lf_9_222 w1523 grp sh_54 (by decide) (by decide) ty_54_1 rfl rfl (Int.le_trans (by decide) b1546.1) (Int.le_trans b1546.2 (by decide)) ⟨Int.le_trans (by decide) b1546.1, Int.le_trans b1546.2 (by decide)⟩ rfl (fun H1551 e1552 w1553 => ?_))
  have f1554 := f1524.put' e1552 grp rfl
  have k1555 : H1551 rp 1 = z1545 := wq_u_s e1552
  have h1556 : FZ T H1551 rp N0 H0 := FZ_put h1530 (by decide) e1552
  have h1557 : RO T H1551 r0 fo1526 po1527 := (RO_fr w1523 g0 ((wfr.rf (l := [(54, 1)])).put' e1552 grp rfl) rfl a1549)
  exact wp_lc (ks := [0, 1]) (wl_c rfl (wl_c rfl wl_n)) rfl (by decide) (u_180_k_t45o hW g0 qrp grp qrb grb p0 hRC_r0 hDM_rp hFZ_rp v1521 H1551 fo1526 po1527 w1553 f1554 ⟨by omega, by omega⟩ h1557 h1556 (by omega) (by omega))

set_option maxHeartbeats 4000000 in
theorem u_180_k {kt : Nat → Option mc_E} {T : wq_T} {H : wq_H} {r0 : Nat} {rp : Nat} {rb : Nat} {B : Nat → Int} {n : Int} {q : Int} {d : xD} {N0 : Nat} {H0 : wq_H} (hW : WT T H) (g0 : T.2.2.2 r0 = some 42) (qrp : H r0 4 = (rp : Int)) (grp : T.2.2.2 rp = some 54) (qrb : H r0 5 = (rb : Int)) (grb : T.2.2.2 rb = some 43) (p0 : xK B n q = 1) (hRC_r0 : RC T H r0 B n q) (hDM_rp : DM T H rp r0 d) (hFZ_rp : FZ T H rp N0 H0) : wpc kt 5 180 [.ref r0] T H (uq_180_k r0 rp rb B n q d N0 H0 T H) := by
  refine wp_enter e180 (Nat.le_of_ble_eq_true rfl) rfl ?_
  have f0 : wfr [(54, 0), (54, 1), (54, 2), (42, 8), (42, 9), (42, 10), (42, 11), (42, 12), (42, 13), (42, 14), (42, 15)] T H H := wfr.rf
  show wp _ _ 180 0 [(0, .ref r0)] [] _ H _
  have u1392 := RC_k hRC_r0
  have u1393 := DM_k hDM_rp
  have h1394 : MA9 T H rp (d 1) := hDM_rp.2.2.2.1
  have h1395 : MA10 T H rp (d 2) := hDM_rp.2.2.2.2.1
  have h1396 : MA11 T H rp (d 3) := hDM_rp.2.2.2.2.2.1
  have h1397 : MA12 T H rp (d 4) := hDM_rp.2.2.2.2.2.2.1
  have h1398 : MA13 T H rp (d 5) := hDM_rp.2.2.2.2.2.2.2.1
  have h1399 : MA14 T H rp (d 6) := hDM_rp.2.2.2.2.2.2.2.2.1
  have h1400 : MA15 T H rp (d 7) := hDM_rp.2.2.2.2.2.2.2.2.2.1
  have h1401 : MA16 T H rp (d 8) := hDM_rp.2.2.2.2.2.2.2.2.2.2.1
  have h1402 : MA17 T H rp (d 9) := hDM_rp.2.2.2.2.2.2.2.2.2.2.2.1
  have h1403 : MA18 T H rp (d 10) := hDM_rp.2.2.2.2.2.2.2.2.2.2.2.2.1
  have h1404 : MA19 T H rp (d 11) := hDM_rp.2.2.2.2.2.2.2.2.2.2.2.2.2.1
  have h1405 : MA20 T H rp (d 12) := hDM_rp.2.2.2.2.2.2.2.2.2.2.2.2.2.2.1
  have h1406 : MA21 T H rp (d 13) := hDM_rp.2.2.2.2.2.2.2.2.2.2.2.2.2.2.2.1
  have h1407 : MA22 T H rp (d 14) := hDM_rp.2.2.2.2.2.2.2.2.2.2.2.2.2.2.2.2.1
  have h1408 : MA23 T H rp (d 15) := hDM_rp.2.2.2.2.2.2.2.2.2.2.2.2.2.2.2.2.2.1
  have h1409 : MA25 T H rp (d 17) := hDM_rp.2.2.2.2.2.2.2.2.2.2.2.2.2.2.2.2.2.2.1
  have h1410 : MA26 T H rp (d 16) := hDM_rp.2.2.2.2.2.2.2.2.2.2.2.2.2.2.2.2.2.2.2
  refine wp_of e180 c180_0 (rw_aload_n (pc' := 1) (v := .ref r0) rfl rfl rfl ?_)
  refine wp_of e180 c180_1 (xg_K (pc' := 4) lf_9_166 hW g0 sh_42 (by decide) (by decide) rfl qrp rfl ?_)
  refine wp_of e180 c180_4 (xg_I (pc' := 7) lf_9_185 hW grp sh_54 (by decide) (by decide) ty_54_0 rfl rfl (fun b1558 b1559 => ?_))
  refine wp_of e180 c180_7 (rw_if_le (p1 := 15) (p2 := 10) (by decide) rfl ⟨Int.le_trans (by decide) b1558, Int.le_trans b1559 (by decide)⟩ (fun c1560 => ?_) (fun c1560 => ?_))
  · refine wp_of e180 c180_15 (rw_aload_n (pc' := 16) (v := .ref r0) rfl rfl rfl ?_)
    have u1561 := RC_a hRC_r0
    have h1562 : TM T H rb B := RC_tm hRC_r0 qrb
    refine wp_of e180 c180_16 (xc_V (pc' := 19) (r := r0) (as := []) (st := []) (lm_9_118) rfl rfl (Nat.le_of_ble_eq_true rfl) hW g0 sh_42 (by decide) rfl (by decide) (u_172_k (B := B) (n := n) (a := (xE B n q)) (q := (xN B n q)) hW g0 qrb grb (by omega) (by omega) (by omega) (by omega) (by omega) (rfl) h1562) (fun R1563 T1564 H1565 p1566 => ?_))
    obtain ⟨e1567, w1569, f1570, e1568, p1571⟩ := p1566
    subst e1567
    subst e1568
    have f1573 := f0.tr f1570 rfl
    show wp _ _ 180 19 [(0, .ref r0)] [] _ H1565 _
    have u1574 := RC_k p1571
    refine wp_of e180 c180_19 (rw_aload_n (pc' := 20) (v := .ref r0) rfl rfl rfl ?_)
    refine wp_of e180 c180_20 (rw_ldcS (pc' := 22) (k := 73) rfl rfl rfl rfl ?_)
    refine wp_of e180 c180_22 (rw_iconst (pc' := 23) rfl ?_)
    refine wp_of e180 c180_23 (rw_bipush (pc' := 25) (z := 24) rfl (by decide) ?_)
    have k1575 : H1565 r0 5 = H r0 5 := (f1570 r0 5 _ g0 rfl)
    have q1576 : H1565 r0 5 = (rb : Int) := k1575.trans qrb
    refine wp_of e180 c180_25 (xc_V (pc' := 28) (r := r0) (as := [.ref 73, vI 1, vI 24]) (st := []) (lm_9_216) rfl rfl (Nat.le_of_ble_eq_true rfl) w1569 g0 sh_42 (by decide) rfl (by decide) (u_182_k (B := B) (n := n) (q := ((xN B n q))) (kk := 8902227) (lo := 1) (hi := 24) w1569 g0 rfl ⟨by decide, by decide⟩ ⟨by decide, by decide⟩ q1576 grb (by decide +kernel) (by omega) (by omega) p1571) (fun R1577 T1578 H1579 p1580 => ?_))
    obtain ⟨e1581, w1583, f1584, z1585, e1582, b1586, p1587⟩ := p1580
    subst e1581
    subst e1582
    rcases p1587 with ⟨a1588, a1589, a1590, a1591, a1592, a1593⟩ | ⟨a1594, a1595, a1596⟩ | ⟨a1597, a1598, a1599, a1600⟩
    · have f1601 := f1573.tr f1584 rfl
      show wp _ _ 180 28 [(0, .ref r0)] [vI z1585] _ H1579 _
      have u1602 := RC_k a1593
      refine wp_of e180 c180_28 (rw_istore_n (pc' := 29) (z := z1585) (L' := [(1, vI z1585), (0, .ref r0)]) rfl rfl rfl ?_)
      refine wp_of e180 c180_29 (rw_aload_n (pc' := 30) (v := .ref r0) rfl rfl rfl ?_)
      have k1603 : H1579 r0 4 = H r0 4 := ((f1584 r0 4 _ g0 rfl).trans (f1570 r0 4 _ g0 rfl))
      have q1604 : H1579 r0 4 = (rp : Int) := k1603.trans qrp
      refine wp_of e180 c180_30 (xg_K (pc' := 33) lf_9_166 w1583 g0 sh_42 (by decide) (by decide) rfl q1604 rfl ?_)
      refine wp_of e180 c180_33 (rw_aload_n (pc' := 34) (v := .ref r0) rfl rfl rfl ?_)
      refine wp_of e180 c180_34 (rw_ldcS (pc' := 36) (k := 74) rfl rfl rfl rfl ?_)
      refine wp_of e180 c180_36 (rw_iconst (pc' := 37) rfl ?_)
      refine wp_of e180 c180_37 (rw_bipush (pc' := 39) (z := 9) rfl (by decide) ?_)
      have k1605 : H1579 r0 5 = H1565 r0 5 := (f1584 r0 5 _ g0 rfl)
      have q1606 : H1579 r0 5 = (rb : Int) := k1605.trans q1576
      refine wp_of e180 c180_39 (xc_V (pc' := 42) (r := r0) (as := [.ref 74, vI 0, vI 9]) (st := [.ref rp]) (lm_9_216) rfl rfl (Nat.le_of_ble_eq_true rfl) w1583 g0 sh_42 (by decide) rfl (by decide) (u_182_k (B := B) (n := n) (q := ((xN B n (xN B n ((xN B n q)))))) (kk := 72983685) (lo := 0) (hi := 9) w1583 g0 rfl ⟨by decide, by decide⟩ ⟨by decide, by decide⟩ q1606 grb (by decide +kernel) (by omega) (by omega) a1593) (fun R1607 T1608 H1609 p1610 => ?_))
      obtain ⟨e1611, w1613, f1614, z1615, e1612, b1616, p1617⟩ := p1610
      subst e1611
      subst e1612
      rcases p1617 with ⟨a1618, a1619, a1620, a1621, a1622, a1623⟩ | ⟨a1624, a1625, a1626⟩ | ⟨a1627, a1628, a1629, a1630⟩
      · have f1631 := f1601.tr f1614 rfl
        show wp _ _ 180 42 [(1, vI z1585), (0, .ref r0)] [vI z1615, .ref rp] _ H1609 _
        have u1632 := RC_k a1623
        have h1633 : FZ T H1609 rp N0 H0 := (FZ_fr w1583 grp f1614 rfl (FZ_fr w1569 grp f1584 rfl (FZ_fr hW grp f1570 rfl hFZ_rp)))
        refine wp_of e180 c180_42 (xp_I (pc' := 45) lf_9_222 w1613 grp sh_54 (by decide) (by decide) ty_54_1 rfl rfl (Int.le_trans (by decide) b1616.1) (Int.le_trans b1616.2 (by decide)) ⟨Int.le_trans (by decide) b1616.1, Int.le_trans b1616.2 (by decide)⟩ rfl (fun H1634 e1635 w1636 => ?_))
        have f1637 := f1631.put' e1635 grp rfl
        have k1638 : H1634 rp 1 = z1615 := wq_u_s e1635
        have h1639 : FZ T H1634 rp N0 H0 := FZ_put h1633 (by decide) e1635
        refine wp_of e180 c180_45 (rw_aload_n (pc' := 46) (v := .ref r0) rfl rfl rfl ?_)
        have k1640 : H1634 r0 4 = H1579 r0 4 := ((wq_u_t e1635 grp g0 rfl 4).trans (f1614 r0 4 _ g0 rfl))
        have q1641 : H1634 r0 4 = (rp : Int) := k1640.trans q1604
        refine wp_of e180 c180_46 (xg_K (pc' := 49) lf_9_166 w1636 g0 sh_42 (by decide) (by decide) rfl q1641 rfl ?_)
        refine wp_of e180 c180_49 (rw_aload_n (pc' := 50) (v := .ref r0) rfl rfl rfl ?_)
        refine wp_of e180 c180_50 (rw_ldcS (pc' := 52) (k := 75) rfl rfl rfl rfl ?_)
        refine wp_of e180 c180_52 (rw_iconst (pc' := 53) rfl ?_)
        refine wp_of e180 c180_53 (rw_iconst (pc' := 54) rfl ?_)
        have k1642 : H1634 r0 5 = H1579 r0 5 := ((wq_u_t e1635 grp g0 rfl 5).trans (f1614 r0 5 _ g0 rfl))
        have q1643 : H1634 r0 5 = (rb : Int) := k1642.trans q1606
        have h1644 : RC T H1634 r0 B n (xN B n (xN B n ((xN B n (xN B n ((xN B n q))))))) := (RC_fr w1613 g0 ((wfr.rf (l := [(54, 1)])).put' e1635 grp rfl) rfl a1623)
        refine wp_of e180 c180_54 (xc_V (pc' := 57) (r := r0) (as := [.ref 75, vI 0, vI 3]) (st := [.ref rp]) (lm_9_216) rfl rfl (Nat.le_of_ble_eq_true rfl) w1636 g0 sh_42 (by decide) rfl (by decide) (u_182_k (B := B) (n := n) (q := ((xN B n (xN B n ((xN B n (xN B n ((xN B n q))))))))) (kk := 15558) (lo := 0) (hi := 3) w1636 g0 rfl ⟨by decide, by decide⟩ ⟨by decide, by decide⟩ q1643 grb (by decide +kernel) (by omega) (by omega) h1644) (fun R1645 T1646 H1647 p1648 => ?_))
        obtain ⟨e1649, w1651, f1652, z1653, e1650, b1654, p1655⟩ := p1648
        subst e1649
        subst e1650
        rcases p1655 with ⟨a1656, a1657, a1658, a1659, a1660, a1661⟩ | ⟨a1662, a1663, a1664⟩ | ⟨a1665, a1666, a1667, a1668⟩
        · have f1669 := f1637.tr f1652 rfl
          show wp _ _ 180 57 [(1, vI z1585), (0, .ref r0)] [vI z1653, .ref rp] _ H1647 _
          have u1670 := RC_k a1661
          have h1671 : FZ T H1647 rp N0 H0 := (FZ_fr w1636 grp f1652 rfl h1639)
          refine wp_of e180 c180_57 (xp_I (pc' := 60) lf_9_226 w1651 grp sh_54 (by decide) (by decide) ty_54_2 rfl rfl (Int.le_trans (by decide) b1654.1) (Int.le_trans b1654.2 (by decide)) ⟨Int.le_trans (by decide) b1654.1, Int.le_trans b1654.2 (by decide)⟩ rfl (fun H1672 e1673 w1674 => ?_))
          have f1675 := f1669.put' e1673 grp rfl
          have k1676 : H1672 rp 2 = z1653 := wq_u_s e1673
          have h1677 : FZ T H1672 rp N0 H0 := FZ_put h1671 (by decide) e1673
          refine wp_of e180 c180_60 (rw_aload_n (pc' := 61) (v := .ref r0) rfl rfl rfl ?_)
          have k1678 : H1672 r0 9 = H1647 r0 9 := (wq_u_t e1673 grp g0 rfl 9)
          refine wp_of e180 c180_61 (xg_I (pc' := 64) lf_9_75 w1674 g0 sh_42 (by decide) (by decide) ty_42_9 rfl rfl (fun b1679 b1680 => ?_))
          refine wp_of e180 c180_64 (rw_iconst (pc' := 65) rfl ?_)
          refine wp_of e180 c180_65 (rw_icmp_eq (p1 := 76) (p2 := 68) (by decide) rfl ⟨Int.le_trans (by decide) b1679, Int.le_trans b1680 (by decide)⟩ ⟨by decide, by decide⟩ (fun c1681 => ?_) (fun c1681 => ?_))
          · exfalso
            omega
          · refine wp_of e180 c180_68 (rw_aload_n (pc' := 69) (v := .ref r0) rfl rfl rfl ?_)
            have k1682 : H1672 r0 4 = H1634 r0 4 := ((wq_u_t e1673 grp g0 rfl 4).trans (f1652 r0 4 _ g0 rfl))
            have q1683 : H1672 r0 4 = (rp : Int) := k1682.trans q1641
            refine wp_of e180 c180_69 (xg_K (pc' := 72) lf_9_166 w1674 g0 sh_42 (by decide) (by decide) rfl q1683 rfl ?_)
            refine wp_of e180 c180_72 (rw_iload_n (pc' := 73) (z := z1585) rfl rfl ?_)
            refine wp_of e180 c180_73 (xp_I (pc' := 76) lf_9_185 w1674 grp sh_54 (by decide) (by decide) ty_54_0 rfl rfl (b1586.1) (by omega) ⟨Int.le_trans (by decide) b1586.1, Int.le_trans b1586.2 (by decide)⟩ rfl (fun H1684 e1685 w1686 => ?_))
            have f1687 := f1675.put' e1685 grp rfl
            have k1688 : H1684 rp 0 = z1585 := wq_u_s e1685
            have h1689 : FZ T H1684 rp N0 H0 := FZ_put h1677 (by decide) e1685
            have k1690 : H1684 rp 1 = H1634 rp 1 := ((wq_u_j e1685 rfl).trans ((wq_u_j e1673 rfl).trans (f1652 rp 1 _ grp rfl)))
            have k1691 : H1684 rp 2 = H1672 rp 2 := (wq_u_j e1685 rfl)
            have k1692 : H1684 rp 3 = H rp 3 := ((wq_u_j e1685 rfl).trans ((wq_u_j e1673 rfl).trans ((f1652 rp 3 _ grp rfl).trans ((wq_u_j e1635 rfl).trans ((f1614 rp 3 _ grp rfl).trans ((f1584 rp 3 _ grp rfl).trans (f1570 rp 3 _ grp rfl)))))))
            have k1693 : H1684 rp 4 = H rp 4 := ((wq_u_j e1685 rfl).trans ((wq_u_j e1673 rfl).trans ((f1652 rp 4 _ grp rfl).trans ((wq_u_j e1635 rfl).trans ((f1614 rp 4 _ grp rfl).trans ((f1584 rp 4 _ grp rfl).trans (f1570 rp 4 _ grp rfl)))))))
            have k1694 : H1684 rp 5 = H rp 5 := ((wq_u_j e1685 rfl).trans ((wq_u_j e1673 rfl).trans ((f1652 rp 5 _ grp rfl).trans ((wq_u_j e1635 rfl).trans ((f1614 rp 5 _ grp rfl).trans ((f1584 rp 5 _ grp rfl).trans (f1570 rp 5 _ grp rfl)))))))
            have k1695 : H1684 rp 6 = H rp 6 := ((wq_u_j e1685 rfl).trans ((wq_u_j e1673 rfl).trans ((f1652 rp 6 _ grp rfl).trans ((wq_u_j e1635 rfl).trans ((f1614 rp 6 _ grp rfl).trans ((f1584 rp 6 _ grp rfl).trans (f1570 rp 6 _ grp rfl)))))))
            have k1696 : H1684 rp 7 = H rp 7 := ((wq_u_j e1685 rfl).trans ((wq_u_j e1673 rfl).trans ((f1652 rp 7 _ grp rfl).trans ((wq_u_j e1635 rfl).trans ((f1614 rp 7 _ grp rfl).trans ((f1584 rp 7 _ grp rfl).trans (f1570 rp 7 _ grp rfl)))))))
            have k1697 : H1684 rp 8 = H rp 8 := ((wq_u_j e1685 rfl).trans ((wq_u_j e1673 rfl).trans ((f1652 rp 8 _ grp rfl).trans ((wq_u_j e1635 rfl).trans ((f1614 rp 8 _ grp rfl).trans ((f1584 rp 8 _ grp rfl).trans (f1570 rp 8 _ grp rfl)))))))
            have k1698 : H1684 r0 16 = H r0 16 := ((wq_u_t e1685 grp g0 rfl 16).trans ((wq_u_t e1673 grp g0 rfl 16).trans ((f1652 r0 16 _ g0 rfl).trans ((wq_u_t e1635 grp g0 rfl 16).trans ((f1614 r0 16 _ g0 rfl).trans ((f1584 r0 16 _ g0 rfl).trans (f1570 r0 16 _ g0 rfl)))))))
            have o1699 : (xl0 B n q d) = (0, (xN B n q), (xN B n (xN B n ((xN B n (xN B n ((xN B n (xN B n ((xN B n q))))))))))) := by
              unfold xl0 xlaw
              repeat first | rw [xs_0 (Int.le_antisymm (by omega -splitDisjunctions) (by omega -splitDisjunctions))] | rw [xs_1 (by omega -splitDisjunctions)] | rw [if_pos (Int.le_antisymm (by omega -splitDisjunctions) (by omega -splitDisjunctions))] | rw [if_pos (by omega -splitDisjunctions)] | rw [if_pos (And.intro (by omega -splitDisjunctions) (by omega -splitDisjunctions))] | rw [if_neg (by omega -splitDisjunctions)] | rw [xs_1 (by omega)] | rw [if_neg (by omega)] | rw [xs_0 (by omega)] | rw [if_pos (by omega)]
              first | done | rfl | assumption | (exfalso; omega -splitDisjunctions) | (refine Prod.ext ?_ (Prod.ext ?_ ?_) <;> (try dsimp only) <;> omega) | (exfalso; omega)
            have o1699a : ((xl0 B n q d)).1 = 0 := by rw [o1699]
            have o1699b : ((xl0 B n q d)).2.1 = (xN B n q) := by rw [o1699]
            have o1699c : ((xl0 B n q d)).2.2 = (xN B n (xN B n ((xN B n (xN B n ((xN B n (xN B n ((xN B n q)))))))))) := by rw [o1699]
            have _l := @xdlaw_v B n (xN B n q) d
            have h1700 : RC T H1684 r0 B n (xN B n (xN B n ((xN B n (xN B n ((xN B n (xN B n ((xN B n q)))))))))) := (RC_fr w1674 g0 ((wfr.rf (l := [(54, 0)])).put' e1685 grp rfl) rfl (RC_fr w1651 g0 ((wfr.rf (l := [(54, 2)])).put' e1673 grp rfl) rfl a1661))
            have h1701 : MA9 T H1684 rp (d 1) := (MA9_fr w1674 grp ((wfr.rf (l := [(54, 0)])).put' e1685 grp rfl) rfl (MA9_fr w1651 grp ((wfr.rf (l := [(54, 2)])).put' e1673 grp rfl) rfl (MA9_fr w1636 grp f1652 rfl (MA9_fr w1613 grp ((wfr.rf (l := [(54, 1)])).put' e1635 grp rfl) rfl (MA9_fr w1583 grp f1614 rfl (MA9_fr w1569 grp f1584 rfl (MA9_fr hW grp f1570 rfl h1394)))))))
            have h1702 : MA10 T H1684 rp (d 2) := (MA10_fr w1674 grp ((wfr.rf (l := [(54, 0)])).put' e1685 grp rfl) rfl (MA10_fr w1651 grp ((wfr.rf (l := [(54, 2)])).put' e1673 grp rfl) rfl (MA10_fr w1636 grp f1652 rfl (MA10_fr w1613 grp ((wfr.rf (l := [(54, 1)])).put' e1635 grp rfl) rfl (MA10_fr w1583 grp f1614 rfl (MA10_fr w1569 grp f1584 rfl (MA10_fr hW grp f1570 rfl h1395)))))))
            have h1703 : MA11 T H1684 rp (d 3) := (MA11_fr w1674 grp ((wfr.rf (l := [(54, 0)])).put' e1685 grp rfl) rfl (MA11_fr w1651 grp ((wfr.rf (l := [(54, 2)])).put' e1673 grp rfl) rfl (MA11_fr w1636 grp f1652 rfl (MA11_fr w1613 grp ((wfr.rf (l := [(54, 1)])).put' e1635 grp rfl) rfl (MA11_fr w1583 grp f1614 rfl (MA11_fr w1569 grp f1584 rfl (MA11_fr hW grp f1570 rfl h1396)))))))
            have h1704 : MA12 T H1684 rp (d 4) := (MA12_fr w1674 grp ((wfr.rf (l := [(54, 0)])).put' e1685 grp rfl) rfl (MA12_fr w1651 grp ((wfr.rf (l := [(54, 2)])).put' e1673 grp rfl) rfl (MA12_fr w1636 grp f1652 rfl (MA12_fr w1613 grp ((wfr.rf (l := [(54, 1)])).put' e1635 grp rfl) rfl (MA12_fr w1583 grp f1614 rfl (MA12_fr w1569 grp f1584 rfl (MA12_fr hW grp f1570 rfl h1397)))))))
            have h1705 : MA13 T H1684 rp (d 5) := (MA13_fr w1674 grp ((wfr.rf (l := [(54, 0)])).put' e1685 grp rfl) rfl (MA13_fr w1651 grp ((wfr.rf (l := [(54, 2)])).put' e1673 grp rfl) rfl (MA13_fr w1636 grp f1652 rfl (MA13_fr w1613 grp ((wfr.rf (l := [(54, 1)])).put' e1635 grp rfl) rfl (MA13_fr w1583 grp f1614 rfl (MA13_fr w1569 grp f1584 rfl (MA13_fr hW grp f1570 rfl h1398)))))))
            have h1706 : MA14 T H1684 rp (d 6) := (MA14_fr w1674 grp ((wfr.rf (l := [(54, 0)])).put' e1685 grp rfl) rfl (MA14_fr w1651 grp ((wfr.rf (l := [(54, 2)])).put' e1673 grp rfl) rfl (MA14_fr w1636 grp f1652 rfl (MA14_fr w1613 grp ((wfr.rf (l := [(54, 1)])).put' e1635 grp rfl) rfl (MA14_fr w1583 grp f1614 rfl (MA14_fr w1569 grp f1584 rfl (MA14_fr hW grp f1570 rfl h1399)))))))
            have h1707 : MA15 T H1684 rp (d 7) := (MA15_fr w1674 grp ((wfr.rf (l := [(54, 0)])).put' e1685 grp rfl) rfl (MA15_fr w1651 grp ((wfr.rf (l := [(54, 2)])).put' e1673 grp rfl) rfl (MA15_fr w1636 grp f1652 rfl (MA15_fr w1613 grp ((wfr.rf (l := [(54, 1)])).put' e1635 grp rfl) rfl (MA15_fr w1583 grp f1614 rfl (MA15_fr w1569 grp f1584 rfl (MA15_fr hW grp f1570 rfl h1400)))))))
            have h1708 : MA16 T H1684 rp (d 8) := (MA16_fr w1674 grp ((wfr.rf (l := [(54, 0)])).put' e1685 grp rfl) rfl (MA16_fr w1651 grp ((wfr.rf (l := [(54, 2)])).put' e1673 grp rfl) rfl (MA16_fr w1636 grp f1652 rfl (MA16_fr w1613 grp ((wfr.rf (l := [(54, 1)])).put' e1635 grp rfl) rfl (MA16_fr w1583 grp f1614 rfl (MA16_fr w1569 grp f1584 rfl (MA16_fr hW grp f1570 rfl h1401)))))))
            have h1709 : MA17 T H1684 rp (d 9) := (MA17_fr w1674 grp ((wfr.rf (l := [(54, 0)])).put' e1685 grp rfl) rfl (MA17_fr w1651 grp ((wfr.rf (l := [(54, 2)])).put' e1673 grp rfl) rfl (MA17_fr w1636 grp f1652 rfl (MA17_fr w1613 grp ((wfr.rf (l := [(54, 1)])).put' e1635 grp rfl) rfl (MA17_fr w1583 grp f1614 rfl (MA17_fr w1569 grp f1584 rfl (MA17_fr hW grp f1570 rfl h1402)))))))
            have h1710 : MA18 T H1684 rp (d 10) := (MA18_fr w1674 grp ((wfr.rf (l := [(54, 0)])).put' e1685 grp rfl) rfl (MA18_fr w1651 grp ((wfr.rf (l := [(54, 2)])).put' e1673 grp rfl) rfl (MA18_fr w1636 grp f1652 rfl (MA18_fr w1613 grp ((wfr.rf (l := [(54, 1)])).put' e1635 grp rfl) rfl (MA18_fr w1583 grp f1614 rfl (MA18_fr w1569 grp f1584 rfl (MA18_fr hW grp f1570 rfl h1403)))))))
            have h1711 : MA19 T H1684 rp (d 11) := (MA19_fr w1674 grp ((wfr.rf (l := [(54, 0)])).put' e1685 grp rfl) rfl (MA19_fr w1651 grp ((wfr.rf (l := [(54, 2)])).put' e1673 grp rfl) rfl (MA19_fr w1636 grp f1652 rfl (MA19_fr w1613 grp ((wfr.rf (l := [(54, 1)])).put' e1635 grp rfl) rfl (MA19_fr w1583 grp f1614 rfl (MA19_fr w1569 grp f1584 rfl (MA19_fr hW grp f1570 rfl h1404)))))))
            have h1712 : MA20 T H1684 rp (d 12) := (MA20_fr w1674 grp ((wfr.rf (l := [(54, 0)])).put' e1685 grp rfl) rfl (MA20_fr w1651 grp ((wfr.rf (l := [(54, 2)])).put' e1673 grp rfl) rfl (MA20_fr w1636 grp f1652 rfl (MA20_fr w1613 grp ((wfr.rf (l := [(54, 1)])).put' e1635 grp rfl) rfl (MA20_fr w1583 grp f1614 rfl (MA20_fr w1569 grp f1584 rfl (MA20_fr hW grp f1570 rfl h1405)))))))
            have h1713 : MA21 T H1684 rp (d 13) := (MA21_fr w1674 grp ((wfr.rf (l := [(54, 0)])).put' e1685 grp rfl) rfl (MA21_fr w1651 grp ((wfr.rf (l := [(54, 2)])).put' e1673 grp rfl) rfl (MA21_fr w1636 grp f1652 rfl (MA21_fr w1613 grp ((wfr.rf (l := [(54, 1)])).put' e1635 grp rfl) rfl (MA21_fr w1583 grp f1614 rfl (MA21_fr w1569 grp f1584 rfl (MA21_fr hW grp f1570 rfl h1406)))))))
            have h1714 : MA22 T H1684 rp (d 14) := (MA22_fr w1674 grp ((wfr.rf (l := [(54, 0)])).put' e1685 grp rfl) rfl (MA22_fr w1651 grp ((wfr.rf (l := [(54, 2)])).put' e1673 grp rfl) rfl (MA22_fr w1636 grp f1652 rfl (MA22_fr w1613 grp ((wfr.rf (l := [(54, 1)])).put' e1635 grp rfl) rfl (MA22_fr w1583 grp f1614 rfl (MA22_fr w1569 grp f1584 rfl (MA22_fr hW grp f1570 rfl h1407)))))))
            have h1715 : MA23 T H1684 rp (d 15) := (MA23_fr w1674 grp ((wfr.rf (l := [(54, 0)])).put' e1685 grp rfl) rfl (MA23_fr w1651 grp ((wfr.rf (l := [(54, 2)])).put' e1673 grp rfl) rfl (MA23_fr w1636 grp f1652 rfl (MA23_fr w1613 grp ((wfr.rf (l := [(54, 1)])).put' e1635 grp rfl) rfl (MA23_fr w1583 grp f1614 rfl (MA23_fr w1569 grp f1584 rfl (MA23_fr hW grp f1570 rfl h1408)))))))
            have h1716 : MA25 T H1684 rp (d 17) := (MA25_fr w1674 grp ((wfr.rf (l := [(54, 0)])).put' e1685 grp rfl) rfl (MA25_fr w1651 grp ((wfr.rf (l := [(54, 2)])).put' e1673 grp rfl) rfl (MA25_fr w1636 grp f1652 rfl (MA25_fr w1613 grp ((wfr.rf (l := [(54, 1)])).put' e1635 grp rfl) rfl (MA25_fr w1583 grp f1614 rfl (MA25_fr w1569 grp f1584 rfl (MA25_fr hW grp f1570 rfl h1409)))))))
            have h1717 : MA26 T H1684 rp (d 16) := (MA26_fr w1674 grp ((wfr.rf (l := [(54, 0)])).put' e1685 grp rfl) rfl (MA26_fr w1651 grp ((wfr.rf (l := [(54, 2)])).put' e1673 grp rfl) rfl (MA26_fr w1636 grp f1652 rfl (MA26_fr w1613 grp ((wfr.rf (l := [(54, 1)])).put' e1635 grp rfl) rfl (MA26_fr w1583 grp f1614 rfl (MA26_fr w1569 grp f1584 rfl (MA26_fr hW grp f1570 rfl h1410)))))))
            exact wp_return e180 c180_76 rfl ⟨rfl, w1686, f1687, rfl, (Or.inl ⟨by omega, by omega, by omega, h1700, DM_mk hDM_rp.1 ⟨by omega, by omega, by omega, by omega, by omega, by omega, by omega, by omega, by omega, by omega, by omega, by omega⟩ (xdP_cg hDM_rp.2.2.1 (fun i h1 h2 => by unfold xdlaw; rw [wq_u_row (by omega), wq_u_row (by omega), wq_u_row (by omega)])) h1701 h1702 h1703 h1704 h1705 h1706 h1707 h1708 h1709 h1710 h1711 h1712 h1713 h1714 h1715 h1716 h1717 ⟨(by unfold xdlaw; rw [wq_u_row (by decide), wq_u_row (by decide), wq_u_row (by decide)]), (by unfold xdlaw; rw [wq_u_row (by decide), wq_u_row (by decide), wq_u_row (by decide)]), (by unfold xdlaw; rw [wq_u_row (by decide), wq_u_row (by decide), wq_u_row (by decide)]), (by unfold xdlaw; rw [wq_u_row (by decide), wq_u_row (by decide), wq_u_row (by decide)]), (by unfold xdlaw; rw [wq_u_row (by decide), wq_u_row (by decide), wq_u_row (by decide)]), (by unfold xdlaw; rw [wq_u_row (by decide), wq_u_row (by decide), wq_u_row (by decide)]), (by unfold xdlaw; rw [wq_u_row (by decide), wq_u_row (by decide), wq_u_row (by decide)]), (by unfold xdlaw; rw [wq_u_row (by decide), wq_u_row (by decide), wq_u_row (by decide)]), (by unfold xdlaw; rw [wq_u_row (by decide), wq_u_row (by decide), wq_u_row (by decide)]), (by unfold xdlaw; rw [wq_u_row (by decide), wq_u_row (by decide), wq_u_row (by decide)]), (by unfold xdlaw; rw [wq_u_row (by decide), wq_u_row (by decide), wq_u_row (by decide)]), (by unfold xdlaw; rw [wq_u_row (by decide), wq_u_row (by decide), wq_u_row (by decide)]), (by unfold xdlaw; rw [wq_u_row (by decide), wq_u_row (by decide), wq_u_row (by decide)]), (by unfold xdlaw; rw [wq_u_row (by decide), wq_u_row (by decide), wq_u_row (by decide)]), (by unfold xdlaw; rw [wq_u_row (by decide), wq_u_row (by decide), wq_u_row (by decide)]), (by unfold xdlaw; rw [wq_u_row (by decide), wq_u_row (by decide), wq_u_row (by decide)]), (by unfold xdlaw; rw [wq_u_row (by decide), wq_u_row (by decide), wq_u_row (by decide)])⟩, h1689⟩)⟩
        · have f1718 := f1637.tr f1652 rfl
          show wp _ _ 180 57 [(1, vI z1585), (0, .ref r0)] [vI z1653, .ref rp] _ H1647 _
          have u1719 := RO_k a1664
          have h1720 : FZ T H1647 rp N0 H0 := (FZ_fr w1636 grp f1652 rfl h1639)
          refine wp_of e180 c180_57 (xp_I (pc' := 60) lf_9_226 w1651 grp sh_54 (by decide) (by decide) ty_54_2 rfl rfl (Int.le_trans (by decide) b1654.1) (Int.le_trans b1654.2 (by decide)) ⟨Int.le_trans (by decide) b1654.1, Int.le_trans b1654.2 (by decide)⟩ rfl (fun H1721 e1722 w1723 => ?_))
          have f1724 := f1718.put' e1722 grp rfl
          have k1725 : H1721 rp 2 = z1653 := wq_u_s e1722
          have h1726 : FZ T H1721 rp N0 H0 := FZ_put h1720 (by decide) e1722
          have o1727 : (xl0 B n q d) = (xw B n ((xN B n (xN B n ((xN B n (xN B n ((xN B n q)))))))) 15558, ((xN B n (xN B n ((xN B n (xN B n ((xN B n q)))))))), ((xN B n (xN B n ((xN B n (xN B n ((xN B n q))))))))) := by
            unfold xl0 xlaw
            repeat first | rw [xs_0 (Int.le_antisymm (by omega -splitDisjunctions) (by omega -splitDisjunctions))] | rw [xs_1 (by omega -splitDisjunctions)] | rw [if_pos (Int.le_antisymm (by omega -splitDisjunctions) (by omega -splitDisjunctions))] | rw [if_pos (by omega -splitDisjunctions)] | rw [if_pos (And.intro (by omega -splitDisjunctions) (by omega -splitDisjunctions))] | rw [if_neg (by omega -splitDisjunctions)] | rw [xs_1 (by omega)] | rw [if_neg (by omega)] | rw [xs_0 (by omega)] | rw [if_pos (by omega)]
            first | done | rfl | assumption | (exfalso; omega -splitDisjunctions) | (refine Prod.ext ?_ (Prod.ext ?_ ?_) <;> (try dsimp only) <;> omega) | (exfalso; omega)
          have o1727a : ((xl0 B n q d)).1 = xw B n ((xN B n (xN B n ((xN B n (xN B n ((xN B n q)))))))) 15558 := by rw [o1727]
          have o1727b : ((xl0 B n q d)).2.1 = ((xN B n (xN B n ((xN B n (xN B n ((xN B n q)))))))) := by rw [o1727]
          have o1727c : ((xl0 B n q d)).2.2 = ((xN B n (xN B n ((xN B n (xN B n ((xN B n q)))))))) := by rw [o1727]
          have h1728 : RO T H1721 r0 (xw B n ((xN B n (xN B n ((xN B n (xN B n ((xN B n q)))))))) 15558) ((xN B n (xN B n ((xN B n (xN B n ((xN B n q)))))))) := (RO_fr w1651 g0 ((wfr.rf (l := [(54, 2)])).put' e1722 grp rfl) rfl a1664)
          exact wp_lc (ks := [1, 0]) (wl_c rfl (wl_c rfl wl_n)) rfl (by decide) (u_180_k_t60o hW g0 qrp grp qrb grb p0 hRC_r0 hDM_rp hFZ_rp z1585 H1721 (xw B n ((xN B n (xN B n ((xN B n (xN B n ((xN B n q)))))))) 15558) (((xN B n (xN B n ((xN B n (xN B n ((xN B n q))))))))) w1723 f1724 ⟨by omega, by omega⟩ h1728 h1726 (by omega) (by omega))
        · have f1729 := f1637.tr f1652 rfl
          show wp _ _ 180 57 [(1, vI z1585), (0, .ref r0)] [vI z1653, .ref rp] _ H1647 _
          have u1730 := RO_k a1668
          have h1731 : FZ T H1647 rp N0 H0 := (FZ_fr w1636 grp f1652 rfl h1639)
          refine wp_of e180 c180_57 (xp_I (pc' := 60) lf_9_226 w1651 grp sh_54 (by decide) (by decide) ty_54_2 rfl rfl (Int.le_trans (by decide) b1654.1) (Int.le_trans b1654.2 (by decide)) ⟨Int.le_trans (by decide) b1654.1, Int.le_trans b1654.2 (by decide)⟩ rfl (fun H1732 e1733 w1734 => ?_))
          have f1735 := f1729.put' e1733 grp rfl
          have k1736 : H1732 rp 2 = z1653 := wq_u_s e1733
          have h1737 : FZ T H1732 rp N0 H0 := FZ_put h1731 (by decide) e1733
          have o1738 : (xl0 B n q d) = (xh B n (xN B n ((xN B n (xN B n ((xN B n (xN B n ((xN B n q))))))))) 0 3, (xN B n ((xN B n (xN B n ((xN B n (xN B n ((xN B n q))))))))), (xN B n ((xN B n (xN B n ((xN B n (xN B n ((xN B n q)))))))))) := by
            unfold xl0 xlaw
            repeat first | rw [xs_0 (Int.le_antisymm (by omega -splitDisjunctions) (by omega -splitDisjunctions))] | rw [xs_1 (by omega -splitDisjunctions)] | rw [if_pos (Int.le_antisymm (by omega -splitDisjunctions) (by omega -splitDisjunctions))] | rw [if_pos (by omega -splitDisjunctions)] | rw [if_pos (And.intro (by omega -splitDisjunctions) (by omega -splitDisjunctions))] | rw [if_neg (by omega -splitDisjunctions)] | rw [xs_1 (by omega)] | rw [if_neg (by omega)] | rw [xs_0 (by omega)] | rw [if_pos (by omega)]
            first | done | rfl | assumption | (exfalso; omega -splitDisjunctions) | (refine Prod.ext ?_ (Prod.ext ?_ ?_) <;> (try dsimp only) <;> omega) | (exfalso; omega)
          have o1738a : ((xl0 B n q d)).1 = xh B n (xN B n ((xN B n (xN B n ((xN B n (xN B n ((xN B n q))))))))) 0 3 := by rw [o1738]
          have o1738b : ((xl0 B n q d)).2.1 = (xN B n ((xN B n (xN B n ((xN B n (xN B n ((xN B n q))))))))) := by rw [o1738]
          have o1738c : ((xl0 B n q d)).2.2 = (xN B n ((xN B n (xN B n ((xN B n (xN B n ((xN B n q))))))))) := by rw [o1738]
          have h1739 : RO T H1732 r0 (xh B n (xN B n ((xN B n (xN B n ((xN B n (xN B n ((xN B n q))))))))) 0 3) (xN B n ((xN B n (xN B n ((xN B n (xN B n ((xN B n q))))))))) := (RO_fr w1651 g0 ((wfr.rf (l := [(54, 2)])).put' e1733 grp rfl) rfl a1668)
          exact wp_lc (ks := [1, 0]) (wl_c rfl (wl_c rfl wl_n)) rfl (by decide) (u_180_k_t60o hW g0 qrp grp qrb grb p0 hRC_r0 hDM_rp hFZ_rp z1585 H1732 (xh B n (xN B n ((xN B n (xN B n ((xN B n (xN B n ((xN B n q))))))))) 0 3) ((xN B n ((xN B n (xN B n ((xN B n (xN B n ((xN B n q)))))))))) w1734 f1735 ⟨by omega, by omega⟩ h1739 h1737 (by omega) (by omega))
      · have f1740 := f1601.tr f1614 rfl
        show wp _ _ 180 42 [(1, vI z1585), (0, .ref r0)] [vI z1615, .ref rp] _ H1609 _
        have u1741 := RO_k a1626
        have h1742 : FZ T H1609 rp N0 H0 := (FZ_fr w1583 grp f1614 rfl (FZ_fr w1569 grp f1584 rfl (FZ_fr hW grp f1570 rfl hFZ_rp)))
        refine wp_of e180 c180_42 (xp_I (pc' := 45) lf_9_222 w1613 grp sh_54 (by decide) (by decide) ty_54_1 rfl rfl (Int.le_trans (by decide) b1616.1) (Int.le_trans b1616.2 (by decide)) ⟨Int.le_trans (by decide) b1616.1, Int.le_trans b1616.2 (by decide)⟩ rfl (fun H1743 e1744 w1745 => ?_))
        have f1746 := f1740.put' e1744 grp rfl
        have k1747 : H1743 rp 1 = z1615 := wq_u_s e1744
        have h1748 : FZ T H1743 rp N0 H0 := FZ_put h1742 (by decide) e1744
        have o1749 : (xl0 B n q d) = (xw B n ((xN B n (xN B n ((xN B n q))))) 72983685, ((xN B n (xN B n ((xN B n q))))), ((xN B n (xN B n ((xN B n q)))))) := by
          unfold xl0 xlaw
          repeat first | rw [xs_0 (Int.le_antisymm (by omega -splitDisjunctions) (by omega -splitDisjunctions))] | rw [xs_1 (by omega -splitDisjunctions)] | rw [if_pos (Int.le_antisymm (by omega -splitDisjunctions) (by omega -splitDisjunctions))] | rw [if_pos (by omega -splitDisjunctions)] | rw [if_pos (And.intro (by omega -splitDisjunctions) (by omega -splitDisjunctions))] | rw [if_neg (by omega -splitDisjunctions)] | rw [xs_1 (by omega)] | rw [if_neg (by omega)] | rw [xs_0 (by omega)] | rw [if_pos (by omega)]
          first | done | rfl | assumption | (exfalso; omega -splitDisjunctions) | (refine Prod.ext ?_ (Prod.ext ?_ ?_) <;> (try dsimp only) <;> omega) | (exfalso; omega)
        have o1749a : ((xl0 B n q d)).1 = xw B n ((xN B n (xN B n ((xN B n q))))) 72983685 := by rw [o1749]
        have o1749b : ((xl0 B n q d)).2.1 = ((xN B n (xN B n ((xN B n q))))) := by rw [o1749]
        have o1749c : ((xl0 B n q d)).2.2 = ((xN B n (xN B n ((xN B n q))))) := by rw [o1749]
        have h1750 : RO T H1743 r0 (xw B n ((xN B n (xN B n ((xN B n q))))) 72983685) ((xN B n (xN B n ((xN B n q))))) := (RO_fr w1613 g0 ((wfr.rf (l := [(54, 1)])).put' e1744 grp rfl) rfl a1626)
        exact wp_lc (ks := [1, 0]) (wl_c rfl (wl_c rfl wl_n)) rfl (by decide) (u_180_k_t45o hW g0 qrp grp qrb grb p0 hRC_r0 hDM_rp hFZ_rp z1585 H1743 (xw B n ((xN B n (xN B n ((xN B n q))))) 72983685) (((xN B n (xN B n ((xN B n q)))))) w1745 f1746 ⟨by omega, by omega⟩ h1750 h1748 (by omega) (by omega))
      · have f1751 := f1601.tr f1614 rfl
        show wp _ _ 180 42 [(1, vI z1585), (0, .ref r0)] [vI z1615, .ref rp] _ H1609 _
        have u1752 := RO_k a1630
        have h1753 : FZ T H1609 rp N0 H0 := (FZ_fr w1583 grp f1614 rfl (FZ_fr w1569 grp f1584 rfl (FZ_fr hW grp f1570 rfl hFZ_rp)))
        refine wp_of e180 c180_42 (xp_I (pc' := 45) lf_9_222 w1613 grp sh_54 (by decide) (by decide) ty_54_1 rfl rfl (Int.le_trans (by decide) b1616.1) (Int.le_trans b1616.2 (by decide)) ⟨Int.le_trans (by decide) b1616.1, Int.le_trans b1616.2 (by decide)⟩ rfl (fun H1754 e1755 w1756 => ?_))
        have f1757 := f1751.put' e1755 grp rfl
        have k1758 : H1754 rp 1 = z1615 := wq_u_s e1755
        have h1759 : FZ T H1754 rp N0 H0 := FZ_put h1753 (by decide) e1755
        have o1760 : (xl0 B n q d) = (xh B n (xN B n ((xN B n (xN B n ((xN B n q)))))) 0 9, (xN B n ((xN B n (xN B n ((xN B n q)))))), (xN B n ((xN B n (xN B n ((xN B n q))))))) := by
          unfold xl0 xlaw
          repeat first | rw [xs_0 (Int.le_antisymm (by omega -splitDisjunctions) (by omega -splitDisjunctions))] | rw [xs_1 (by omega -splitDisjunctions)] | rw [if_pos (Int.le_antisymm (by omega -splitDisjunctions) (by omega -splitDisjunctions))] | rw [if_pos (by omega -splitDisjunctions)] | rw [if_pos (And.intro (by omega -splitDisjunctions) (by omega -splitDisjunctions))] | rw [if_neg (by omega -splitDisjunctions)] | rw [xs_1 (by omega)] | rw [if_neg (by omega)] | rw [xs_0 (by omega)] | rw [if_pos (by omega)]
          first | done | rfl | assumption | (exfalso; omega -splitDisjunctions) | (refine Prod.ext ?_ (Prod.ext ?_ ?_) <;> (try dsimp only) <;> omega) | (exfalso; omega)
        have o1760a : ((xl0 B n q d)).1 = xh B n (xN B n ((xN B n (xN B n ((xN B n q)))))) 0 9 := by rw [o1760]
        have o1760b : ((xl0 B n q d)).2.1 = (xN B n ((xN B n (xN B n ((xN B n q)))))) := by rw [o1760]
        have o1760c : ((xl0 B n q d)).2.2 = (xN B n ((xN B n (xN B n ((xN B n q)))))) := by rw [o1760]
        have h1761 : RO T H1754 r0 (xh B n (xN B n ((xN B n (xN B n ((xN B n q)))))) 0 9) (xN B n ((xN B n (xN B n ((xN B n q)))))) := (RO_fr w1613 g0 ((wfr.rf (l := [(54, 1)])).put' e1755 grp rfl) rfl a1630)
        exact wp_lc (ks := [1, 0]) (wl_c rfl (wl_c rfl wl_n)) rfl (by decide) (u_180_k_t45o hW g0 qrp grp qrb grb p0 hRC_r0 hDM_rp hFZ_rp z1585 H1754 (xh B n (xN B n ((xN B n (xN B n ((xN B n q)))))) 0 9) ((xN B n ((xN B n (xN B n ((xN B n q))))))) w1756 f1757 ⟨by omega, by omega⟩ h1761 h1759 (by omega) (by omega))
    · have f1762 := f1573.tr f1584 rfl
      show wp _ _ 180 28 [(0, .ref r0)] [vI z1585] _ H1579 _
      have u1763 := RO_k a1596
      refine wp_of e180 c180_28 (rw_istore_n (pc' := 29) (z := z1585) (L' := [(1, vI z1585), (0, .ref r0)]) rfl rfl rfl ?_)
      have o1764 : (xl0 B n q d) = (xw B n ((xN B n q)) 8902227, ((xN B n q)), ((xN B n q))) := by
        unfold xl0 xlaw
        repeat first | rw [xs_0 (Int.le_antisymm (by omega -splitDisjunctions) (by omega -splitDisjunctions))] | rw [xs_1 (by omega -splitDisjunctions)] | rw [if_pos (Int.le_antisymm (by omega -splitDisjunctions) (by omega -splitDisjunctions))] | rw [if_pos (by omega -splitDisjunctions)] | rw [if_pos (And.intro (by omega -splitDisjunctions) (by omega -splitDisjunctions))] | rw [if_neg (by omega -splitDisjunctions)] | rw [xs_1 (by omega)] | rw [if_neg (by omega)] | rw [xs_0 (by omega)] | rw [if_pos (by omega)]
        first | done | rfl | assumption | (exfalso; omega -splitDisjunctions) | (refine Prod.ext ?_ (Prod.ext ?_ ?_) <;> (try dsimp only) <;> omega) | (exfalso; omega)
      have o1764a : ((xl0 B n q d)).1 = xw B n ((xN B n q)) 8902227 := by rw [o1764]
      have o1764b : ((xl0 B n q d)).2.1 = ((xN B n q)) := by rw [o1764]
      have o1764c : ((xl0 B n q d)).2.2 = ((xN B n q)) := by rw [o1764]
      have h1765 : FZ T H1579 rp N0 H0 := (FZ_fr w1569 grp f1584 rfl (FZ_fr hW grp f1570 rfl hFZ_rp))
      exact wp_lc (ks := [1, 0]) (wl_c rfl (wl_c rfl wl_n)) rfl (by decide) (u_180_k_t29o hW g0 qrp grp qrb grb p0 hRC_r0 hDM_rp hFZ_rp z1585 H1579 (xw B n ((xN B n q)) 8902227) (((xN B n q))) w1583 f1762 ⟨by omega, by omega⟩ a1596 h1765 (by omega) (by omega))
    · have f1766 := f1573.tr f1584 rfl
      show wp _ _ 180 28 [(0, .ref r0)] [vI z1585] _ H1579 _
      have u1767 := RO_k a1600
      refine wp_of e180 c180_28 (rw_istore_n (pc' := 29) (z := z1585) (L' := [(1, vI z1585), (0, .ref r0)]) rfl rfl rfl ?_)
      have o1768 : (xl0 B n q d) = (xh B n (xN B n ((xN B n q))) 1 24, (xN B n ((xN B n q))), (xN B n ((xN B n q)))) := by
        unfold xl0 xlaw
        repeat first | rw [xs_0 (Int.le_antisymm (by omega -splitDisjunctions) (by omega -splitDisjunctions))] | rw [xs_1 (by omega -splitDisjunctions)] | rw [if_pos (Int.le_antisymm (by omega -splitDisjunctions) (by omega -splitDisjunctions))] | rw [if_pos (by omega -splitDisjunctions)] | rw [if_pos (And.intro (by omega -splitDisjunctions) (by omega -splitDisjunctions))] | rw [if_neg (by omega -splitDisjunctions)] | rw [xs_1 (by omega)] | rw [if_neg (by omega)] | rw [xs_0 (by omega)] | rw [if_pos (by omega)]
        first | done | rfl | assumption | (exfalso; omega -splitDisjunctions) | (refine Prod.ext ?_ (Prod.ext ?_ ?_) <;> (try dsimp only) <;> omega) | (exfalso; omega)
      have o1768a : ((xl0 B n q d)).1 = xh B n (xN B n ((xN B n q))) 1 24 := by rw [o1768]
      have o1768b : ((xl0 B n q d)).2.1 = (xN B n ((xN B n q))) := by rw [o1768]
      have o1768c : ((xl0 B n q d)).2.2 = (xN B n ((xN B n q))) := by rw [o1768]
      have h1769 : FZ T H1579 rp N0 H0 := (FZ_fr w1569 grp f1584 rfl (FZ_fr hW grp f1570 rfl hFZ_rp))
      exact wp_lc (ks := [1, 0]) (wl_c rfl (wl_c rfl wl_n)) rfl (by decide) (u_180_k_t29o hW g0 qrp grp qrb grb p0 hRC_r0 hDM_rp hFZ_rp z1585 H1579 (xh B n (xN B n ((xN B n q))) 1 24) ((xN B n ((xN B n q)))) w1583 f1766 ⟨by omega, by omega⟩ a1600 h1769 (by omega) (by omega))
  · refine wp_of e180 c180_10 (rw_aload_n (pc' := 11) (v := .ref r0) rfl rfl rfl ?_)
    refine wp_of e180 c180_11 (rw_iconst (pc' := 12) rfl ?_)
    refine wp_of e180 c180_12 (xc_V (pc' := 15) (r := r0) (as := [vI 3]) (st := []) (lm_9_121) rfl rfl (Nat.le_of_ble_eq_true rfl) hW g0 sh_42 (by decide) rfl (by decide) (u_181_k (B := B) (n := n) (q := q) hW g0 ⟨by decide, by decide⟩ (by omega) hRC_r0) (fun R1770 T1771 H1772 p1773 => ?_))
    obtain ⟨e1774, w1776, f1777, e1775, p1778⟩ := p1773
    subst e1774
    subst e1775
    have f1780 := f0.tr f1777 rfl
    show wp _ _ 180 15 [(0, .ref r0)] [] _ H1772 _
    have u1781 := RO_k p1778
    refine wp_of e180 c180_15 (rw_aload_n (pc' := 16) (v := .ref r0) rfl rfl rfl ?_)
    refine wp_of e180 c180_16 (xc_V (pc' := 19) (r := r0) (as := []) (st := []) (lm_9_118) rfl rfl (Nat.le_of_ble_eq_true rfl) w1776 g0 sh_42 (by decide) rfl (by decide) (u_172_o (fo := 3) (po := q) w1776 g0 p1778) (fun R1782 T1783 H1784 p1785 => ?_))
    obtain ⟨e1786, e1788, e1787, p1789⟩ := p1785
    subst e1786
    subst e1787
    subst e1788
    show wp _ _ 180 19 [(0, .ref r0)] [] _ H1772 _
    have u1791 := RO_k p1789
    refine wp_of e180 c180_19 (rw_aload_n (pc' := 20) (v := .ref r0) rfl rfl rfl ?_)
    refine wp_of e180 c180_20 (rw_ldcS (pc' := 22) (k := 73) rfl rfl rfl rfl ?_)
    refine wp_of e180 c180_22 (rw_iconst (pc' := 23) rfl ?_)
    refine wp_of e180 c180_23 (rw_bipush (pc' := 25) (z := 24) rfl (by decide) ?_)
    have k1792 : H1772 r0 5 = H r0 5 := (f1777 r0 5 _ g0 rfl)
    have q1793 : H1772 r0 5 = (rb : Int) := k1792.trans qrb
    refine wp_of e180 c180_25 (xc_V (pc' := 28) (r := r0) (as := [.ref 73, vI 1, vI 24]) (st := []) (lm_9_216) rfl rfl (Nat.le_of_ble_eq_true rfl) w1776 g0 sh_42 (by decide) rfl (by decide) (u_182_o (fo := 3) (po := q) (kk := 8902227) w1776 g0 rfl ⟨by decide, by decide⟩ ⟨by decide, by decide⟩ q1793 grb (by decide +kernel) p1789) (fun R1794 T1795 H1796 p1797 => ?_))
    obtain ⟨e1798, e1800, z1801, e1799, b1802, p1803⟩ := p1797
    subst e1798
    subst e1799
    subst e1800
    obtain ⟨a1804, a1805⟩ := p1803
    show wp _ _ 180 28 [(0, .ref r0)] [vI z1801] _ H1772 _
    have u1806 := RO_k a1805
    refine wp_of e180 c180_28 (rw_istore_n (pc' := 29) (z := z1801) (L' := [(1, vI z1801), (0, .ref r0)]) rfl rfl rfl ?_)
    have o1807 : (xl0 B n q d) = (3, q, q) := by
      unfold xl0 xlaw
      repeat first | rw [xs_0 (Int.le_antisymm (by omega -splitDisjunctions) (by omega -splitDisjunctions))] | rw [xs_1 (by omega -splitDisjunctions)] | rw [if_pos (Int.le_antisymm (by omega -splitDisjunctions) (by omega -splitDisjunctions))] | rw [if_pos (by omega -splitDisjunctions)] | rw [if_pos (And.intro (by omega -splitDisjunctions) (by omega -splitDisjunctions))] | rw [if_neg (by omega -splitDisjunctions)] | rw [xs_1 (by omega)] | rw [if_neg (by omega)] | rw [xs_0 (by omega)] | rw [if_pos (by omega)]
      first | done | rfl | assumption | (exfalso; omega -splitDisjunctions) | (refine Prod.ext ?_ (Prod.ext ?_ ?_) <;> (try dsimp only) <;> omega) | (exfalso; omega)
    have o1807a : ((xl0 B n q d)).1 = 3 := by rw [o1807]
    have o1807b : ((xl0 B n q d)).2.1 = q := by rw [o1807]
    have o1807c : ((xl0 B n q d)).2.2 = q := by rw [o1807]
    have h1808 : FZ T H1772 rp N0 H0 := (FZ_fr hW grp f1777 rfl hFZ_rp)
    exact wp_lc (ks := [1, 0]) (wl_c rfl (wl_c rfl wl_n)) rfl (by decide) (u_180_k_t29o hW g0 qrp grp qrb grb p0 hRC_r0 hDM_rp hFZ_rp z1801 H1772 3 q w1776 f1780 ⟨by omega, by omega⟩ a1805 h1808 (by omega) (by omega))
