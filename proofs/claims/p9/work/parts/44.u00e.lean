/-! StrikeAwake$Reader.isName()Z  -/
abbrev uq_26 (r0 : Nat) (tk : Nat) (rb : Nat) (B : Nat → Int) (n : Int) (q : Int) (T : wq_T) (H : wq_H) : Option Value → wq_T → wq_H → Prop := fun r T' H' => T = T' ∧ H = H' ∧ ∃ z : Int, some (vI z) = r ∧ (0 ≤ z ∧ z ≤ 1) ∧ (((z = 1) ∧ (xre B n q = 11)) ∨ ((z = 0) ∧ (xre B n q ≠ 11)))
set_option maxHeartbeats 4000000 in
theorem u_26 {kt : Nat → Option mc_E} {T : wq_T} {H : wq_H} {r0 : Nat} {tk : Nat} {rb : Nat} {B : Nat → Int} {n : Int} {q : Int} (hW : WT T H) (g0 : T.2.2.2 r0 = some 3) (qtk : H r0 0 = (tk : Int)) (gtk : T.2.2.2 tk = some 4) (qrb : H tk 0 = (rb : Int)) (grb : T.2.2.2 rb = some 2) (hTC_tk : TC T H tk B n q) : wpc kt 3 26 [.ref r0] T H (uq_26 r0 tk rb B n q T H) := by
  refine wp_enter e26 (Nat.le_of_ble_eq_true rfl) rfl ?_
  show wp _ _ 26 0 [(0, .ref r0)] [] _ H _
  have u1016 := TC_k hTC_tk
  have _x := @xre_b B n q
  refine wp_of e26 c26_0 (rw_aload_n (pc' := 1) (v := .ref r0) rfl rfl rfl ?_)
  refine wp_of e26 c26_1 (xg_K (pc' := 4) lf_1_12 hW g0 sh_3 (by decide) (by decide) rfl qtk rfl ?_)
  refine wp_of e26 c26_4 (xg_I (pc' := 7) lf_1_38 hW gtk sh_4 (by decide) (by decide) ty_4_3 rfl rfl (fun b1017 b1018 => ?_))
  refine wp_of e26 c26_7 (rw_iconst (pc' := 8) rfl ?_)
  refine wp_of e26 c26_8 (rw_icmp_ne (p1 := 22) (p2 := 11) (by decide) rfl ⟨Int.le_trans (by decide) b1017, Int.le_trans b1018 (by decide)⟩ ⟨by decide, by decide⟩ (fun c1019 => ?_) (fun c1019 => ?_))
  · refine wp_of e26 c26_22 (rw_iconst (pc' := 23) rfl ?_)
    exact wp_zreturn e26 c26_23 rfl (by omega) ⟨rfl, rfl, 0, rfl, ⟨by decide, by decide⟩, (Or.inr ⟨by omega, by omega⟩)⟩
  · refine wp_of e26 c26_11 (rw_aload_n (pc' := 12) (v := .ref r0) rfl rfl rfl ?_)
    refine wp_of e26 c26_12 (xc_V (pc' := 15) (r := r0) (as := []) (st := []) (lm_1_54) rfl rfl (Nat.le_of_ble_eq_true rfl) hW g0 sh_3 (by decide) rfl (by decide) (u_18 (B := B) (n := n) (q := q) hW g0 qtk gtk qrb grb hTC_tk) (fun R1020 T1021 H1022 p1023 => ?_))
    obtain ⟨e1024, e1026, e1025⟩ := p1023
    subst e1024
    subst e1026
    rcases e1025 with ⟨e1025, b1030⟩ | ⟨r1027, e1025, b1028, b1029, b1030⟩
    · subst e1025
      show wp _ _ 26 15 [(0, .ref r0)] [.null] _ H _
      refine wp_of e26 c26_15 (rw_ifnonnull_n (p1 := 22) (p2 := 18) (by decide) rfl ?_)
      refine wp_of e26 c26_18 (rw_iconst (pc' := 19) rfl ?_)
      refine wp_of e26 c26_19 (rw_goto (p1 := 23) (by decide) ?_)
      exact wp_zreturn e26 c26_23 rfl (by omega) ⟨rfl, rfl, 1, rfl, ⟨by decide, by decide⟩, (Or.inl ⟨by omega, by omega⟩)⟩
    · subst e1025
      have c1031 : r1027 = 16 ∨ r1027 = 17 ∨ r1027 = 18 ∨ r1027 = 19 ∨ r1027 = 20 ∨ r1027 = 21 ∨ r1027 = 22 ∨ r1027 = 23 ∨ r1027 = 24 ∨ r1027 = 25 ∨ r1027 = 26 := by omega
      rcases c1031 with c1031 | c1031 | c1031 | c1031 | c1031 | c1031 | c1031 | c1031 | c1031 | c1031 | c1031
      · subst c1031
        show wp _ _ 26 15 [(0, .ref r0)] [.ref 16] _ H _
        refine wp_of e26 c26_15 (rw_ifnonnull_r (p1 := 22) (p2 := 18) (by decide) rfl ?_)
        refine wp_of e26 c26_22 (rw_iconst (pc' := 23) rfl ?_)
        exact wp_zreturn e26 c26_23 rfl (by omega) ⟨rfl, rfl, 0, rfl, ⟨by decide, by decide⟩, (Or.inr ⟨by omega, by omega⟩)⟩
      · subst c1031
        show wp _ _ 26 15 [(0, .ref r0)] [.ref 17] _ H _
        refine wp_of e26 c26_15 (rw_ifnonnull_r (p1 := 22) (p2 := 18) (by decide) rfl ?_)
        refine wp_of e26 c26_22 (rw_iconst (pc' := 23) rfl ?_)
        exact wp_zreturn e26 c26_23 rfl (by omega) ⟨rfl, rfl, 0, rfl, ⟨by decide, by decide⟩, (Or.inr ⟨by omega, by omega⟩)⟩
      · subst c1031
        show wp _ _ 26 15 [(0, .ref r0)] [.ref 18] _ H _
        refine wp_of e26 c26_15 (rw_ifnonnull_r (p1 := 22) (p2 := 18) (by decide) rfl ?_)
        refine wp_of e26 c26_22 (rw_iconst (pc' := 23) rfl ?_)
        exact wp_zreturn e26 c26_23 rfl (by omega) ⟨rfl, rfl, 0, rfl, ⟨by decide, by decide⟩, (Or.inr ⟨by omega, by omega⟩)⟩
      · subst c1031
        show wp _ _ 26 15 [(0, .ref r0)] [.ref 19] _ H _
        refine wp_of e26 c26_15 (rw_ifnonnull_r (p1 := 22) (p2 := 18) (by decide) rfl ?_)
        refine wp_of e26 c26_22 (rw_iconst (pc' := 23) rfl ?_)
        exact wp_zreturn e26 c26_23 rfl (by omega) ⟨rfl, rfl, 0, rfl, ⟨by decide, by decide⟩, (Or.inr ⟨by omega, by omega⟩)⟩
      · subst c1031
        show wp _ _ 26 15 [(0, .ref r0)] [.ref 20] _ H _
        refine wp_of e26 c26_15 (rw_ifnonnull_r (p1 := 22) (p2 := 18) (by decide) rfl ?_)
        refine wp_of e26 c26_22 (rw_iconst (pc' := 23) rfl ?_)
        exact wp_zreturn e26 c26_23 rfl (by omega) ⟨rfl, rfl, 0, rfl, ⟨by decide, by decide⟩, (Or.inr ⟨by omega, by omega⟩)⟩
      · subst c1031
        show wp _ _ 26 15 [(0, .ref r0)] [.ref 21] _ H _
        refine wp_of e26 c26_15 (rw_ifnonnull_r (p1 := 22) (p2 := 18) (by decide) rfl ?_)
        refine wp_of e26 c26_22 (rw_iconst (pc' := 23) rfl ?_)
        exact wp_zreturn e26 c26_23 rfl (by omega) ⟨rfl, rfl, 0, rfl, ⟨by decide, by decide⟩, (Or.inr ⟨by omega, by omega⟩)⟩
      · subst c1031
        show wp _ _ 26 15 [(0, .ref r0)] [.ref 22] _ H _
        refine wp_of e26 c26_15 (rw_ifnonnull_r (p1 := 22) (p2 := 18) (by decide) rfl ?_)
        refine wp_of e26 c26_22 (rw_iconst (pc' := 23) rfl ?_)
        exact wp_zreturn e26 c26_23 rfl (by omega) ⟨rfl, rfl, 0, rfl, ⟨by decide, by decide⟩, (Or.inr ⟨by omega, by omega⟩)⟩
      · subst c1031
        show wp _ _ 26 15 [(0, .ref r0)] [.ref 23] _ H _
        refine wp_of e26 c26_15 (rw_ifnonnull_r (p1 := 22) (p2 := 18) (by decide) rfl ?_)
        refine wp_of e26 c26_22 (rw_iconst (pc' := 23) rfl ?_)
        exact wp_zreturn e26 c26_23 rfl (by omega) ⟨rfl, rfl, 0, rfl, ⟨by decide, by decide⟩, (Or.inr ⟨by omega, by omega⟩)⟩
      · subst c1031
        show wp _ _ 26 15 [(0, .ref r0)] [.ref 24] _ H _
        refine wp_of e26 c26_15 (rw_ifnonnull_r (p1 := 22) (p2 := 18) (by decide) rfl ?_)
        refine wp_of e26 c26_22 (rw_iconst (pc' := 23) rfl ?_)
        exact wp_zreturn e26 c26_23 rfl (by omega) ⟨rfl, rfl, 0, rfl, ⟨by decide, by decide⟩, (Or.inr ⟨by omega, by omega⟩)⟩
      · subst c1031
        show wp _ _ 26 15 [(0, .ref r0)] [.ref 25] _ H _
        refine wp_of e26 c26_15 (rw_ifnonnull_r (p1 := 22) (p2 := 18) (by decide) rfl ?_)
        refine wp_of e26 c26_22 (rw_iconst (pc' := 23) rfl ?_)
        exact wp_zreturn e26 c26_23 rfl (by omega) ⟨rfl, rfl, 0, rfl, ⟨by decide, by decide⟩, (Or.inr ⟨by omega, by omega⟩)⟩
      · subst c1031
        show wp _ _ 26 15 [(0, .ref r0)] [.ref 26] _ H _
        refine wp_of e26 c26_15 (rw_ifnonnull_r (p1 := 22) (p2 := 18) (by decide) rfl ?_)
        refine wp_of e26 c26_22 (rw_iconst (pc' := 23) rfl ?_)
        exact wp_zreturn e26 c26_23 rfl (by omega) ⟨rfl, rfl, 0, rfl, ⟨by decide, by decide⟩, (Or.inr ⟨by omega, by omega⟩)⟩
/-! StrikeAwake$Reader.takes(I)Z  -/
abbrev uq_35 (r0 : Nat) (a1 : Int) (tk : Nat) (rb : Nat) (B : Nat → Int) (n : Int) (q : Int) (T : wq_T) (H : wq_H) : Option Value → wq_T → wq_H → Prop := fun r T' H' => T = T' ∧ WT T H' ∧ wfr [(3, 3), (3, 4), (4, 2), (4, 3), (4, 4), (4, 5), (4, 6)] T H H' ∧ ∃ z : Int, some (vI z) = r ∧ (0 ≤ z ∧ z ≤ 1) ∧ (((z = 1) ∧ (xk B n q a1 = 0) ∧ (xK B n q = a1) ∧ (H' r0 3 = H r0 3) ∧ TC T H' tk B n (xN B n q)) ∨ ((z = 0) ∧ (xk B n q a1 = 1) ∧ (xK B n q ≠ a1) ∧ (H' r0 3 = 1) ∧ (H' r0 4 = q)))
set_option maxHeartbeats 4000000 in
theorem u_35 {kt : Nat → Option mc_E} {T : wq_T} {H : wq_H} {r0 : Nat} {a1 : Int} {tk : Nat} {rb : Nat} {B : Nat → Int} {n : Int} {q : Int} (hW : WT T H) (g0 : T.2.2.2 r0 = some 3) (i1 : (-2147483648) ≤ a1 ∧ a1 ≤ 2147483647) (qtk : H r0 0 = (tk : Int)) (gtk : T.2.2.2 tk = some 4) (qrb : H tk 0 = (rb : Int)) (grb : T.2.2.2 rb = some 2) (hTC_tk : TC T H tk B n q) : wpc kt 2 35 [.ref r0, vI a1] T H (uq_35 r0 a1 tk rb B n q T H) := by
  refine wp_enter e35 (Nat.le_of_ble_eq_true rfl) rfl ?_
  have f0 : wfr [(3, 3), (3, 4), (4, 2), (4, 3), (4, 4), (4, 5), (4, 6)] T H H := wfr.rf
  show wp _ _ 35 0 [(0, .ref r0), (1, vI a1)] [] _ H _
  have u1030 := TC_k hTC_tk
  refine wp_of e35 c35_0 (rw_aload_n (pc' := 1) (v := .ref r0) rfl rfl rfl ?_)
  refine wp_of e35 c35_1 (xg_K (pc' := 4) lf_1_12 hW g0 sh_3 (by decide) (by decide) rfl qtk rfl ?_)
  refine wp_of e35 c35_4 (xg_I (pc' := 7) lf_1_38 hW gtk sh_4 (by decide) (by decide) ty_4_3 rfl rfl (fun b1031 b1032 => ?_))
  refine wp_of e35 c35_7 (rw_iload_n (pc' := 8) (z := a1) rfl rfl ?_)
  refine wp_of e35 c35_8 (rw_icmp_eq (p1 := 17) (p2 := 11) (by decide) rfl ⟨Int.le_trans (by decide) b1031, Int.le_trans b1032 (by decide)⟩ ⟨i1.1, i1.2⟩ (fun c1033 => ?_) (fun c1033 => ?_))
  · refine wp_of e35 c35_17 (rw_aload_n (pc' := 18) (v := .ref r0) rfl rfl rfl ?_)
    refine wp_of e35 c35_18 (xg_K (pc' := 21) lf_1_12 hW g0 sh_3 (by decide) (by decide) rfl qtk rfl ?_)
    have h1034 : TP T H rb B := TC_tp hTC_tk qrb
    refine wp_of e35 c35_21 (xc_V (pc' := 24) (r := tk) (as := []) (st := []) (lm_1_74) rfl rfl (Nat.le_of_ble_eq_true rfl) hW gtk sh_4 (by decide) rfl (by decide) (u_16 (B := B) (n := n) (a := (xE B n q)) (q := (xN B n q)) hW gtk qrb grb (by omega) (by omega) (by omega) (rfl) h1034) (fun R1035 T1036 H1037 p1038 => ?_))
    obtain ⟨e1039, w1041, f1042, e1040, p1043⟩ := p1038
    subst e1039
    subst e1040
    have f1045 := f0.tr f1042 rfl
    show wp _ _ 35 24 [(0, .ref r0), (1, vI a1)] [] _ H1037 _
    have u1046 := TC_k p1043
    refine wp_of e35 c35_24 (rw_iconst (pc' := 25) rfl ?_)
    have k1047 : H1037 r0 3 = H r0 3 := (f1042 r0 3 _ g0 rfl)
    have := @xk_b B n q a1
    exact wp_zreturn e35 c35_25 rfl (by omega) ⟨rfl, w1041, f1045, 1, rfl, ⟨by decide, by decide⟩, (Or.inl ⟨by omega, by omega, by omega, by omega, p1043⟩)⟩
  · refine wp_of e35 c35_11 (rw_aload_n (pc' := 12) (v := .ref r0) rfl rfl rfl ?_)
    refine wp_of e35 c35_12 (rw_iconst (pc' := 13) rfl ?_)
    refine wp_of e35 c35_13 (xc_V (pc' := 16) (r := r0) (as := [vI 1]) (st := []) (lm_1_47) rfl rfl (Nat.le_of_ble_eq_true rfl) hW g0 sh_3 (by decide) rfl (by decide) (u_20  hW g0 ⟨by decide, by decide⟩ qtk gtk) (fun R1048 T1049 H1050 p1051 => ?_))
    obtain ⟨e1052, w1054, f1055, z1056, e1053, b1057, p1058⟩ := p1051
    subst e1052
    subst e1053
    obtain ⟨a1059, a1060, a1061⟩ := p1058
    have f1062 := f0.tr f1055 rfl
    show wp _ _ 35 16 [(0, .ref r0), (1, vI a1)] [vI z1056] _ H1050 _
    have := @xk_b B n q a1
    exact wp_zreturn e35 c35_16 rfl (by omega) ⟨rfl, w1054, f1062, z1056, rfl, ⟨b1057.1, b1057.2⟩, (Or.inr ⟨by omega, by omega, by omega, by omega, by omega⟩)⟩
/-! StrikeAwake$Reader.takesWord(Ljava/lang/String;)Z  -/
abbrev uq_23 (r0 : Nat) (s1 : Nat) (tk : Nat) (rb : Nat) (B : Nat → Int) (n : Int) (q : Int) (kk : Int) (T : wq_T) (H : wq_H) : Option Value → wq_T → wq_H → Prop := fun r T' H' => T = T' ∧ WT T H' ∧ wfr [(3, 3), (3, 4), (4, 2), (4, 3), (4, 4), (4, 5), (4, 6)] T H H' ∧ ∃ z : Int, some (vI z) = r ∧ (0 ≤ z ∧ z ≤ 1) ∧ (((z = 1) ∧ (xw B n q kk = 0) ∧ (H' r0 3 = H r0 3) ∧ TC T H' tk B n (xN B n q)) ∨ ((z = 0) ∧ (xw B n q kk = 1) ∧ (H' r0 3 = 1) ∧ (H' r0 4 = q)))
set_option maxHeartbeats 4000000 in
theorem u_23 {kt : Nat → Option mc_E} {T : wq_T} {H : wq_H} {r0 : Nat} {s1 : Nat} {t1 : List Int32} {tk : Nat} {rb : Nat} {B : Nat → Int} {n : Int} {q : Int} {kk : Int} (hW : WT T H) (g0 : T.2.2.2 r0 = some 3) (h1 : mc_find mc_sb s1 = some t1) (qtk : H r0 0 = (tk : Int)) (gtk : T.2.2.2 tk = some 4) (qrb : H tk 0 = (rb : Int)) (grb : T.2.2.2 rb = some 2) (p0 : wkw t1 t1.length = kk) (hTC_tk : TC T H tk B n q) : wpc kt 2 23 [.ref r0, .ref s1] T H (uq_23 r0 s1 tk rb B n q kk T H) := by
  refine wp_enter e23 (Nat.le_of_ble_eq_true rfl) rfl ?_
  have f0 : wfr [(3, 3), (3, 4), (4, 2), (4, 3), (4, 4), (4, 5), (4, 6)] T H H := wfr.rf
  show wp _ _ 23 0 [(0, .ref r0), (1, .ref s1)] [] _ H _
  have u1043 := TC_k hTC_tk
  have _i := TC_i hTC_tk
  refine wp_of e23 c23_0 (rw_aload_n (pc' := 1) (v := .ref r0) rfl rfl rfl ?_)
  refine wp_of e23 c23_1 (xg_K (pc' := 4) lf_1_12 hW g0 sh_3 (by decide) (by decide) rfl qtk rfl ?_)
  refine wp_of e23 c23_4 (rw_aload_n (pc' := 5) (v := .ref s1) rfl rfl rfl ?_)
  refine wp_of e23 c23_5 (xc_V (pc' := 8) (r := tk) (as := [.ref s1]) (st := []) (lm_1_185) rfl rfl (Nat.le_of_ble_eq_true rfl) hW gtk sh_4 (by decide) rfl (by decide) (u_19 (kk := kk) hW gtk h1 (by assumption)) (fun R1044 T1045 H1046 p1047 => ?_))
  obtain ⟨e1048, e1050, z1051, e1049, b1052, p1053⟩ := p1047
  subst e1048
  subst e1049
  subst e1050
  rcases p1053 with ⟨a1054, a1055⟩ | ⟨a1056, a1057⟩
  · show wp _ _ 23 8 [(0, .ref r0), (1, .ref s1)] [vI z1051] _ H _
    refine wp_of e23 c23_8 (rw_if_ne (p1 := 17) (p2 := 11) (by decide) rfl ⟨Int.le_trans (by decide) b1052.1, Int.le_trans b1052.2 (by decide)⟩ (fun c1058 => ?_) (fun c1058 => ?_))
    · refine wp_of e23 c23_17 (rw_aload_n (pc' := 18) (v := .ref r0) rfl rfl rfl ?_)
      refine wp_of e23 c23_18 (xg_K (pc' := 21) lf_1_12 hW g0 sh_3 (by decide) (by decide) rfl qtk rfl ?_)
      have h1059 : TP T H rb B := TC_tp hTC_tk qrb
      refine wp_of e23 c23_21 (xc_V (pc' := 24) (r := tk) (as := []) (st := []) (lm_1_74) rfl rfl (Nat.le_of_ble_eq_true rfl) hW gtk sh_4 (by decide) rfl (by decide) (u_16 (B := B) (n := n) (a := (xE B n q)) (q := (xN B n q)) hW gtk qrb grb (by omega) (by omega) (by omega) (rfl) h1059) (fun R1060 T1061 H1062 p1063 => ?_))
      obtain ⟨e1064, w1066, f1067, e1065, p1068⟩ := p1063
      subst e1064
      subst e1065
      have f1070 := f0.tr f1067 rfl
      show wp _ _ 23 24 [(0, .ref r0), (1, .ref s1)] [] _ H1062 _
      have u1071 := TC_k p1068
      refine wp_of e23 c23_24 (rw_iconst (pc' := 25) rfl ?_)
      have k1072 : H1062 r0 3 = H r0 3 := (f1067 r0 3 _ g0 rfl)
      have := @xw_b B n q kk
      exact wp_zreturn e23 c23_25 rfl (by omega) ⟨rfl, w1066, f1070, 1, rfl, ⟨by decide, by decide⟩, (Or.inl ⟨by omega, by omega, by omega, p1068⟩)⟩
    · exfalso
      omega
  · show wp _ _ 23 8 [(0, .ref r0), (1, .ref s1)] [vI z1051] _ H _
    refine wp_of e23 c23_8 (rw_if_ne (p1 := 17) (p2 := 11) (by decide) rfl ⟨Int.le_trans (by decide) b1052.1, Int.le_trans b1052.2 (by decide)⟩ (fun c1073 => ?_) (fun c1073 => ?_))
    · exfalso
      omega
    · refine wp_of e23 c23_11 (rw_aload_n (pc' := 12) (v := .ref r0) rfl rfl rfl ?_)
      refine wp_of e23 c23_12 (rw_iconst (pc' := 13) rfl ?_)
      refine wp_of e23 c23_13 (xc_V (pc' := 16) (r := r0) (as := [vI 1]) (st := []) (lm_1_47) rfl rfl (Nat.le_of_ble_eq_true rfl) hW g0 sh_3 (by decide) rfl (by decide) (u_20  hW g0 ⟨by decide, by decide⟩ qtk gtk) (fun R1074 T1075 H1076 p1077 => ?_))
      obtain ⟨e1078, w1080, f1081, z1082, e1079, b1083, p1084⟩ := p1077
      subst e1078
      subst e1079
      obtain ⟨a1085, a1086, a1087⟩ := p1084
      have f1088 := f0.tr f1081 rfl
      show wp _ _ 23 16 [(0, .ref r0), (1, .ref s1)] [vI z1082] _ H1076 _
      have := @xw_b B n q kk
      exact wp_zreturn e23 c23_16 rfl (by omega) ⟨rfl, w1080, f1088, z1082, rfl, ⟨b1083.1, b1083.2⟩, (Or.inr ⟨by omega, by omega, by omega, by omega⟩)⟩
/-! StrikeAwake$Reader.whole(II)I  -/
abbrev uq_24 (r0 : Nat) (a1 : Int) (a2 : Int) (tk : Nat) (rb : Nat) (B : Nat → Int) (n : Int) (q : Int) (lo : Int) (hi : Int) (T : wq_T) (H : wq_H) : Option Value → wq_T → wq_H → Prop := fun r T' H' => T = T' ∧ WT T H' ∧ wfr [(3, 3), (3, 4), (4, 2), (4, 3), (4, 4), (4, 5), (4, 6)] T H H' ∧ ∃ z : Int, some (vI z) = r ∧ ((-1) ≤ z ∧ z ≤ 100) ∧ (((xh B n q lo hi = 0) ∧ (z = xV B n q) ∧ (lo ≤ z ∧ z ≤ hi) ∧ (H' r0 3 = H r0 3) ∧ TC T H' tk B n (xN B n q)) ∨ ((z = -1) ∧ (xh B n q lo hi ≠ 0) ∧ (H' r0 3 = xh B n q lo hi) ∧ (H' r0 4 = q)))
set_option maxHeartbeats 4000000 in
theorem u_24 {kt : Nat → Option mc_E} {T : wq_T} {H : wq_H} {r0 : Nat} {a1 : Int} {a2 : Int} {tk : Nat} {rb : Nat} {B : Nat → Int} {n : Int} {q : Int} {lo : Int} {hi : Int} (hW : WT T H) (g0 : T.2.2.2 r0 = some 3) (i1 : 0 ≤ a1 ∧ a1 ≤ 100) (i2 : 0 ≤ a2 ∧ a2 ≤ 100) (qtk : H r0 0 = (tk : Int)) (gtk : T.2.2.2 tk = some 4) (qrb : H tk 0 = (rb : Int)) (grb : T.2.2.2 rb = some 2) (p0 : a1 = lo) (p1 : a2 = hi) (hTC_tk : TC T H tk B n q) : wpc kt 2 24 [.ref r0, vI a1, vI a2] T H (uq_24 r0 a1 a2 tk rb B n q lo hi T H) := by
  refine wp_enter e24 (Nat.le_of_ble_eq_true rfl) rfl ?_
  have f0 : wfr [(3, 3), (3, 4), (4, 2), (4, 3), (4, 4), (4, 5), (4, 6)] T H H := wfr.rf
  show wp _ _ 24 0 [(0, .ref r0), (1, vI a1), (2, vI a2)] [] _ H _
  have u1064 := TC_k hTC_tk
  have _i := TC_i hTC_tk
  refine wp_of e24 c24_0 (rw_aload_n (pc' := 1) (v := .ref r0) rfl rfl rfl ?_)
  refine wp_of e24 c24_1 (xg_K (pc' := 4) lf_1_12 hW g0 sh_3 (by decide) (by decide) rfl qtk rfl ?_)
  refine wp_of e24 c24_4 (xg_I (pc' := 7) lf_1_38 hW gtk sh_4 (by decide) (by decide) ty_4_3 rfl rfl (fun b1065 b1066 => ?_))
  refine wp_of e24 c24_7 (rw_iconst (pc' := 8) rfl ?_)
  refine wp_of e24 c24_8 (rw_icmp_eq (p1 := 19) (p2 := 11) (by decide) rfl ⟨Int.le_trans (by decide) b1065, Int.le_trans b1066 (by decide)⟩ ⟨by decide, by decide⟩ (fun c1067 => ?_) (fun c1067 => ?_))
  · refine wp_of e24 c24_19 (rw_aload_n (pc' := 20) (v := .ref r0) rfl rfl rfl ?_)
    refine wp_of e24 c24_20 (xg_K (pc' := 23) lf_1_12 hW g0 sh_3 (by decide) (by decide) rfl qtk rfl ?_)
    refine wp_of e24 c24_23 (xg_I (pc' := 26) lf_1_230 hW gtk sh_4 (by decide) (by decide) ty_4_5 rfl rfl (fun b1068 b1069 => ?_))
    refine wp_of e24 c24_26 (rw_istore_n (pc' := 27) (z := H tk 5) (L' := [(3, vI (H tk 5)), (0, .ref r0), (1, vI a1), (2, vI a2)]) rfl rfl rfl ?_)
    refine wp_of e24 c24_27 (rw_iload_n (pc' := 28) (z := H tk 5) rfl rfl ?_)
    refine wp_of e24 c24_28 (rw_iload_n (pc' := 29) (z := a1) rfl rfl ?_)
    refine wp_of e24 c24_29 (rw_icmp_lt (p1 := 37) (p2 := 32) (by decide) rfl ⟨b1068, b1069⟩ ⟨Int.le_trans (by decide) i1.1, Int.le_trans i1.2 (by decide)⟩ (fun c1070 => ?_) (fun c1070 => ?_))
    · refine wp_of e24 c24_37 (rw_aload_n (pc' := 38) (v := .ref r0) rfl rfl rfl ?_)
      refine wp_of e24 c24_38 (rw_iconst (pc' := 39) rfl ?_)
      refine wp_of e24 c24_39 (xc_V (pc' := 42) (r := r0) (as := [vI 4]) (st := []) (lm_1_47) rfl rfl (Nat.le_of_ble_eq_true rfl) hW g0 sh_3 (by decide) rfl (by decide) (u_20  hW g0 ⟨by decide, by decide⟩ qtk gtk) (fun R1071 T1072 H1073 p1074 => ?_))
      obtain ⟨e1075, w1077, f1078, z1079, e1076, b1080, p1081⟩ := p1074
      subst e1075
      subst e1076
      obtain ⟨a1082, a1083, a1084⟩ := p1081
      have f1085 := f0.tr f1078 rfl
      show wp _ _ 24 42 [(3, vI (H tk 5)), (0, .ref r0), (1, vI a1), (2, vI a2)] [vI z1079] _ H1073 _
      refine wp_of e24 c24_42 (rw_pop (pc' := 43) rfl rfl ?_)
      refine wp_of e24 c24_43 (rw_iconst (pc' := 44) rfl ?_)
      have := @xh_b B n q lo hi
      exact wp_ireturn e24 c24_44 rfl ⟨rfl, w1077, f1085, -1, rfl, ⟨by decide, by decide⟩, (Or.inr ⟨by omega, by omega, by omega, by omega⟩)⟩
    · refine wp_of e24 c24_32 (rw_iload_n (pc' := 33) (z := H tk 5) rfl rfl ?_)
      refine wp_of e24 c24_33 (rw_iload_n (pc' := 34) (z := a2) rfl rfl ?_)
      refine wp_of e24 c24_34 (rw_icmp_le (p1 := 45) (p2 := 37) (by decide) rfl ⟨b1068, b1069⟩ ⟨Int.le_trans (by decide) i2.1, Int.le_trans i2.2 (by decide)⟩ (fun c1086 => ?_) (fun c1086 => ?_))
      · refine wp_of e24 c24_45 (rw_aload_n (pc' := 46) (v := .ref r0) rfl rfl rfl ?_)
        refine wp_of e24 c24_46 (xg_K (pc' := 49) lf_1_12 hW g0 sh_3 (by decide) (by decide) rfl qtk rfl ?_)
        have h1087 : TP T H rb B := TC_tp hTC_tk qrb
        refine wp_of e24 c24_49 (xc_V (pc' := 52) (r := tk) (as := []) (st := []) (lm_1_74) rfl rfl (Nat.le_of_ble_eq_true rfl) hW gtk sh_4 (by decide) rfl (by decide) (u_16 (B := B) (n := n) (a := (xE B n q)) (q := (xN B n q)) hW gtk qrb grb (by omega) (by omega) (by omega) (rfl) h1087) (fun R1088 T1089 H1090 p1091 => ?_))
        obtain ⟨e1092, w1094, f1095, e1093, p1096⟩ := p1091
        subst e1092
        subst e1093
        have f1098 := f0.tr f1095 rfl
        show wp _ _ 24 52 [(3, vI (H tk 5)), (0, .ref r0), (1, vI a1), (2, vI a2)] [] _ H1090 _
        have u1099 := TC_k p1096
        refine wp_of e24 c24_52 (rw_iload_n (pc' := 53) (z := H tk 5) rfl rfl ?_)
        have k1100 : H1090 r0 3 = H r0 3 := (f1095 r0 3 _ g0 rfl)
        have := @xh_b B n q lo hi
        exact wp_ireturn e24 c24_53 rfl ⟨rfl, w1094, f1098, H tk 5, rfl, ⟨by omega, by omega⟩, (Or.inl ⟨by omega, by omega, by omega, by omega, p1096⟩)⟩
      · refine wp_of e24 c24_37 (rw_aload_n (pc' := 38) (v := .ref r0) rfl rfl rfl ?_)
        refine wp_of e24 c24_38 (rw_iconst (pc' := 39) rfl ?_)
        refine wp_of e24 c24_39 (xc_V (pc' := 42) (r := r0) (as := [vI 4]) (st := []) (lm_1_47) rfl rfl (Nat.le_of_ble_eq_true rfl) hW g0 sh_3 (by decide) rfl (by decide) (u_20  hW g0 ⟨by decide, by decide⟩ qtk gtk) (fun R1101 T1102 H1103 p1104 => ?_))
        obtain ⟨e1105, w1107, f1108, z1109, e1106, b1110, p1111⟩ := p1104
        subst e1105
        subst e1106
        obtain ⟨a1112, a1113, a1114⟩ := p1111
        have f1115 := f0.tr f1108 rfl
        show wp _ _ 24 42 [(3, vI (H tk 5)), (0, .ref r0), (1, vI a1), (2, vI a2)] [vI z1109] _ H1103 _
        refine wp_of e24 c24_42 (rw_pop (pc' := 43) rfl rfl ?_)
        refine wp_of e24 c24_43 (rw_iconst (pc' := 44) rfl ?_)
        have := @xh_b B n q lo hi
        exact wp_ireturn e24 c24_44 rfl ⟨rfl, w1107, f1115, -1, rfl, ⟨by decide, by decide⟩, (Or.inr ⟨by omega, by omega, by omega, by omega⟩)⟩
  · refine wp_of e24 c24_11 (rw_aload_n (pc' := 12) (v := .ref r0) rfl rfl rfl ?_)
    refine wp_of e24 c24_12 (rw_iconst (pc' := 13) rfl ?_)
    refine wp_of e24 c24_13 (xc_V (pc' := 16) (r := r0) (as := [vI 1]) (st := []) (lm_1_47) rfl rfl (Nat.le_of_ble_eq_true rfl) hW g0 sh_3 (by decide) rfl (by decide) (u_20  hW g0 ⟨by decide, by decide⟩ qtk gtk) (fun R1116 T1117 H1118 p1119 => ?_))
    obtain ⟨e1120, w1122, f1123, z1124, e1121, b1125, p1126⟩ := p1119
    subst e1120
    subst e1121
    obtain ⟨a1127, a1128, a1129⟩ := p1126
    have f1130 := f0.tr f1123 rfl
    show wp _ _ 24 16 [(0, .ref r0), (1, vI a1), (2, vI a2)] [vI z1124] _ H1118 _
    refine wp_of e24 c24_16 (rw_pop (pc' := 17) rfl rfl ?_)
    refine wp_of e24 c24_17 (rw_iconst (pc' := 18) rfl ?_)
    have := @xh_b B n q lo hi
    exact wp_ireturn e24 c24_18 rfl ⟨rfl, w1122, f1130, -1, rfl, ⟨by decide, by decide⟩, (Or.inr ⟨by omega, by omega, by omega, by omega⟩)⟩
