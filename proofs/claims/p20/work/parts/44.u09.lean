/-! StrikeAwake.barOfWorlds(Z)I  -/
abbrev uq_83 (r0 : Nat) (a1 : Int) (cu : Nat) (wa : Nat) (ce : Nat) (e : xD) (d : xD) (n : Int) (T : wq_T) (H : wq_H) : Option Value → wq_T → wq_H → Prop := fun r T' H' => T = T' ∧ WT T H' ∧ wfr [(12, 5), (12, 6), (12, 7), (12, 8), (12, 9), (6, 5), (8, 999), (10, 999), (15, 999), (9, 999), (18, 999), (19, 999), (7, 999), (11, 999), (17, 999), (13, 999)] T H H' ∧ ∃ z : Int, some (vI z) = r ∧ (0 ≤ z ∧ z ≤ 6) ∧ (((z = 0) ∧ (a1 = 1) ∧ (n ≤ 20000) ∧ CEN T H' ce e d ∧ CEB T H' ce e d (xlots d).toNat ∧ CEX T H' ce e d (xlots d).toNat) ∨ ((1 ≤ z ∧ z ≤ 6) ∧ (a1 = 0 ∨ 20000 < n) ∧ CEN T H' ce e d))
set_option maxHeartbeats 4000000 in
theorem u_83 {kt : Nat → Option mc_E} {T : wq_T} {H : wq_H} {r0 : Nat} {a1 : Int} {cu : Nat} {wa : Nat} {ce : Nat} {e : xD} {d : xD} {n : Int} (hW : WT T H) (g0 : T.2.2.2 r0 = some 1) (i1 : 0 ≤ a1 ∧ a1 ≤ 1) (qcu : H r0 6 = (cu : Int)) (gcu : T.2.2.2 cu = some 27) (qwa : H r0 2 = (wa : Int)) (gwa : T.2.2.2 wa = some 6) (qce : H r0 3 = (ce : Int)) (gce : T.2.2.2 ce = some 12) (p0 : ∀ i, i ≠ 13 → e i = d i) (p1 : XW d) (p2 : e 0 3 = d 0 3) (p3 : e 0 0 = d 0 0) (p4 : a1 = 0 ∨ n = xlots d) (hCU_cu : CU T H cu e d n) (hCEN_ce : CEN T H ce e d) (hHDR_ce : HDR T H ce ) : wpc kt 5 83 [.ref r0, vI a1] T H (uq_83 r0 a1 cu wa ce e d n T H) := by
  refine wp_enter e83 (Nat.le_of_ble_eq_true rfl) rfl ?_
  have f0 : wfr [(12, 5), (12, 6), (12, 7), (12, 8), (12, 9), (6, 5), (8, 999), (10, 999), (15, 999), (9, 999), (18, 999), (19, 999), (7, 999), (11, 999), (17, 999), (13, 999)] T H H := wfr.rf
  show wp _ _ 83 0 [(0, .ref r0), (1, vI a1)] [] _ H _
  have u1032 := CU_k hCU_cu
  refine wp_of e83 c83_0 (rw_aload_n (pc' := 1) (v := .ref r0) rfl rfl rfl ?_)
  refine wp_of e83 c83_1 (rw_iload_n (pc' := 2) (z := a1) rfl rfl ?_)
  refine wp_of e83 c83_2 (xc_V (pc' := 5) (r := r0) (as := [vI a1]) (st := []) (lm_0_245) rfl rfl (Nat.le_of_ble_eq_true rfl) hW g0 sh_1 (by decide) rfl (by decide) (u_84 (e := e) (d := d) (n := n) hW g0 ⟨i1.1, i1.2⟩ qcu gcu hCU_cu) (fun R1033 T1034 H1035 p1036 => ?_))
  obtain ⟨e1037, e1039, z1040, e1038, b1041, p1042⟩ := p1036
  subst e1037
  subst e1038
  subst e1039
  rcases p1042 with ⟨a1043, a1044, a1045⟩ | ⟨a1046, a1047⟩
  · show wp _ _ 83 5 [(0, .ref r0), (1, vI a1)] [vI z1040] _ H _
    refine wp_of e83 c83_5 (rw_istore_n (pc' := 6) (z := z1040) (L' := [(2, vI z1040), (0, .ref r0), (1, vI a1)]) rfl rfl rfl ?_)
    refine wp_of e83 c83_6 (rw_iload_n (pc' := 7) (z := z1040) rfl rfl ?_)
    refine wp_of e83 c83_7 (rw_if_ne (p1 := 25) (p2 := 10) (by decide) rfl ⟨Int.le_trans (by decide) b1041.1, Int.le_trans b1041.2 (by decide)⟩ (fun c1048 => ?_) (fun c1048 => ?_))
    · exfalso
      omega
    · refine wp_of e83 c83_10 (rw_aload_n (pc' := 11) (v := .ref r0) rfl rfl rfl ?_)
      refine wp_of e83 c83_11 (xg_K (pc' := 14) lf_0_30 hW g0 sh_1 (by decide) (by decide) rfl qce rfl ?_)
      refine wp_of e83 c83_14 (rw_aload_n (pc' := 15) (v := .ref r0) rfl rfl rfl ?_)
      refine wp_of e83 c83_15 (xg_K (pc' := 18) lf_0_51 hW g0 sh_1 (by decide) (by decide) rfl qcu rfl ?_)
      refine wp_of e83 c83_18 (rw_aload_n (pc' := 19) (v := .ref r0) rfl rfl rfl ?_)
      refine wp_of e83 c83_19 (xg_K (pc' := 22) lf_0_23 hW g0 sh_1 (by decide) (by decide) rfl qwa rfl ?_)
      refine wp_of e83 c83_22 (xc_V (pc' := 25) (r := ce) (as := [.ref cu, .ref wa]) (st := []) (lm_0_254) rfl rfl (Nat.le_of_ble_eq_true rfl) hW gce sh_12 (by decide) rfl (by decide) (u_85 (e := e) (d := d) (n := n) hW gce gcu gwa (by assumption) (by assumption) (by omega) (by omega) (by omega) (by omega) hCU_cu hCEN_ce hHDR_ce) (fun R1049 T1050 H1051 p1052 => ?_))
      obtain ⟨e1053, w1055, f1056, e1054, p1057⟩ := p1052
      subst e1053
      subst e1054
      obtain ⟨a1058, a1059, a1060, a1061⟩ := p1057
      have f1062 := f0.tr f1056 rfl
      show wp _ _ 83 25 [(2, vI z1040), (0, .ref r0), (1, vI a1)] [] _ H1051 _
      refine wp_of e83 c83_25 (rw_iload_n (pc' := 26) (z := z1040) rfl rfl ?_)
      exact wp_ireturn e83 c83_26 rfl ⟨rfl, w1055, f1062, z1040, rfl, ⟨b1041.1, b1041.2⟩, (Or.inl ⟨by omega, by omega, by omega, a1061, a1059, a1060⟩)⟩
  · show wp _ _ 83 5 [(0, .ref r0), (1, vI a1)] [vI z1040] _ H _
    refine wp_of e83 c83_5 (rw_istore_n (pc' := 6) (z := z1040) (L' := [(2, vI z1040), (0, .ref r0), (1, vI a1)]) rfl rfl rfl ?_)
    refine wp_of e83 c83_6 (rw_iload_n (pc' := 7) (z := z1040) rfl rfl ?_)
    refine wp_of e83 c83_7 (rw_if_ne (p1 := 25) (p2 := 10) (by decide) rfl ⟨Int.le_trans (by decide) b1041.1, Int.le_trans b1041.2 (by decide)⟩ (fun c1063 => ?_) (fun c1063 => ?_))
    · refine wp_of e83 c83_25 (rw_iload_n (pc' := 26) (z := z1040) rfl rfl ?_)
      exact wp_ireturn e83 c83_26 rfl ⟨rfl, hW, f0, z1040, rfl, ⟨b1041.1, b1041.2⟩, (Or.inr ⟨by omega, by omega, hCEN_ce⟩)⟩
    · exfalso
      omega
/-! StrikeAwake.barOfSome(Z)I  -/
abbrev uq_102 (r0 : Nat) (a1 : Int) (cu : Nat) (wa : Nat) (ce : Nat) (e : xD) (d : xD) (n : Int) (T : wq_T) (H : wq_H) : Option Value → wq_T → wq_H → Prop := fun r T' H' => T = T' ∧ WT T H' ∧ wfr [(12, 5), (12, 6), (12, 7), (12, 8), (12, 9), (6, 5), (8, 999), (10, 999), (15, 999), (9, 999), (18, 999), (19, 999), (7, 999), (11, 999), (17, 999), (13, 999)] T H H' ∧ ∃ z : Int, some (vI z) = r ∧ (0 ≤ z ∧ z ≤ 6) ∧ (((z = 0) ∧ (a1 = 1) ∧ (n ≤ 20000) ∧ (0 < xcn (xwf e d) (xlots d).toNat) ∧ CEN T H' ce e d ∧ CEB T H' ce e d (xlots d).toNat ∧ CEX T H' ce e d (xlots d).toNat) ∨ ((1 ≤ z ∧ z ≤ 6) ∧ (a1 = 0 ∨ 20000 < n ∨ xcn (xwf e d) (xlots d).toNat ≤ 0) ∧ CEN T H' ce e d))
set_option maxHeartbeats 4000000 in
theorem u_102 {kt : Nat → Option mc_E} {T : wq_T} {H : wq_H} {r0 : Nat} {a1 : Int} {cu : Nat} {wa : Nat} {ce : Nat} {e : xD} {d : xD} {n : Int} (hW : WT T H) (g0 : T.2.2.2 r0 = some 1) (i1 : 0 ≤ a1 ∧ a1 ≤ 1) (qcu : H r0 6 = (cu : Int)) (gcu : T.2.2.2 cu = some 27) (qwa : H r0 2 = (wa : Int)) (gwa : T.2.2.2 wa = some 6) (qce : H r0 3 = (ce : Int)) (gce : T.2.2.2 ce = some 12) (p0 : ∀ i, i ≠ 13 → e i = d i) (p1 : XW d) (p2 : e 0 3 = d 0 3) (p3 : e 0 0 = d 0 0) (p4 : a1 = 0 ∨ n = xlots d) (hCU_cu : CU T H cu e d n) (hCEN_ce : CEN T H ce e d) (hHDR_ce : HDR T H ce ) : wpc kt 6 102 [.ref r0, vI a1] T H (uq_102 r0 a1 cu wa ce e d n T H) := by
  refine wp_enter e102 (Nat.le_of_ble_eq_true rfl) rfl ?_
  have f0 : wfr [(12, 5), (12, 6), (12, 7), (12, 8), (12, 9), (6, 5), (8, 999), (10, 999), (15, 999), (9, 999), (18, 999), (19, 999), (7, 999), (11, 999), (17, 999), (13, 999)] T H H := wfr.rf
  show wp _ _ 102 0 [(0, .ref r0), (1, vI a1)] [] _ H _
  have u1030 := CU_k hCU_cu
  refine wp_of e102 c102_0 (rw_aload_n (pc' := 1) (v := .ref r0) rfl rfl rfl ?_)
  refine wp_of e102 c102_1 (rw_iload_n (pc' := 2) (z := a1) rfl rfl ?_)
  refine wp_of e102 c102_2 (xc_V (pc' := 5) (r := r0) (as := [vI a1]) (st := []) (lm_0_174) rfl rfl (Nat.le_of_ble_eq_true rfl) hW g0 sh_1 (by decide) rfl (by decide) (u_83 (e := e) (d := d) (n := n) hW g0 ⟨i1.1, i1.2⟩ qcu gcu qwa gwa qce gce (by assumption) (by assumption) (by omega) (by omega) (by omega) hCU_cu hCEN_ce hHDR_ce) (fun R1031 T1032 H1033 p1034 => ?_))
  obtain ⟨e1035, w1037, f1038, z1039, e1036, b1040, p1041⟩ := p1034
  subst e1035
  subst e1036
  rcases p1041 with ⟨a1042, a1043, a1044, a1045, a1046, a1047⟩ | ⟨a1048, a1049, a1050⟩
  · have f1051 := f0.tr f1038 rfl
    show wp _ _ 102 5 [(0, .ref r0), (1, vI a1)] [vI z1039] _ H1033 _
    refine wp_of e102 c102_5 (rw_istore_n (pc' := 6) (z := z1039) (L' := [(2, vI z1039), (0, .ref r0), (1, vI a1)]) rfl rfl rfl ?_)
    refine wp_of e102 c102_6 (rw_iload_n (pc' := 7) (z := z1039) rfl rfl ?_)
    refine wp_of e102 c102_7 (rw_if_ne (p1 := 25) (p2 := 10) (by decide) rfl ⟨Int.le_trans (by decide) b1040.1, Int.le_trans b1040.2 (by decide)⟩ (fun c1052 => ?_) (fun c1052 => ?_))
    · exfalso
      omega
    · have _cbb := a1046
      have _cb := _cbb.1
      have _cb6 := _cbb.2.1
      have _cb8 := _cbb.2.2.1
      have _cb7 := _cbb.2.2.2.1
      have h1053 : CEM T H1033 ce (xwf e d) (xlots d).toNat := _cbb.2.2.2.2
      have _nb := xcn_b (f := xwf e d) (xlots d).toNat
      refine wp_of e102 c102_10 (rw_aload_n (pc' := 11) (v := .ref r0) rfl rfl rfl ?_)
      have k1054 : H1033 r0 3 = H r0 3 := (f1038 r0 3 _ g0 rfl)
      have q1055 : H1033 r0 3 = (ce : Int) := k1054.trans qce
      refine wp_of e102 c102_11 (xg_K (pc' := 14) lf_0_30 w1037 g0 sh_1 (by decide) (by decide) rfl q1055 rfl ?_)
      refine wp_of e102 c102_14 (xg_I (pc' := 17) lf_0_177 w1037 gce sh_12 (by decide) (by decide) ty_12_5 rfl rfl (fun b1056 b1057 => ?_))
      refine wp_of e102 c102_17 (rw_if_ne (p1 := 25) (p2 := 20) (by decide) rfl ⟨b1056, b1057⟩ (fun c1058 => ?_) (fun c1058 => ?_))
      · refine wp_of e102 c102_25 (rw_iload_n (pc' := 26) (z := z1039) rfl rfl ?_)
        exact wp_ireturn e102 c102_26 rfl ⟨rfl, w1037, f1051, z1039, rfl, ⟨b1040.1, b1040.2⟩, (Or.inl ⟨by omega, by omega, by omega, by omega, a1045, a1046, a1047⟩)⟩
      · refine wp_of e102 c102_20 (rw_bipush (pc' := 22) (z := 6) rfl (by decide) ?_)
        refine wp_of e102 c102_22 (rw_goto (p1 := 26) (by decide) ?_)
        exact wp_ireturn e102 c102_26 rfl ⟨rfl, w1037, f1051, 6, rfl, ⟨by decide, by decide⟩, (Or.inr ⟨by omega, by omega, a1045⟩)⟩
  · have f1059 := f0.tr f1038 rfl
    show wp _ _ 102 5 [(0, .ref r0), (1, vI a1)] [vI z1039] _ H1033 _
    refine wp_of e102 c102_5 (rw_istore_n (pc' := 6) (z := z1039) (L' := [(2, vI z1039), (0, .ref r0), (1, vI a1)]) rfl rfl rfl ?_)
    refine wp_of e102 c102_6 (rw_iload_n (pc' := 7) (z := z1039) rfl rfl ?_)
    refine wp_of e102 c102_7 (rw_if_ne (p1 := 25) (p2 := 10) (by decide) rfl ⟨Int.le_trans (by decide) b1040.1, Int.le_trans b1040.2 (by decide)⟩ (fun c1060 => ?_) (fun c1060 => ?_))
    · refine wp_of e102 c102_25 (rw_iload_n (pc' := 26) (z := z1039) rfl rfl ?_)
      exact wp_ireturn e102 c102_26 rfl ⟨rfl, w1037, f1059, z1039, rfl, ⟨b1040.1, b1040.2⟩, (Or.inr ⟨by omega, by omega, a1050⟩)⟩
    · exfalso
      omega
/-! StrikeAwake.barOfAsking(Z)I  -/
abbrev uq_121 (r0 : Nat) (a1 : Int) (cu : Nat) (wa : Nat) (ce : Nat) (e : xD) (d : xD) (n : Int) (T : wq_T) (H : wq_H) : Option Value → wq_T → wq_H → Prop := fun r T' H' => T = T' ∧ WT T H' ∧ wfr [(12, 5), (12, 6), (12, 7), (12, 8), (12, 9), (6, 5), (8, 999), (10, 999), (15, 999), (9, 999), (18, 999), (19, 999), (7, 999), (11, 999), (17, 999), (13, 999)] T H H' ∧ ∃ z : Int, some (vI z) = r ∧ (0 ≤ z ∧ z ≤ 6) ∧ (((z = 0) ∧ (a1 = 1) ∧ CEN T H' ce e d) ∨ ((1 ≤ z ∧ z ≤ 6) ∧ CEN T H' ce e d))
set_option maxHeartbeats 4000000 in
theorem u_121 {kt : Nat → Option mc_E} {T : wq_T} {H : wq_H} {r0 : Nat} {a1 : Int} {cu : Nat} {wa : Nat} {ce : Nat} {e : xD} {d : xD} {n : Int} (hW : WT T H) (g0 : T.2.2.2 r0 = some 1) (i1 : 0 ≤ a1 ∧ a1 ≤ 1) (qcu : H r0 6 = (cu : Int)) (gcu : T.2.2.2 cu = some 27) (qwa : H r0 2 = (wa : Int)) (gwa : T.2.2.2 wa = some 6) (qce : H r0 3 = (ce : Int)) (gce : T.2.2.2 ce = some 12) (p0 : ∀ i, i ≠ 13 → e i = d i) (p1 : XW d) (p2 : e 0 3 = d 0 3) (p3 : e 0 0 = d 0 0) (p4 : a1 = 0 ∨ n = xlots d) (hCU_cu : CU T H cu e d n) (hCEN_ce : CEN T H ce e d) (hHDR_ce : HDR T H ce ) : wpc kt 6 121 [.ref r0, vI a1] T H (uq_121 r0 a1 cu wa ce e d n T H) := by
  refine wp_enter e121 (Nat.le_of_ble_eq_true rfl) rfl ?_
  have f0 : wfr [(12, 5), (12, 6), (12, 7), (12, 8), (12, 9), (6, 5), (8, 999), (10, 999), (15, 999), (9, 999), (18, 999), (19, 999), (7, 999), (11, 999), (17, 999), (13, 999)] T H H := wfr.rf
  show wp _ _ 121 0 [(0, .ref r0), (1, vI a1)] [] _ H _
  have u1033 := CU_k hCU_cu
  refine wp_of e121 c121_0 (rw_aload_n (pc' := 1) (v := .ref r0) rfl rfl rfl ?_)
  refine wp_of e121 c121_1 (rw_iload_n (pc' := 2) (z := a1) rfl rfl ?_)
  refine wp_of e121 c121_2 (xc_V (pc' := 5) (r := r0) (as := [vI a1]) (st := []) (lm_0_174) rfl rfl (Nat.le_of_ble_eq_true rfl) hW g0 sh_1 (by decide) rfl (by decide) (u_83 (e := e) (d := d) (n := n) hW g0 ⟨i1.1, i1.2⟩ qcu gcu qwa gwa qce gce (by assumption) (by assumption) (by omega) (by omega) (by omega) hCU_cu hCEN_ce hHDR_ce) (fun R1034 T1035 H1036 p1037 => ?_))
  obtain ⟨e1038, w1040, f1041, z1042, e1039, b1043, p1044⟩ := p1037
  subst e1038
  subst e1039
  rcases p1044 with ⟨a1045, a1046, a1047, a1048, a1049, a1050⟩ | ⟨a1051, a1052, a1053⟩
  · have f1054 := f0.tr f1041 rfl
    show wp _ _ 121 5 [(0, .ref r0), (1, vI a1)] [vI z1042] _ H1036 _
    refine wp_of e121 c121_5 (rw_istore_n (pc' := 6) (z := z1042) (L' := [(2, vI z1042), (0, .ref r0), (1, vI a1)]) rfl rfl rfl ?_)
    refine wp_of e121 c121_6 (rw_iload_n (pc' := 7) (z := z1042) rfl rfl ?_)
    refine wp_of e121 c121_7 (rw_if_eq (p1 := 12) (p2 := 10) (by decide) rfl ⟨Int.le_trans (by decide) b1043.1, Int.le_trans b1043.2 (by decide)⟩ (fun c1055 => ?_) (fun c1055 => ?_))
    · refine wp_of e121 c121_12 (rw_aload_n (pc' := 13) (v := .ref r0) rfl rfl rfl ?_)
      have k1056 : H1036 r0 3 = H r0 3 := (f1041 r0 3 _ g0 rfl)
      have q1057 : H1036 r0 3 = (ce : Int) := k1056.trans qce
      refine wp_of e121 c121_13 (xg_K (pc' := 16) lf_0_30 w1040 g0 sh_1 (by decide) (by decide) rfl q1057 rfl ?_)
      refine wp_of e121 c121_16 (xg_I (pc' := 19) lf_0_177 w1040 gce sh_12 (by decide) (by decide) ty_12_5 rfl rfl (fun b1058 b1059 => ?_))
      refine wp_of e121 c121_19 (rw_sipush (pc' := 22) (z := 400) rfl (by decide) ?_)
      refine wp_of e121 c121_22 (rw_icmp_le (p1 := 27) (p2 := 25) (by decide) rfl ⟨b1058, b1059⟩ ⟨by decide, by decide⟩ (fun c1060 => ?_) (fun c1060 => ?_))
      · refine wp_of e121 c121_27 (rw_aload_n (pc' := 28) (v := .ref r0) rfl rfl rfl ?_)
        refine wp_of e121 c121_28 (xg_K (pc' := 31) lf_0_30 w1040 g0 sh_1 (by decide) (by decide) rfl q1057 rfl ?_)
        refine wp_of e121 c121_31 (xg_I (pc' := 34) lf_0_177 w1040 gce sh_12 (by decide) (by decide) ty_12_5 rfl rfl (fun b1061 b1062 => ?_))
        refine wp_of e121 c121_34 (rw_if_ne (p1 := 42) (p2 := 37) (by decide) rfl ⟨b1061, b1062⟩ (fun c1063 => ?_) (fun c1063 => ?_))
        · refine wp_of e121 c121_42 (rw_iconst (pc' := 43) rfl ?_)
          exact wp_ireturn e121 c121_43 rfl ⟨rfl, w1040, f1054, 0, rfl, ⟨by decide, by decide⟩, (Or.inl ⟨by omega, by omega, a1048⟩)⟩
        · refine wp_of e121 c121_37 (rw_bipush (pc' := 39) (z := 6) rfl (by decide) ?_)
          refine wp_of e121 c121_39 (rw_goto (p1 := 43) (by decide) ?_)
          exact wp_ireturn e121 c121_43 rfl ⟨rfl, w1040, f1054, 6, rfl, ⟨by decide, by decide⟩, (Or.inr ⟨by omega, a1048⟩)⟩
      · refine wp_of e121 c121_25 (rw_iconst (pc' := 26) rfl ?_)
        exact wp_ireturn e121 c121_26 rfl ⟨rfl, w1040, f1054, 3, rfl, ⟨by decide, by decide⟩, (Or.inr ⟨by omega, a1048⟩)⟩
    · exfalso
      omega
  · have f1064 := f0.tr f1041 rfl
    show wp _ _ 121 5 [(0, .ref r0), (1, vI a1)] [vI z1042] _ H1036 _
    refine wp_of e121 c121_5 (rw_istore_n (pc' := 6) (z := z1042) (L' := [(2, vI z1042), (0, .ref r0), (1, vI a1)]) rfl rfl rfl ?_)
    refine wp_of e121 c121_6 (rw_iload_n (pc' := 7) (z := z1042) rfl rfl ?_)
    refine wp_of e121 c121_7 (rw_if_eq (p1 := 12) (p2 := 10) (by decide) rfl ⟨Int.le_trans (by decide) b1043.1, Int.le_trans b1043.2 (by decide)⟩ (fun c1065 => ?_) (fun c1065 => ?_))
    · exfalso
      omega
    · refine wp_of e121 c121_10 (rw_iload_n (pc' := 11) (z := z1042) rfl rfl ?_)
      exact wp_ireturn e121 c121_11 rfl ⟨rfl, w1040, f1064, z1042, rfl, ⟨b1043.1, b1043.2⟩, (Or.inr ⟨by omega, a1053⟩)⟩
/-! StrikeAwake.worlds()I  -/
abbrev uq_82 (r0 : Nat) (cu : Nat) (wa : Nat) (ce : Nat) (e : xD) (d : xD) (n : Int) (T : wq_T) (H : wq_H) : Option Value → wq_T → wq_H → Prop := fun r T' H' => T = T' ∧ WT T H' ∧ wfr [(12, 5), (12, 6), (12, 7), (12, 8), (12, 9), (1, 10), (6, 5), (8, 999), (10, 999), (15, 999), (9, 999), (18, 999), (19, 999), (7, 999), (11, 999), (17, 999), (13, 999)] T H H' ∧ ∃ z : Int, some (vI z) = r ∧ ((-2147483648) ≤ z ∧ z ≤ 2147483647) ∧ (((z = -1) ∧ (H r0 8 = 0 ∨ 20000 < n) ∧ CEN T H' ce e d) ∨ ((H r0 8 ≠ 0 ∧ n ≤ 20000) ∧ (z = xcn (xwf e d) (xlots d).toNat) ∧ CEN T H' ce e d))
set_option maxHeartbeats 4000000 in
theorem u_82 {kt : Nat → Option mc_E} {T : wq_T} {H : wq_H} {r0 : Nat} {cu : Nat} {wa : Nat} {ce : Nat} {e : xD} {d : xD} {n : Int} (hW : WT T H) (g0 : T.2.2.2 r0 = some 1) (qcu : H r0 6 = (cu : Int)) (gcu : T.2.2.2 cu = some 27) (qwa : H r0 2 = (wa : Int)) (gwa : T.2.2.2 wa = some 6) (qce : H r0 3 = (ce : Int)) (gce : T.2.2.2 ce = some 12) (p0 : ∀ i, i ≠ 13 → e i = d i) (p1 : XW d) (p2 : e 0 3 = d 0 3) (p3 : e 0 0 = d 0 0) (p4 : H r0 8 = 0 ∨ n = xlots d) (p5 : H r0 8 ≠ 0 ∨ (d 0 3 = 0 ∧ d 0 0 = 0)) (hCU_cu : CU T H cu e d n) (hCEN_ce : CEN T H ce e d) (hHDR_ce : HDR T H ce ) : wpc kt 6 82 [.ref r0] T H (uq_82 r0 cu wa ce e d n T H) := by
  refine wp_enter e82 (Nat.le_of_ble_eq_true rfl) rfl ?_
  have f0 : wfr [(12, 5), (12, 6), (12, 7), (12, 8), (12, 9), (1, 10), (6, 5), (8, 999), (10, 999), (15, 999), (9, 999), (18, 999), (19, 999), (7, 999), (11, 999), (17, 999), (13, 999)] T H H := wfr.rf
  show wp _ _ 82 0 [(0, .ref r0)] [] _ H _
  have u1059 := CU_k hCU_cu
  have b1060 : 0 ≤ H r0 8 ∧ H r0 8 ≤ 1 := hW.box g0 (n := 13) rfl (by decide) rfl
  have _c7 : d 0 0 ≤ 24 := p1.2.1.2.1
  refine wp_of e82 c82_0 (rw_aload_n (pc' := 1) (v := .ref r0) rfl rfl rfl ?_)
  refine wp_of e82 c82_1 (rw_aload_n (pc' := 2) (v := .ref r0) rfl rfl rfl ?_)
  refine wp_of e82 c82_2 (xg_I (pc' := 5) lf_0_58 hW g0 sh_1 (by decide) (by decide) ty_1_8 rfl rfl (fun b1061 b1062 => ?_))
  refine wp_of e82 c82_5 (xc_V (pc' := 8) (r := r0) (as := [vI (H r0 8)]) (st := []) (lm_0_174) rfl rfl (Nat.le_of_ble_eq_true rfl) hW g0 sh_1 (by decide) rfl (by decide) (u_83 (e := e) (d := d) (n := n) hW g0 ⟨b1061, b1062⟩ qcu gcu qwa gwa qce gce (by assumption) (by assumption) (by omega) (by omega) (by omega) hCU_cu hCEN_ce hHDR_ce) (fun R1063 T1064 H1065 p1066 => ?_))
  obtain ⟨e1067, w1069, f1070, z1071, e1068, b1072, p1073⟩ := p1066
  subst e1067
  subst e1068
  rcases p1073 with ⟨a1074, a1075, a1076, a1077, a1078, a1079⟩ | ⟨a1080, a1081, a1082⟩
  · have f1083 := f0.tr f1070 rfl
    show wp _ _ 82 8 [(0, .ref r0)] [vI z1071] _ H1065 _
    refine wp_of e82 c82_8 (rw_istore_n (pc' := 9) (z := z1071) (L' := [(1, vI z1071), (0, .ref r0)]) rfl rfl rfl ?_)
    refine wp_of e82 c82_9 (rw_iload_n (pc' := 10) (z := z1071) rfl rfl ?_)
    refine wp_of e82 c82_10 (rw_if_eq (p1 := 19) (p2 := 13) (by decide) rfl ⟨Int.le_trans (by decide) b1072.1, Int.le_trans b1072.2 (by decide)⟩ (fun c1084 => ?_) (fun c1084 => ?_))
    · have _cb := (a1078).1
      refine wp_of e82 c82_19 (rw_aload_n (pc' := 20) (v := .ref r0) rfl rfl rfl ?_)
      refine wp_of e82 c82_20 (rw_aload_n (pc' := 21) (v := .ref r0) rfl rfl rfl ?_)
      have k1085 : H1065 r0 3 = H r0 3 := (f1070 r0 3 _ g0 rfl)
      have q1086 : H1065 r0 3 = (ce : Int) := k1085.trans qce
      refine wp_of e82 c82_21 (xg_K (pc' := 24) lf_0_30 w1069 g0 sh_1 (by decide) (by decide) rfl q1086 rfl ?_)
      refine wp_of e82 c82_24 (xg_I (pc' := 27) lf_0_177 w1069 gce sh_12 (by decide) (by decide) ty_12_5 rfl rfl (fun b1087 b1088 => ?_))
      refine wp_of e82 c82_27 (xc_V (pc' := 30) (r := r0) (as := [vI (H1065 ce 5)]) (st := []) (lm_0_99) rfl rfl (Nat.le_of_ble_eq_true rfl) w1069 g0 sh_1 (by decide) rfl (by decide) (u_51  w1069 g0 ⟨b1087, b1088⟩) (fun R1089 T1090 H1091 p1092 => ?_))
      obtain ⟨e1093, w1095, f1096, z1097, e1094, b1098, p1099⟩ := p1092
      subst e1093
      subst e1094
      obtain ⟨a1100, a1101⟩ := p1099
      have f1102 := f1083.tr f1096 rfl
      show wp _ _ 82 30 [(1, vI z1071), (0, .ref r0)] [vI z1097] _ H1091 _
      have h1103 : CEN T H1091 ce e d := (CEN_fr w1069 gce f1096 rfl a1077)
      exact wp_ireturn e82 c82_30 rfl ⟨rfl, w1095, f1102, z1097, rfl, ⟨b1098.1, b1098.2⟩, (Or.inr ⟨by omega, by omega, h1103⟩)⟩
    · exfalso
      omega
  · have f1104 := f0.tr f1070 rfl
    show wp _ _ 82 8 [(0, .ref r0)] [vI z1071] _ H1065 _
    refine wp_of e82 c82_8 (rw_istore_n (pc' := 9) (z := z1071) (L' := [(1, vI z1071), (0, .ref r0)]) rfl rfl rfl ?_)
    refine wp_of e82 c82_9 (rw_iload_n (pc' := 10) (z := z1071) rfl rfl ?_)
    refine wp_of e82 c82_10 (rw_if_eq (p1 := 19) (p2 := 13) (by decide) rfl ⟨Int.le_trans (by decide) b1072.1, Int.le_trans b1072.2 (by decide)⟩ (fun c1105 => ?_) (fun c1105 => ?_))
    · exfalso
      omega
    · refine wp_of e82 c82_13 (rw_aload_n (pc' := 14) (v := .ref r0) rfl rfl rfl ?_)
      refine wp_of e82 c82_14 (rw_iload_n (pc' := 15) (z := z1071) rfl rfl ?_)
      refine wp_of e82 c82_15 (xc_V (pc' := 18) (r := r0) (as := [vI z1071]) (st := []) (lm_0_70) rfl rfl (Nat.le_of_ble_eq_true rfl) w1069 g0 sh_1 (by decide) rfl (by decide) (u_12  w1069 g0 ⟨Int.le_trans (by decide) b1072.1, Int.le_trans b1072.2 (by decide)⟩) (fun R1106 T1107 H1108 p1109 => ?_))
      obtain ⟨e1110, w1112, f1113, z1114, e1111, b1115, p1116⟩ := p1109
      subst e1110
      subst e1111
      obtain ⟨a1117, a1118⟩ := p1116
      have f1119 := f1104.tr f1113 rfl
      show wp _ _ 82 18 [(1, vI z1071), (0, .ref r0)] [vI z1114] _ H1108 _
      have h1120 : CEN T H1108 ce e d := (CEN_fr w1069 gce f1113 rfl a1082)
      exact wp_ireturn e82 c82_18 rfl ⟨rfl, w1112, f1119, z1114, rfl, ⟨b1115.1, b1115.2⟩, (Or.inl ⟨by omega, by omega, h1120⟩)⟩
/-! StrikeAwake.can()I  -/
abbrev uq_92 (r0 : Nat) (cu : Nat) (wa : Nat) (ce : Nat) (e : xD) (d : xD) (n : Int) (T : wq_T) (H : wq_H) : Option Value → wq_T → wq_H → Prop := fun r T' H' => T = T' ∧ WT T H' ∧ wfr [(12, 5), (12, 6), (12, 7), (12, 8), (12, 9), (1, 10), (6, 5), (8, 999), (10, 999), (15, 999), (9, 999), (18, 999), (19, 999), (7, 999), (11, 999), (17, 999), (13, 999)] T H H' ∧ ∃ z : Int, some (vI z) = r ∧ ((-2147483648) ≤ z ∧ z ≤ 2147483647) ∧ (((z = -1) ∧ (H r0 8 = 0 ∨ 20000 < n) ∧ CEN T H' ce e d) ∨ ((0 ≤ z ∧ z ≤ 1) ∧ (H r0 8 ≠ 0 ∧ n ≤ 20000) ∧ ((z = 1 ∧ 0 < xcn (xwf e d) (xlots d).toNat) ∨ (z = 0 ∧ xcn (xwf e d) (xlots d).toNat ≤ 0)) ∧ CEN T H' ce e d))
set_option maxHeartbeats 4000000 in
theorem u_92 {kt : Nat → Option mc_E} {T : wq_T} {H : wq_H} {r0 : Nat} {cu : Nat} {wa : Nat} {ce : Nat} {e : xD} {d : xD} {n : Int} (hW : WT T H) (g0 : T.2.2.2 r0 = some 1) (qcu : H r0 6 = (cu : Int)) (gcu : T.2.2.2 cu = some 27) (qwa : H r0 2 = (wa : Int)) (gwa : T.2.2.2 wa = some 6) (qce : H r0 3 = (ce : Int)) (gce : T.2.2.2 ce = some 12) (p0 : ∀ i, i ≠ 13 → e i = d i) (p1 : XW d) (p2 : e 0 3 = d 0 3) (p3 : e 0 0 = d 0 0) (p4 : H r0 8 = 0 ∨ n = xlots d) (p5 : H r0 8 ≠ 0 ∨ (d 0 3 = 0 ∧ d 0 0 = 0)) (hCU_cu : CU T H cu e d n) (hCEN_ce : CEN T H ce e d) (hHDR_ce : HDR T H ce ) : wpc kt 6 92 [.ref r0] T H (uq_92 r0 cu wa ce e d n T H) := by
  refine wp_enter e92 (Nat.le_of_ble_eq_true rfl) rfl ?_
  have f0 : wfr [(12, 5), (12, 6), (12, 7), (12, 8), (12, 9), (1, 10), (6, 5), (8, 999), (10, 999), (15, 999), (9, 999), (18, 999), (19, 999), (7, 999), (11, 999), (17, 999), (13, 999)] T H H := wfr.rf
  show wp _ _ 92 0 [(0, .ref r0)] [] _ H _
  have u1074 := CU_k hCU_cu
  have b1075 : 0 ≤ H r0 8 ∧ H r0 8 ≤ 1 := hW.box g0 (n := 13) rfl (by decide) rfl
  have _c7 : d 0 0 ≤ 24 := p1.2.1.2.1
  refine wp_of e92 c92_0 (rw_aload_n (pc' := 1) (v := .ref r0) rfl rfl rfl ?_)
  refine wp_of e92 c92_1 (rw_aload_n (pc' := 2) (v := .ref r0) rfl rfl rfl ?_)
  refine wp_of e92 c92_2 (xg_I (pc' := 5) lf_0_58 hW g0 sh_1 (by decide) (by decide) ty_1_8 rfl rfl (fun b1076 b1077 => ?_))
  refine wp_of e92 c92_5 (xc_V (pc' := 8) (r := r0) (as := [vI (H r0 8)]) (st := []) (lm_0_174) rfl rfl (Nat.le_of_ble_eq_true rfl) hW g0 sh_1 (by decide) rfl (by decide) (u_83 (e := e) (d := d) (n := n) hW g0 ⟨b1076, b1077⟩ qcu gcu qwa gwa qce gce (by assumption) (by assumption) (by omega) (by omega) (by omega) hCU_cu hCEN_ce hHDR_ce) (fun R1078 T1079 H1080 p1081 => ?_))
  obtain ⟨e1082, w1084, f1085, z1086, e1083, b1087, p1088⟩ := p1081
  subst e1082
  subst e1083
  rcases p1088 with ⟨a1089, a1090, a1091, a1092, a1093, a1094⟩ | ⟨a1095, a1096, a1097⟩
  · have f1098 := f0.tr f1085 rfl
    show wp _ _ 92 8 [(0, .ref r0)] [vI z1086] _ H1080 _
    refine wp_of e92 c92_8 (rw_istore_n (pc' := 9) (z := z1086) (L' := [(1, vI z1086), (0, .ref r0)]) rfl rfl rfl ?_)
    refine wp_of e92 c92_9 (rw_iload_n (pc' := 10) (z := z1086) rfl rfl ?_)
    refine wp_of e92 c92_10 (rw_if_eq (p1 := 19) (p2 := 13) (by decide) rfl ⟨Int.le_trans (by decide) b1087.1, Int.le_trans b1087.2 (by decide)⟩ (fun c1099 => ?_) (fun c1099 => ?_))
    · have _cb := (a1093).1
      refine wp_of e92 c92_19 (rw_aload_n (pc' := 20) (v := .ref r0) rfl rfl rfl ?_)
      refine wp_of e92 c92_20 (rw_aload_n (pc' := 21) (v := .ref r0) rfl rfl rfl ?_)
      have k1100 : H1080 r0 3 = H r0 3 := (f1085 r0 3 _ g0 rfl)
      have q1101 : H1080 r0 3 = (ce : Int) := k1100.trans qce
      refine wp_of e92 c92_21 (xg_K (pc' := 24) lf_0_30 w1084 g0 sh_1 (by decide) (by decide) rfl q1101 rfl ?_)
      refine wp_of e92 c92_24 (xg_I (pc' := 27) lf_0_177 w1084 gce sh_12 (by decide) (by decide) ty_12_5 rfl rfl (fun b1102 b1103 => ?_))
      refine wp_of e92 c92_27 (rw_if_le (p1 := 34) (p2 := 30) (by decide) rfl ⟨b1102, b1103⟩ (fun c1104 => ?_) (fun c1104 => ?_))
      · refine wp_of e92 c92_34 (rw_iconst (pc' := 35) rfl ?_)
        refine wp_of e92 c92_35 (xc_V (pc' := 38) (r := r0) (as := [vI 0]) (st := []) (lm_0_99) rfl rfl (Nat.le_of_ble_eq_true rfl) w1084 g0 sh_1 (by decide) rfl (by decide) (u_51  w1084 g0 ⟨by decide, by decide⟩) (fun R1105 T1106 H1107 p1108 => ?_))
        obtain ⟨e1109, w1111, f1112, z1113, e1110, b1114, p1115⟩ := p1108
        subst e1109
        subst e1110
        obtain ⟨a1116, a1117⟩ := p1115
        have f1118 := f1098.tr f1112 rfl
        show wp _ _ 92 38 [(1, vI z1086), (0, .ref r0)] [vI z1113] _ H1107 _
        have h1119 : CEN T H1107 ce e d := (CEN_fr w1084 gce f1112 rfl a1092)
        exact wp_ireturn e92 c92_38 rfl ⟨rfl, w1111, f1118, z1113, rfl, ⟨b1114.1, b1114.2⟩, (Or.inr ⟨by omega, by omega, by omega, h1119⟩)⟩
      · refine wp_of e92 c92_30 (rw_iconst (pc' := 31) rfl ?_)
        refine wp_of e92 c92_31 (rw_goto (p1 := 35) (by decide) ?_)
        refine wp_of e92 c92_35 (xc_V (pc' := 38) (r := r0) (as := [vI 1]) (st := []) (lm_0_99) rfl rfl (Nat.le_of_ble_eq_true rfl) w1084 g0 sh_1 (by decide) rfl (by decide) (u_51  w1084 g0 ⟨by decide, by decide⟩) (fun R1120 T1121 H1122 p1123 => ?_))
        obtain ⟨e1124, w1126, f1127, z1128, e1125, b1129, p1130⟩ := p1123
        subst e1124
        subst e1125
        obtain ⟨a1131, a1132⟩ := p1130
        have f1133 := f1098.tr f1127 rfl
        show wp _ _ 92 38 [(1, vI z1086), (0, .ref r0)] [vI z1128] _ H1122 _
        have h1134 : CEN T H1122 ce e d := (CEN_fr w1084 gce f1127 rfl a1092)
        exact wp_ireturn e92 c92_38 rfl ⟨rfl, w1126, f1133, z1128, rfl, ⟨b1129.1, b1129.2⟩, (Or.inr ⟨by omega, by omega, by omega, h1134⟩)⟩
    · exfalso
      omega
  · have f1135 := f0.tr f1085 rfl
    show wp _ _ 92 8 [(0, .ref r0)] [vI z1086] _ H1080 _
    refine wp_of e92 c92_8 (rw_istore_n (pc' := 9) (z := z1086) (L' := [(1, vI z1086), (0, .ref r0)]) rfl rfl rfl ?_)
    refine wp_of e92 c92_9 (rw_iload_n (pc' := 10) (z := z1086) rfl rfl ?_)
    refine wp_of e92 c92_10 (rw_if_eq (p1 := 19) (p2 := 13) (by decide) rfl ⟨Int.le_trans (by decide) b1087.1, Int.le_trans b1087.2 (by decide)⟩ (fun c1136 => ?_) (fun c1136 => ?_))
    · exfalso
      omega
    · refine wp_of e92 c92_13 (rw_aload_n (pc' := 14) (v := .ref r0) rfl rfl rfl ?_)
      refine wp_of e92 c92_14 (rw_iload_n (pc' := 15) (z := z1086) rfl rfl ?_)
      refine wp_of e92 c92_15 (xc_V (pc' := 18) (r := r0) (as := [vI z1086]) (st := []) (lm_0_70) rfl rfl (Nat.le_of_ble_eq_true rfl) w1084 g0 sh_1 (by decide) rfl (by decide) (u_12  w1084 g0 ⟨Int.le_trans (by decide) b1087.1, Int.le_trans b1087.2 (by decide)⟩) (fun R1137 T1138 H1139 p1140 => ?_))
      obtain ⟨e1141, w1143, f1144, z1145, e1142, b1146, p1147⟩ := p1140
      subst e1141
      subst e1142
      obtain ⟨a1148, a1149⟩ := p1147
      have f1150 := f1135.tr f1144 rfl
      show wp _ _ 92 18 [(1, vI z1086), (0, .ref r0)] [vI z1145] _ H1139 _
      have h1151 : CEN T H1139 ce e d := (CEN_fr w1084 gce f1144 rfl a1097)
      exact wp_ireturn e92 c92_18 rfl ⟨rfl, w1143, f1150, z1145, rfl, ⟨b1146.1, b1146.2⟩, (Or.inl ⟨by omega, by omega, h1151⟩)⟩
/-! StrikeAwake.world(II)I  -/
abbrev uq_93 (r0 : Nat) (a1 : Int) (a2 : Int) (cu : Nat) (wa : Nat) (ce : Nat) (e : xD) (d : xD) (n : Int) (T : wq_T) (H : wq_H) : Option Value → wq_T → wq_H → Prop := fun r T' H' => T = T' ∧ WT T H' ∧ wfr [(12, 5), (12, 6), (12, 7), (12, 8), (12, 9), (1, 10), (6, 5), (8, 999), (10, 999), (15, 999), (9, 999), (18, 999), (19, 999), (7, 999), (11, 999), (17, 999), (13, 999)] T H H' ∧ ∃ z : Int, some (vI z) = r ∧ ((-2147483648) ≤ z ∧ z ≤ 2147483647) ∧ ((CEN T H' ce e d))
set_option maxHeartbeats 4000000 in
theorem u_93 {kt : Nat → Option mc_E} {T : wq_T} {H : wq_H} {r0 : Nat} {a1 : Int} {a2 : Int} {cu : Nat} {wa : Nat} {ce : Nat} {e : xD} {d : xD} {n : Int} (hW : WT T H) (g0 : T.2.2.2 r0 = some 1) (i1 : (-2147483648) ≤ a1 ∧ a1 ≤ 2147483647) (i2 : (-2147483648) ≤ a2 ∧ a2 ≤ 2147483647) (qcu : H r0 6 = (cu : Int)) (gcu : T.2.2.2 cu = some 27) (qwa : H r0 2 = (wa : Int)) (gwa : T.2.2.2 wa = some 6) (qce : H r0 3 = (ce : Int)) (gce : T.2.2.2 ce = some 12) (p0 : ∀ i, i ≠ 13 → e i = d i) (p1 : XW d) (p2 : e 0 3 = d 0 3) (p3 : e 0 0 = d 0 0) (p4 : H r0 8 = 0 ∨ n = xlots d) (p5 : H r0 8 ≠ 0 ∨ (d 0 3 = 0 ∧ d 0 0 = 0)) (hCU_cu : CU T H cu e d n) (hCEN_ce : CEN T H ce e d) (hHDR_ce : HDR T H ce ) : wpc kt 6 93 [.ref r0, vI a1, vI a2] T H (uq_93 r0 a1 a2 cu wa ce e d n T H) := by
  refine wp_enter e93 (Nat.le_of_ble_eq_true rfl) rfl ?_
  have f0 : wfr [(12, 5), (12, 6), (12, 7), (12, 8), (12, 9), (1, 10), (6, 5), (8, 999), (10, 999), (15, 999), (9, 999), (18, 999), (19, 999), (7, 999), (11, 999), (17, 999), (13, 999)] T H H := wfr.rf
  show wp _ _ 93 0 [(0, .ref r0), (1, vI a1), (2, vI a2)] [] _ H _
  have u1264 := CU_k hCU_cu
  have b1265 : 0 ≤ H r0 8 ∧ H r0 8 ≤ 1 := hW.box g0 (n := 13) rfl (by decide) rfl
  have _c7 : d 0 0 ≤ 24 := p1.2.1.2.1
  refine wp_of e93 c93_0 (rw_aload_n (pc' := 1) (v := .ref r0) rfl rfl rfl ?_)
  refine wp_of e93 c93_1 (rw_aload_n (pc' := 2) (v := .ref r0) rfl rfl rfl ?_)
  refine wp_of e93 c93_2 (rw_iload_n (pc' := 3) (z := a2) rfl rfl ?_)
  refine wp_of e93 c93_3 (xc_V (pc' := 6) (r := r0) (as := [vI a2]) (st := [.ref r0]) (lm_0_105) rfl rfl (Nat.le_of_ble_eq_true rfl) hW g0 sh_1 (by decide) rfl (by decide) (u_55  hW g0 ⟨i2.1, i2.2⟩ qcu gcu) (fun R1266 T1267 H1268 p1269 => ?_))
  obtain ⟨e1270, e1272, z1273, e1271, b1274, p1275⟩ := p1269
  subst e1270
  subst e1271
  subst e1272
  rcases p1275 with ⟨a1276, a1277⟩ | ⟨a1278, a1279⟩
  · show wp _ _ 93 6 [(0, .ref r0), (1, vI a1), (2, vI a2)] [vI z1273, .ref r0] _ H _
    refine wp_of e93 c93_6 (rw_if_eq (p1 := 17) (p2 := 9) (by decide) rfl ⟨Int.le_trans (by decide) b1274.1, Int.le_trans b1274.2 (by decide)⟩ (fun c1280 => ?_) (fun c1280 => ?_))
    · exfalso
      omega
    · refine wp_of e93 c93_9 (rw_iload_n (pc' := 10) (z := a1) rfl rfl ?_)
      refine wp_of e93 c93_10 (rw_if_lt (p1 := 17) (p2 := 13) (by decide) rfl ⟨i1.1, i1.2⟩ (fun c1281 => ?_) (fun c1281 => ?_))
      · refine wp_of e93 c93_17 (rw_iconst (pc' := 18) rfl ?_)
        refine wp_of e93 c93_18 (xc_V (pc' := 21) (r := r0) (as := [vI 0]) (st := []) (lm_0_174) rfl rfl (Nat.le_of_ble_eq_true rfl) hW g0 sh_1 (by decide) rfl (by decide) (u_83 (e := e) (d := d) (n := n) hW g0 ⟨by decide, by decide⟩ qcu gcu qwa gwa qce gce (by assumption) (by assumption) (by omega) (by omega) (by omega) hCU_cu hCEN_ce hHDR_ce) (fun R1282 T1283 H1284 p1285 => ?_))
        obtain ⟨e1286, w1288, f1289, z1290, e1287, b1291, p1292⟩ := p1285
        subst e1286
        subst e1287
        rcases p1292 with ⟨a1293, a1294, a1295, a1296, a1297, a1298⟩ | ⟨a1299, a1300, a1301⟩
        · have f1302 := f0.tr f1289 rfl
          show wp _ _ 93 21 [(0, .ref r0), (1, vI a1), (2, vI a2)] [vI z1290] _ H1284 _
          refine wp_of e93 c93_21 (rw_istore_n (pc' := 22) (z := z1290) (L' := [(3, vI z1290), (0, .ref r0), (1, vI a1), (2, vI a2)]) rfl rfl rfl ?_)
          refine wp_of e93 c93_22 (rw_iload_n (pc' := 23) (z := z1290) rfl rfl ?_)
          refine wp_of e93 c93_23 (rw_if_eq (p1 := 32) (p2 := 26) (by decide) rfl ⟨Int.le_trans (by decide) b1291.1, Int.le_trans b1291.2 (by decide)⟩ (fun c1303 => ?_) (fun c1303 => ?_))
          · refine wp_of e93 c93_32 (rw_iload_n (pc' := 33) (z := a1) rfl rfl ?_)
            refine wp_of e93 c93_33 (rw_aload_n (pc' := 34) (v := .ref r0) rfl rfl rfl ?_)
            have k1304 : H1284 r0 3 = H r0 3 := (f1289 r0 3 _ g0 rfl)
            have q1305 : H1284 r0 3 = (ce : Int) := k1304.trans qce
            refine wp_of e93 c93_34 (xg_K (pc' := 37) lf_0_30 w1288 g0 sh_1 (by decide) (by decide) rfl q1305 rfl ?_)
            refine wp_of e93 c93_37 (xg_I (pc' := 40) lf_0_177 w1288 gce sh_12 (by decide) (by decide) ty_12_5 rfl rfl (fun b1306 b1307 => ?_))
            refine wp_of e93 c93_40 (rw_icmp_lt (p1 := 49) (p2 := 43) (by decide) rfl ⟨i1.1, i1.2⟩ ⟨b1306, b1307⟩ (fun c1308 => ?_) (fun c1308 => ?_))
            · refine wp_of e93 c93_49 (rw_aload_n (pc' := 50) (v := .ref r0) rfl rfl rfl ?_)
              refine wp_of e93 c93_50 (rw_aload_n (pc' := 51) (v := .ref r0) rfl rfl rfl ?_)
              have k1309 : H1284 r0 6 = H r0 6 := (f1289 r0 6 _ g0 rfl)
              have q1310 : H1284 r0 6 = (cu : Int) := k1309.trans qcu
              refine wp_of e93 c93_51 (xg_K (pc' := 54) lf_0_51 w1288 g0 sh_1 (by decide) (by decide) rfl q1310 rfl ?_)
              refine wp_of e93 c93_54 (rw_aload_n (pc' := 55) (v := .ref r0) rfl rfl rfl ?_)
              refine wp_of e93 c93_55 (xg_K (pc' := 58) lf_0_30 w1288 g0 sh_1 (by decide) (by decide) rfl q1305 rfl ?_)
              refine wp_of e93 c93_58 (rw_iload_n (pc' := 59) (z := a1) rfl rfl ?_)
              refine wp_of e93 c93_59 (xc_V (pc' := 62) (r := ce) (as := [vI a1]) (st := [.ref cu, .ref r0]) (lm_0_180) rfl rfl (Nat.le_of_ble_eq_true rfl) w1288 gce sh_12 (by decide) rfl (by decide) (s_94 w1288 gce ⟨i1.1, i1.2⟩) (fun R1311 T1312 H1313 p1314 => ?_))
              obtain ⟨e1315, e1317, z1318, e1316, b1319⟩ := p1314
              subst e1315
              subst e1316
              subst e1317
              show wp _ _ 93 62 [(3, vI z1290), (0, .ref r0), (1, vI a1), (2, vI a2)] [vI z1318, .ref cu, .ref r0] _ H1284 _
              refine wp_of e93 c93_62 (rw_iload_n (pc' := 63) (z := a2) rfl rfl ?_)
              refine wp_of e93 c93_63 (xc_V (pc' := 66) (r := cu) (as := [vI z1318, vI a2]) (st := [.ref r0]) (lm_0_183) rfl rfl (Nat.le_of_ble_eq_true rfl) w1288 gcu sh_27 (by decide) rfl (by decide) (s_96 w1288 gcu ⟨b1319.1, Int.le_trans b1319.2 (by decide)⟩ ⟨by omega, by omega⟩) (fun R1320 T1321 H1322 p1323 => ?_))
              obtain ⟨e1324, e1326, z1327, e1325, b1328⟩ := p1323
              subst e1324
              subst e1325
              subst e1326
              show wp _ _ 93 66 [(3, vI z1290), (0, .ref r0), (1, vI a1), (2, vI a2)] [vI z1327, .ref r0] _ H1284 _
              refine wp_of e93 c93_66 (xc_V (pc' := 69) (r := r0) (as := [vI z1327]) (st := []) (lm_0_99) rfl rfl (Nat.le_of_ble_eq_true rfl) w1288 g0 sh_1 (by decide) rfl (by decide) (s_51 w1288 g0 ⟨Int.le_trans (by decide) b1328.1, Int.le_trans b1328.2 (by decide)⟩) (fun R1329 T1330 H1331 p1332 => ?_))
              obtain ⟨e1333, w1335, f1336, z1337, e1334, b1338⟩ := p1332
              subst e1333
              subst e1334
              have f1339 := f1302.tr f1336 rfl
              show wp _ _ 93 69 [(3, vI z1290), (0, .ref r0), (1, vI a1), (2, vI a2)] [vI z1337] _ H1331 _
              have h1340 : CEN T H1331 ce e d := (CEN_fr w1288 gce f1336 rfl a1296)
              exact wp_ireturn e93 c93_69 rfl ⟨rfl, w1335, f1339, z1337, rfl, ⟨b1338.1, b1338.2⟩, (h1340)⟩
            · refine wp_of e93 c93_43 (rw_aload_n (pc' := 44) (v := .ref r0) rfl rfl rfl ?_)
              refine wp_of e93 c93_44 (rw_iconst (pc' := 45) rfl ?_)
              refine wp_of e93 c93_45 (xc_V (pc' := 48) (r := r0) (as := [vI 1]) (st := []) (lm_0_70) rfl rfl (Nat.le_of_ble_eq_true rfl) w1288 g0 sh_1 (by decide) rfl (by decide) (s_12 w1288 g0 ⟨by decide, by decide⟩) (fun R1341 T1342 H1343 p1344 => ?_))
              obtain ⟨e1345, w1347, f1348, z1349, e1346, b1350⟩ := p1344
              subst e1345
              subst e1346
              have f1351 := f1302.tr f1348 rfl
              show wp _ _ 93 48 [(3, vI z1290), (0, .ref r0), (1, vI a1), (2, vI a2)] [vI z1349] _ H1343 _
              have h1352 : CEN T H1343 ce e d := (CEN_fr w1288 gce f1348 rfl a1296)
              exact wp_ireturn e93 c93_48 rfl ⟨rfl, w1347, f1351, z1349, rfl, ⟨b1350.1, b1350.2⟩, (h1352)⟩
          · exfalso
            omega
        · have f1353 := f0.tr f1289 rfl
          show wp _ _ 93 21 [(0, .ref r0), (1, vI a1), (2, vI a2)] [vI z1290] _ H1284 _
          refine wp_of e93 c93_21 (rw_istore_n (pc' := 22) (z := z1290) (L' := [(3, vI z1290), (0, .ref r0), (1, vI a1), (2, vI a2)]) rfl rfl rfl ?_)
          refine wp_of e93 c93_22 (rw_iload_n (pc' := 23) (z := z1290) rfl rfl ?_)
          refine wp_of e93 c93_23 (rw_if_eq (p1 := 32) (p2 := 26) (by decide) rfl ⟨Int.le_trans (by decide) b1291.1, Int.le_trans b1291.2 (by decide)⟩ (fun c1354 => ?_) (fun c1354 => ?_))
          · exfalso
            omega
          · refine wp_of e93 c93_26 (rw_aload_n (pc' := 27) (v := .ref r0) rfl rfl rfl ?_)
            refine wp_of e93 c93_27 (rw_iload_n (pc' := 28) (z := z1290) rfl rfl ?_)
            refine wp_of e93 c93_28 (xc_V (pc' := 31) (r := r0) (as := [vI z1290]) (st := []) (lm_0_70) rfl rfl (Nat.le_of_ble_eq_true rfl) w1288 g0 sh_1 (by decide) rfl (by decide) (s_12 w1288 g0 ⟨Int.le_trans (by decide) b1291.1, Int.le_trans b1291.2 (by decide)⟩) (fun R1355 T1356 H1357 p1358 => ?_))
            obtain ⟨e1359, w1361, f1362, z1363, e1360, b1364⟩ := p1358
            subst e1359
            subst e1360
            have f1365 := f1353.tr f1362 rfl
            show wp _ _ 93 31 [(3, vI z1290), (0, .ref r0), (1, vI a1), (2, vI a2)] [vI z1363] _ H1357 _
            have h1366 : CEN T H1357 ce e d := (CEN_fr w1288 gce f1362 rfl a1301)
            exact wp_ireturn e93 c93_31 rfl ⟨rfl, w1361, f1365, z1363, rfl, ⟨b1364.1, b1364.2⟩, (h1366)⟩
      · refine wp_of e93 c93_13 (rw_iconst (pc' := 14) rfl ?_)
        refine wp_of e93 c93_14 (rw_goto (p1 := 18) (by decide) ?_)
        refine wp_of e93 c93_18 (xc_V (pc' := 21) (r := r0) (as := [vI 1]) (st := []) (lm_0_174) rfl rfl (Nat.le_of_ble_eq_true rfl) hW g0 sh_1 (by decide) rfl (by decide) (u_83 (e := e) (d := d) (n := n) hW g0 ⟨by decide, by decide⟩ qcu gcu qwa gwa qce gce (by assumption) (by assumption) (by omega) (by omega) (by omega) hCU_cu hCEN_ce hHDR_ce) (fun R1367 T1368 H1369 p1370 => ?_))
        obtain ⟨e1371, w1373, f1374, z1375, e1372, b1376, p1377⟩ := p1370
        subst e1371
        subst e1372
        rcases p1377 with ⟨a1378, a1379, a1380, a1381, a1382, a1383⟩ | ⟨a1384, a1385, a1386⟩
        · have f1387 := f0.tr f1374 rfl
          show wp _ _ 93 21 [(0, .ref r0), (1, vI a1), (2, vI a2)] [vI z1375] _ H1369 _
          refine wp_of e93 c93_21 (rw_istore_n (pc' := 22) (z := z1375) (L' := [(3, vI z1375), (0, .ref r0), (1, vI a1), (2, vI a2)]) rfl rfl rfl ?_)
          refine wp_of e93 c93_22 (rw_iload_n (pc' := 23) (z := z1375) rfl rfl ?_)
          refine wp_of e93 c93_23 (rw_if_eq (p1 := 32) (p2 := 26) (by decide) rfl ⟨Int.le_trans (by decide) b1376.1, Int.le_trans b1376.2 (by decide)⟩ (fun c1388 => ?_) (fun c1388 => ?_))
          · refine wp_of e93 c93_32 (rw_iload_n (pc' := 33) (z := a1) rfl rfl ?_)
            refine wp_of e93 c93_33 (rw_aload_n (pc' := 34) (v := .ref r0) rfl rfl rfl ?_)
            have k1389 : H1369 r0 3 = H r0 3 := (f1374 r0 3 _ g0 rfl)
            have q1390 : H1369 r0 3 = (ce : Int) := k1389.trans qce
            refine wp_of e93 c93_34 (xg_K (pc' := 37) lf_0_30 w1373 g0 sh_1 (by decide) (by decide) rfl q1390 rfl ?_)
            refine wp_of e93 c93_37 (xg_I (pc' := 40) lf_0_177 w1373 gce sh_12 (by decide) (by decide) ty_12_5 rfl rfl (fun b1391 b1392 => ?_))
            refine wp_of e93 c93_40 (rw_icmp_lt (p1 := 49) (p2 := 43) (by decide) rfl ⟨i1.1, i1.2⟩ ⟨b1391, b1392⟩ (fun c1393 => ?_) (fun c1393 => ?_))
            · refine wp_of e93 c93_49 (rw_aload_n (pc' := 50) (v := .ref r0) rfl rfl rfl ?_)
              refine wp_of e93 c93_50 (rw_aload_n (pc' := 51) (v := .ref r0) rfl rfl rfl ?_)
              have k1394 : H1369 r0 6 = H r0 6 := (f1374 r0 6 _ g0 rfl)
              have q1395 : H1369 r0 6 = (cu : Int) := k1394.trans qcu
              refine wp_of e93 c93_51 (xg_K (pc' := 54) lf_0_51 w1373 g0 sh_1 (by decide) (by decide) rfl q1395 rfl ?_)
              refine wp_of e93 c93_54 (rw_aload_n (pc' := 55) (v := .ref r0) rfl rfl rfl ?_)
              refine wp_of e93 c93_55 (xg_K (pc' := 58) lf_0_30 w1373 g0 sh_1 (by decide) (by decide) rfl q1390 rfl ?_)
              refine wp_of e93 c93_58 (rw_iload_n (pc' := 59) (z := a1) rfl rfl ?_)
              refine wp_of e93 c93_59 (xc_V (pc' := 62) (r := ce) (as := [vI a1]) (st := [.ref cu, .ref r0]) (lm_0_180) rfl rfl (Nat.le_of_ble_eq_true rfl) w1373 gce sh_12 (by decide) rfl (by decide) (s_94 w1373 gce ⟨i1.1, i1.2⟩) (fun R1396 T1397 H1398 p1399 => ?_))
              obtain ⟨e1400, e1402, z1403, e1401, b1404⟩ := p1399
              subst e1400
              subst e1401
              subst e1402
              show wp _ _ 93 62 [(3, vI z1375), (0, .ref r0), (1, vI a1), (2, vI a2)] [vI z1403, .ref cu, .ref r0] _ H1369 _
              refine wp_of e93 c93_62 (rw_iload_n (pc' := 63) (z := a2) rfl rfl ?_)
              refine wp_of e93 c93_63 (xc_V (pc' := 66) (r := cu) (as := [vI z1403, vI a2]) (st := [.ref r0]) (lm_0_183) rfl rfl (Nat.le_of_ble_eq_true rfl) w1373 gcu sh_27 (by decide) rfl (by decide) (s_96 w1373 gcu ⟨b1404.1, Int.le_trans b1404.2 (by decide)⟩ ⟨by omega, by omega⟩) (fun R1405 T1406 H1407 p1408 => ?_))
              obtain ⟨e1409, e1411, z1412, e1410, b1413⟩ := p1408
              subst e1409
              subst e1410
              subst e1411
              show wp _ _ 93 66 [(3, vI z1375), (0, .ref r0), (1, vI a1), (2, vI a2)] [vI z1412, .ref r0] _ H1369 _
              refine wp_of e93 c93_66 (xc_V (pc' := 69) (r := r0) (as := [vI z1412]) (st := []) (lm_0_99) rfl rfl (Nat.le_of_ble_eq_true rfl) w1373 g0 sh_1 (by decide) rfl (by decide) (s_51 w1373 g0 ⟨Int.le_trans (by decide) b1413.1, Int.le_trans b1413.2 (by decide)⟩) (fun R1414 T1415 H1416 p1417 => ?_))
              obtain ⟨e1418, w1420, f1421, z1422, e1419, b1423⟩ := p1417
              subst e1418
              subst e1419
              have f1424 := f1387.tr f1421 rfl
              show wp _ _ 93 69 [(3, vI z1375), (0, .ref r0), (1, vI a1), (2, vI a2)] [vI z1422] _ H1416 _
              have h1425 : CEN T H1416 ce e d := (CEN_fr w1373 gce f1421 rfl a1381)
              exact wp_ireturn e93 c93_69 rfl ⟨rfl, w1420, f1424, z1422, rfl, ⟨b1423.1, b1423.2⟩, (h1425)⟩
            · refine wp_of e93 c93_43 (rw_aload_n (pc' := 44) (v := .ref r0) rfl rfl rfl ?_)
              refine wp_of e93 c93_44 (rw_iconst (pc' := 45) rfl ?_)
              refine wp_of e93 c93_45 (xc_V (pc' := 48) (r := r0) (as := [vI 1]) (st := []) (lm_0_70) rfl rfl (Nat.le_of_ble_eq_true rfl) w1373 g0 sh_1 (by decide) rfl (by decide) (s_12 w1373 g0 ⟨by decide, by decide⟩) (fun R1426 T1427 H1428 p1429 => ?_))
              obtain ⟨e1430, w1432, f1433, z1434, e1431, b1435⟩ := p1429
              subst e1430
              subst e1431
              have f1436 := f1387.tr f1433 rfl
              show wp _ _ 93 48 [(3, vI z1375), (0, .ref r0), (1, vI a1), (2, vI a2)] [vI z1434] _ H1428 _
              have h1437 : CEN T H1428 ce e d := (CEN_fr w1373 gce f1433 rfl a1381)
              exact wp_ireturn e93 c93_48 rfl ⟨rfl, w1432, f1436, z1434, rfl, ⟨b1435.1, b1435.2⟩, (h1437)⟩
          · exfalso
            omega
        · have f1438 := f0.tr f1374 rfl
          show wp _ _ 93 21 [(0, .ref r0), (1, vI a1), (2, vI a2)] [vI z1375] _ H1369 _
          refine wp_of e93 c93_21 (rw_istore_n (pc' := 22) (z := z1375) (L' := [(3, vI z1375), (0, .ref r0), (1, vI a1), (2, vI a2)]) rfl rfl rfl ?_)
          refine wp_of e93 c93_22 (rw_iload_n (pc' := 23) (z := z1375) rfl rfl ?_)
          refine wp_of e93 c93_23 (rw_if_eq (p1 := 32) (p2 := 26) (by decide) rfl ⟨Int.le_trans (by decide) b1376.1, Int.le_trans b1376.2 (by decide)⟩ (fun c1439 => ?_) (fun c1439 => ?_))
          · exfalso
            omega
          · refine wp_of e93 c93_26 (rw_aload_n (pc' := 27) (v := .ref r0) rfl rfl rfl ?_)
            refine wp_of e93 c93_27 (rw_iload_n (pc' := 28) (z := z1375) rfl rfl ?_)
            refine wp_of e93 c93_28 (xc_V (pc' := 31) (r := r0) (as := [vI z1375]) (st := []) (lm_0_70) rfl rfl (Nat.le_of_ble_eq_true rfl) w1373 g0 sh_1 (by decide) rfl (by decide) (s_12 w1373 g0 ⟨Int.le_trans (by decide) b1376.1, Int.le_trans b1376.2 (by decide)⟩) (fun R1440 T1441 H1442 p1443 => ?_))
            obtain ⟨e1444, w1446, f1447, z1448, e1445, b1449⟩ := p1443
            subst e1444
            subst e1445
            have f1450 := f1438.tr f1447 rfl
            show wp _ _ 93 31 [(3, vI z1375), (0, .ref r0), (1, vI a1), (2, vI a2)] [vI z1448] _ H1442 _
            have h1451 : CEN T H1442 ce e d := (CEN_fr w1373 gce f1447 rfl a1386)
            exact wp_ireturn e93 c93_31 rfl ⟨rfl, w1446, f1450, z1448, rfl, ⟨b1449.1, b1449.2⟩, (h1451)⟩
  · show wp _ _ 93 6 [(0, .ref r0), (1, vI a1), (2, vI a2)] [vI z1273, .ref r0] _ H _
    refine wp_of e93 c93_6 (rw_if_eq (p1 := 17) (p2 := 9) (by decide) rfl ⟨Int.le_trans (by decide) b1274.1, Int.le_trans b1274.2 (by decide)⟩ (fun c1452 => ?_) (fun c1452 => ?_))
    · refine wp_of e93 c93_17 (rw_iconst (pc' := 18) rfl ?_)
      refine wp_of e93 c93_18 (xc_V (pc' := 21) (r := r0) (as := [vI 0]) (st := []) (lm_0_174) rfl rfl (Nat.le_of_ble_eq_true rfl) hW g0 sh_1 (by decide) rfl (by decide) (u_83 (e := e) (d := d) (n := n) hW g0 ⟨by decide, by decide⟩ qcu gcu qwa gwa qce gce (by assumption) (by assumption) (by omega) (by omega) (by omega) hCU_cu hCEN_ce hHDR_ce) (fun R1453 T1454 H1455 p1456 => ?_))
      obtain ⟨e1457, w1459, f1460, z1461, e1458, b1462, p1463⟩ := p1456
      subst e1457
      subst e1458
      rcases p1463 with ⟨a1464, a1465, a1466, a1467, a1468, a1469⟩ | ⟨a1470, a1471, a1472⟩
      · have f1473 := f0.tr f1460 rfl
        show wp _ _ 93 21 [(0, .ref r0), (1, vI a1), (2, vI a2)] [vI z1461] _ H1455 _
        refine wp_of e93 c93_21 (rw_istore_n (pc' := 22) (z := z1461) (L' := [(3, vI z1461), (0, .ref r0), (1, vI a1), (2, vI a2)]) rfl rfl rfl ?_)
        refine wp_of e93 c93_22 (rw_iload_n (pc' := 23) (z := z1461) rfl rfl ?_)
        refine wp_of e93 c93_23 (rw_if_eq (p1 := 32) (p2 := 26) (by decide) rfl ⟨Int.le_trans (by decide) b1462.1, Int.le_trans b1462.2 (by decide)⟩ (fun c1474 => ?_) (fun c1474 => ?_))
        · refine wp_of e93 c93_32 (rw_iload_n (pc' := 33) (z := a1) rfl rfl ?_)
          refine wp_of e93 c93_33 (rw_aload_n (pc' := 34) (v := .ref r0) rfl rfl rfl ?_)
          have k1475 : H1455 r0 3 = H r0 3 := (f1460 r0 3 _ g0 rfl)
          have q1476 : H1455 r0 3 = (ce : Int) := k1475.trans qce
          refine wp_of e93 c93_34 (xg_K (pc' := 37) lf_0_30 w1459 g0 sh_1 (by decide) (by decide) rfl q1476 rfl ?_)
          refine wp_of e93 c93_37 (xg_I (pc' := 40) lf_0_177 w1459 gce sh_12 (by decide) (by decide) ty_12_5 rfl rfl (fun b1477 b1478 => ?_))
          refine wp_of e93 c93_40 (rw_icmp_lt (p1 := 49) (p2 := 43) (by decide) rfl ⟨i1.1, i1.2⟩ ⟨b1477, b1478⟩ (fun c1479 => ?_) (fun c1479 => ?_))
          · refine wp_of e93 c93_49 (rw_aload_n (pc' := 50) (v := .ref r0) rfl rfl rfl ?_)
            refine wp_of e93 c93_50 (rw_aload_n (pc' := 51) (v := .ref r0) rfl rfl rfl ?_)
            have k1480 : H1455 r0 6 = H r0 6 := (f1460 r0 6 _ g0 rfl)
            have q1481 : H1455 r0 6 = (cu : Int) := k1480.trans qcu
            refine wp_of e93 c93_51 (xg_K (pc' := 54) lf_0_51 w1459 g0 sh_1 (by decide) (by decide) rfl q1481 rfl ?_)
            refine wp_of e93 c93_54 (rw_aload_n (pc' := 55) (v := .ref r0) rfl rfl rfl ?_)
            refine wp_of e93 c93_55 (xg_K (pc' := 58) lf_0_30 w1459 g0 sh_1 (by decide) (by decide) rfl q1476 rfl ?_)
            refine wp_of e93 c93_58 (rw_iload_n (pc' := 59) (z := a1) rfl rfl ?_)
            refine wp_of e93 c93_59 (xc_V (pc' := 62) (r := ce) (as := [vI a1]) (st := [.ref cu, .ref r0]) (lm_0_180) rfl rfl (Nat.le_of_ble_eq_true rfl) w1459 gce sh_12 (by decide) rfl (by decide) (s_94 w1459 gce ⟨i1.1, i1.2⟩) (fun R1482 T1483 H1484 p1485 => ?_))
            obtain ⟨e1486, e1488, z1489, e1487, b1490⟩ := p1485
            subst e1486
            subst e1487
            subst e1488
            show wp _ _ 93 62 [(3, vI z1461), (0, .ref r0), (1, vI a1), (2, vI a2)] [vI z1489, .ref cu, .ref r0] _ H1455 _
            refine wp_of e93 c93_62 (rw_iload_n (pc' := 63) (z := a2) rfl rfl ?_)
            refine wp_of e93 c93_63 (xc_V (pc' := 66) (r := cu) (as := [vI z1489, vI a2]) (st := [.ref r0]) (lm_0_183) rfl rfl (Nat.le_of_ble_eq_true rfl) w1459 gcu sh_27 (by decide) rfl (by decide) (s_96 w1459 gcu ⟨b1490.1, Int.le_trans b1490.2 (by decide)⟩ ⟨by omega, by omega⟩) (fun R1491 T1492 H1493 p1494 => ?_))
            obtain ⟨e1495, e1497, z1498, e1496, b1499⟩ := p1494
            subst e1495
            subst e1496
            subst e1497
            show wp _ _ 93 66 [(3, vI z1461), (0, .ref r0), (1, vI a1), (2, vI a2)] [vI z1498, .ref r0] _ H1455 _
            refine wp_of e93 c93_66 (xc_V (pc' := 69) (r := r0) (as := [vI z1498]) (st := []) (lm_0_99) rfl rfl (Nat.le_of_ble_eq_true rfl) w1459 g0 sh_1 (by decide) rfl (by decide) (s_51 w1459 g0 ⟨Int.le_trans (by decide) b1499.1, Int.le_trans b1499.2 (by decide)⟩) (fun R1500 T1501 H1502 p1503 => ?_))
            obtain ⟨e1504, w1506, f1507, z1508, e1505, b1509⟩ := p1503
            subst e1504
            subst e1505
            have f1510 := f1473.tr f1507 rfl
            show wp _ _ 93 69 [(3, vI z1461), (0, .ref r0), (1, vI a1), (2, vI a2)] [vI z1508] _ H1502 _
            have h1511 : CEN T H1502 ce e d := (CEN_fr w1459 gce f1507 rfl a1467)
            exact wp_ireturn e93 c93_69 rfl ⟨rfl, w1506, f1510, z1508, rfl, ⟨b1509.1, b1509.2⟩, (h1511)⟩
          · refine wp_of e93 c93_43 (rw_aload_n (pc' := 44) (v := .ref r0) rfl rfl rfl ?_)
            refine wp_of e93 c93_44 (rw_iconst (pc' := 45) rfl ?_)
            refine wp_of e93 c93_45 (xc_V (pc' := 48) (r := r0) (as := [vI 1]) (st := []) (lm_0_70) rfl rfl (Nat.le_of_ble_eq_true rfl) w1459 g0 sh_1 (by decide) rfl (by decide) (s_12 w1459 g0 ⟨by decide, by decide⟩) (fun R1512 T1513 H1514 p1515 => ?_))
            obtain ⟨e1516, w1518, f1519, z1520, e1517, b1521⟩ := p1515
            subst e1516
            subst e1517
            have f1522 := f1473.tr f1519 rfl
            show wp _ _ 93 48 [(3, vI z1461), (0, .ref r0), (1, vI a1), (2, vI a2)] [vI z1520] _ H1514 _
            have h1523 : CEN T H1514 ce e d := (CEN_fr w1459 gce f1519 rfl a1467)
            exact wp_ireturn e93 c93_48 rfl ⟨rfl, w1518, f1522, z1520, rfl, ⟨b1521.1, b1521.2⟩, (h1523)⟩
        · exfalso
          omega
      · have f1524 := f0.tr f1460 rfl
        show wp _ _ 93 21 [(0, .ref r0), (1, vI a1), (2, vI a2)] [vI z1461] _ H1455 _
        refine wp_of e93 c93_21 (rw_istore_n (pc' := 22) (z := z1461) (L' := [(3, vI z1461), (0, .ref r0), (1, vI a1), (2, vI a2)]) rfl rfl rfl ?_)
        refine wp_of e93 c93_22 (rw_iload_n (pc' := 23) (z := z1461) rfl rfl ?_)
        refine wp_of e93 c93_23 (rw_if_eq (p1 := 32) (p2 := 26) (by decide) rfl ⟨Int.le_trans (by decide) b1462.1, Int.le_trans b1462.2 (by decide)⟩ (fun c1525 => ?_) (fun c1525 => ?_))
        · exfalso
          omega
        · refine wp_of e93 c93_26 (rw_aload_n (pc' := 27) (v := .ref r0) rfl rfl rfl ?_)
          refine wp_of e93 c93_27 (rw_iload_n (pc' := 28) (z := z1461) rfl rfl ?_)
          refine wp_of e93 c93_28 (xc_V (pc' := 31) (r := r0) (as := [vI z1461]) (st := []) (lm_0_70) rfl rfl (Nat.le_of_ble_eq_true rfl) w1459 g0 sh_1 (by decide) rfl (by decide) (s_12 w1459 g0 ⟨Int.le_trans (by decide) b1462.1, Int.le_trans b1462.2 (by decide)⟩) (fun R1526 T1527 H1528 p1529 => ?_))
          obtain ⟨e1530, w1532, f1533, z1534, e1531, b1535⟩ := p1529
          subst e1530
          subst e1531
          have f1536 := f1524.tr f1533 rfl
          show wp _ _ 93 31 [(3, vI z1461), (0, .ref r0), (1, vI a1), (2, vI a2)] [vI z1534] _ H1528 _
          have h1537 : CEN T H1528 ce e d := (CEN_fr w1459 gce f1533 rfl a1472)
          exact wp_ireturn e93 c93_31 rfl ⟨rfl, w1532, f1536, z1534, rfl, ⟨b1535.1, b1535.2⟩, (h1537)⟩
    · exfalso
      omega
/-! StrikeAwake.weights()J  -/
abbrev uq_97 (r0 : Nat) (cu : Nat) (wa : Nat) (ce : Nat) (e : xD) (d : xD) (n : Int) (T : wq_T) (H : wq_H) : Option Value → wq_T → wq_H → Prop := fun r T' H' => T = T' ∧ WT T H' ∧ wfr [(12, 5), (12, 6), (12, 7), (12, 8), (12, 9), (1, 10), (6, 5), (8, 999), (10, 999), (15, 999), (9, 999), (18, 999), (19, 999), (7, 999), (11, 999), (17, 999), (13, 999)] T H H' ∧ ∃ z : Int, some (vL z) = r ∧ ((-9223372036854775808) ≤ z ∧ z ≤ 9223372036854775807) ∧ ((CEN T H' ce e d))
set_option maxHeartbeats 4000000 in
theorem u_97 {kt : Nat → Option mc_E} {T : wq_T} {H : wq_H} {r0 : Nat} {cu : Nat} {wa : Nat} {ce : Nat} {e : xD} {d : xD} {n : Int} (hW : WT T H) (g0 : T.2.2.2 r0 = some 1) (qcu : H r0 6 = (cu : Int)) (gcu : T.2.2.2 cu = some 27) (qwa : H r0 2 = (wa : Int)) (gwa : T.2.2.2 wa = some 6) (qce : H r0 3 = (ce : Int)) (gce : T.2.2.2 ce = some 12) (p0 : ∀ i, i ≠ 13 → e i = d i) (p1 : XW d) (p2 : e 0 3 = d 0 3) (p3 : e 0 0 = d 0 0) (p4 : H r0 8 = 0 ∨ n = xlots d) (p5 : H r0 8 ≠ 0 ∨ (d 0 3 = 0 ∧ d 0 0 = 0)) (hCU_cu : CU T H cu e d n) (hCEN_ce : CEN T H ce e d) (hHDR_ce : HDR T H ce ) : wpc kt 6 97 [.ref r0] T H (uq_97 r0 cu wa ce e d n T H) := by
  refine wp_enter e97 (Nat.le_of_ble_eq_true rfl) rfl ?_
  have f0 : wfr [(12, 5), (12, 6), (12, 7), (12, 8), (12, 9), (1, 10), (6, 5), (8, 999), (10, 999), (15, 999), (9, 999), (18, 999), (19, 999), (7, 999), (11, 999), (17, 999), (13, 999)] T H H := wfr.rf
  show wp _ _ 97 0 [(0, .ref r0)] [] _ H _
  have u1047 := CU_k hCU_cu
  have b1048 : 0 ≤ H r0 8 ∧ H r0 8 ≤ 1 := hW.box g0 (n := 13) rfl (by decide) rfl
  have _c7 : d 0 0 ≤ 24 := p1.2.1.2.1
  refine wp_of e97 c97_0 (rw_aload_n (pc' := 1) (v := .ref r0) rfl rfl rfl ?_)
  refine wp_of e97 c97_1 (rw_aload_n (pc' := 2) (v := .ref r0) rfl rfl rfl ?_)
  refine wp_of e97 c97_2 (xg_I (pc' := 5) lf_0_58 hW g0 sh_1 (by decide) (by decide) ty_1_8 rfl rfl (fun b1049 b1050 => ?_))
  refine wp_of e97 c97_5 (xc_V (pc' := 8) (r := r0) (as := [vI (H r0 8)]) (st := []) (lm_0_174) rfl rfl (Nat.le_of_ble_eq_true rfl) hW g0 sh_1 (by decide) rfl (by decide) (u_83 (e := e) (d := d) (n := n) hW g0 ⟨b1049, b1050⟩ qcu gcu qwa gwa qce gce (by assumption) (by assumption) (by omega) (by omega) (by omega) hCU_cu hCEN_ce hHDR_ce) (fun R1051 T1052 H1053 p1054 => ?_))
  obtain ⟨e1055, w1057, f1058, z1059, e1056, b1060, p1061⟩ := p1054
  subst e1055
  subst e1056
  rcases p1061 with ⟨a1062, a1063, a1064, a1065, a1066, a1067⟩ | ⟨a1068, a1069, a1070⟩
  · have f1071 := f0.tr f1058 rfl
    show wp _ _ 97 8 [(0, .ref r0)] [vI z1059] _ H1053 _
    refine wp_of e97 c97_8 (rw_istore_n (pc' := 9) (z := z1059) (L' := [(1, vI z1059), (0, .ref r0)]) rfl rfl rfl ?_)
    refine wp_of e97 c97_9 (rw_iload_n (pc' := 10) (z := z1059) rfl rfl ?_)
    refine wp_of e97 c97_10 (rw_if_eq (p1 := 20) (p2 := 13) (by decide) rfl ⟨Int.le_trans (by decide) b1060.1, Int.le_trans b1060.2 (by decide)⟩ (fun c1072 => ?_) (fun c1072 => ?_))
    · refine wp_of e97 c97_20 (rw_aload_n (pc' := 21) (v := .ref r0) rfl rfl rfl ?_)
      refine wp_of e97 c97_21 (rw_iconst (pc' := 22) rfl ?_)
      refine wp_of e97 c97_22 (xp_I (pc' := 25) lf_0_102 w1057 g0 sh_1 (by decide) (by decide) ty_1_10 rfl rfl (by decide) (by decide) ⟨by decide, by decide⟩ rfl (fun H1073 e1074 w1075 => ?_))
      have f1076 := f1071.put' e1074 g0 rfl
      have k1077 : H1073 r0 10 = 0 := wq_u_s e1074
      refine wp_of e97 c97_25 (rw_aload_n (pc' := 26) (v := .ref r0) rfl rfl rfl ?_)
      have k1078 : H1073 r0 3 = H r0 3 := ((wq_u_j e1074 rfl).trans (f1058 r0 3 _ g0 rfl))
      have q1079 : H1073 r0 3 = (ce : Int) := k1078.trans qce
      refine wp_of e97 c97_26 (xg_K (pc' := 29) lf_0_30 w1075 g0 sh_1 (by decide) (by decide) rfl q1079 rfl ?_)
      refine wp_of e97 c97_29 (xg_L (pc' := 32) lf_0_187 w1075 gce sh_12 (by decide) (by decide) ty_12_6 rfl rfl (fun b1080 b1081 => ?_))
      have h1082 : CEN T H1073 ce e d := (CEN_fr w1057 gce ((wfr.rf (l := [(1, 10)])).put' e1074 g0 rfl) rfl a1065)
      exact wp_lreturn e97 c97_32 rfl ⟨rfl, w1075, f1076, H1073 ce 6, rfl, ⟨b1080, b1081⟩, (h1082)⟩
    · exfalso
      omega
  · have f1083 := f0.tr f1058 rfl
    show wp _ _ 97 8 [(0, .ref r0)] [vI z1059] _ H1053 _
    refine wp_of e97 c97_8 (rw_istore_n (pc' := 9) (z := z1059) (L' := [(1, vI z1059), (0, .ref r0)]) rfl rfl rfl ?_)
    refine wp_of e97 c97_9 (rw_iload_n (pc' := 10) (z := z1059) rfl rfl ?_)
    refine wp_of e97 c97_10 (rw_if_eq (p1 := 20) (p2 := 13) (by decide) rfl ⟨Int.le_trans (by decide) b1060.1, Int.le_trans b1060.2 (by decide)⟩ (fun c1084 => ?_) (fun c1084 => ?_))
    · exfalso
      omega
    · refine wp_of e97 c97_13 (rw_aload_n (pc' := 14) (v := .ref r0) rfl rfl rfl ?_)
      refine wp_of e97 c97_14 (rw_iload_n (pc' := 15) (z := z1059) rfl rfl ?_)
      refine wp_of e97 c97_15 (xc_V (pc' := 18) (r := r0) (as := [vI z1059]) (st := []) (lm_0_70) rfl rfl (Nat.le_of_ble_eq_true rfl) w1057 g0 sh_1 (by decide) rfl (by decide) (s_12 w1057 g0 ⟨Int.le_trans (by decide) b1060.1, Int.le_trans b1060.2 (by decide)⟩) (fun R1085 T1086 H1087 p1088 => ?_))
      obtain ⟨e1089, w1091, f1092, z1093, e1090, b1094⟩ := p1088
      subst e1089
      subst e1090
      have f1095 := f1083.tr f1092 rfl
      show wp _ _ 97 18 [(1, vI z1059), (0, .ref r0)] [vI z1093] _ H1087 _
      refine wp_of e97 c97_18 (rw_i2l (pc' := 19) rfl ⟨b1094.1, b1094.2⟩ ?_)
      have h1096 : CEN T H1087 ce e d := (CEN_fr w1057 gce f1092 rfl a1070)
      exact wp_lreturn e97 c97_19 rfl ⟨rfl, w1091, f1095, z1093, rfl, ⟨Int.le_trans (by decide) b1094.1, Int.le_trans b1094.2 (by decide)⟩, (h1096)⟩
/-! StrikeAwake.having(II)I  -/
abbrev uq_98 (r0 : Nat) (a1 : Int) (a2 : Int) (cu : Nat) (wa : Nat) (ce : Nat) (e : xD) (d : xD) (n : Int) (T : wq_T) (H : wq_H) : Option Value → wq_T → wq_H → Prop := fun r T' H' => T = T' ∧ WT T H' ∧ wfr [(12, 5), (12, 6), (12, 7), (12, 8), (12, 9), (1, 10), (6, 5), (8, 999), (10, 999), (15, 999), (9, 999), (18, 999), (19, 999), (7, 999), (11, 999), (17, 999), (13, 999)] T H H' ∧ ∃ z : Int, some (vI z) = r ∧ ((-2147483648) ≤ z ∧ z ≤ 2147483647) ∧ (((z = -1) ∧ ((a1 < 0 ∨ d 0 3 ≤ a1) ∨ a2 < 0 ∨ ((xsp d (a1).toNat).length : Int) ≤ a2 ∨ 20000 < n) ∧ CEN T H' ce e d) ∨ ((((0 ≤ a1 ∧ a1 < d 0 3) ∧ 0 ≤ a2 ∧ a2 < ((xsp d (a1).toNat).length : Int)) ∧ n ≤ 20000) ∧ (z = xhc e d (a1).toNat (a2).toNat (xlots d).toNat) ∧ CEN T H' ce e d))
set_option maxHeartbeats 4000000 in
theorem u_98 {kt : Nat → Option mc_E} {T : wq_T} {H : wq_H} {r0 : Nat} {a1 : Int} {a2 : Int} {cu : Nat} {wa : Nat} {ce : Nat} {e : xD} {d : xD} {n : Int} (hW : WT T H) (g0 : T.2.2.2 r0 = some 1) (i1 : (-2147483648) ≤ a1 ∧ a1 ≤ 2147483647) (i2 : (-2147483648) ≤ a2 ∧ a2 ≤ 2147483647) (qcu : H r0 6 = (cu : Int)) (gcu : T.2.2.2 cu = some 27) (qwa : H r0 2 = (wa : Int)) (gwa : T.2.2.2 wa = some 6) (qce : H r0 3 = (ce : Int)) (gce : T.2.2.2 ce = some 12) (p0 : ∀ i, i ≠ 13 → e i = d i) (p1 : XW d) (p2 : e 0 3 = d 0 3) (p3 : e 0 0 = d 0 0) (p4 : H r0 8 = 0 ∨ n = xlots d) (p5 : H r0 8 ≠ 0 ∨ (d 0 3 = 0 ∧ d 0 0 = 0)) (hCU_cu : CU T H cu e d n) (hCEN_ce : CEN T H ce e d) (hHDR_ce : HDR T H ce ) : wpc kt 6 98 [.ref r0, vI a1, vI a2] T H (uq_98 r0 a1 a2 cu wa ce e d n T H) := by
  refine wp_enter e98 (Nat.le_of_ble_eq_true rfl) rfl ?_
  have f0 : wfr [(12, 5), (12, 6), (12, 7), (12, 8), (12, 9), (1, 10), (6, 5), (8, 999), (10, 999), (15, 999), (9, 999), (18, 999), (19, 999), (7, 999), (11, 999), (17, 999), (13, 999)] T H H := wfr.rf
  show wp _ _ 98 0 [(0, .ref r0), (1, vI a1), (2, vI a2)] [] _ H _
  have u1139 := CU_k hCU_cu
  have b1140 : 0 ≤ H r0 8 ∧ H r0 8 ≤ 1 := hW.box g0 (n := 13) rfl (by decide) rfl
  have _c7 : d 0 0 ≤ 24 := p1.2.1.2.1
  refine wp_of e98 c98_0 (rw_aload_n (pc' := 1) (v := .ref r0) rfl rfl rfl ?_)
  refine wp_of e98 c98_1 (rw_aload_n (pc' := 2) (v := .ref r0) rfl rfl rfl ?_)
  refine wp_of e98 c98_2 (rw_iload_n (pc' := 3) (z := a1) rfl rfl ?_)
  refine wp_of e98 c98_3 (rw_iload_n (pc' := 4) (z := a2) rfl rfl ?_)
  refine wp_of e98 c98_4 (xc_V (pc' := 7) (r := r0) (as := [vI a1, vI a2]) (st := [.ref r0]) (lm_0_118) rfl rfl (Nat.le_of_ble_eq_true rfl) hW g0 sh_1 (by decide) rfl (by decide) (u_57 (e := e) (d := d) (n := n) hW g0 ⟨i1.1, i1.2⟩ ⟨i2.1, i2.2⟩ qcu gcu (by omega) (by omega) hCU_cu) (fun R1141 T1142 H1143 p1144 => ?_))
  obtain ⟨e1145, e1147, z1148, e1146, b1149, p1150⟩ := p1144
  subst e1145
  subst e1146
  subst e1147
  rcases p1150 with ⟨a1151, a1152⟩ | ⟨a1153, a1154⟩
  · show wp _ _ 98 7 [(0, .ref r0), (1, vI a1), (2, vI a2)] [vI z1148, .ref r0] _ H _
    have _xl := @xsp_len d (a1).toNat hCU_cu.2.1.1
    refine wp_of e98 c98_7 (xc_V (pc' := 10) (r := r0) (as := [vI z1148]) (st := []) (lm_0_174) rfl rfl (Nat.le_of_ble_eq_true rfl) hW g0 sh_1 (by decide) rfl (by decide) (u_83 (e := e) (d := d) (n := n) hW g0 ⟨b1149.1, b1149.2⟩ qcu gcu qwa gwa qce gce (by assumption) (by assumption) (by omega) (by omega) (by omega) hCU_cu hCEN_ce hHDR_ce) (fun R1155 T1156 H1157 p1158 => ?_))
    obtain ⟨e1159, w1161, f1162, z1163, e1160, b1164, p1165⟩ := p1158
    subst e1159
    subst e1160
    rcases p1165 with ⟨a1166, a1167, a1168, a1169, a1170, a1171⟩ | ⟨a1172, a1173, a1174⟩
    · have f1175 := f0.tr f1162 rfl
      show wp _ _ 98 10 [(0, .ref r0), (1, vI a1), (2, vI a2)] [vI z1163] _ H1157 _
      refine wp_of e98 c98_10 (rw_istore_n (pc' := 11) (z := z1163) (L' := [(3, vI z1163), (0, .ref r0), (1, vI a1), (2, vI a2)]) rfl rfl rfl ?_)
      refine wp_of e98 c98_11 (rw_iload_n (pc' := 12) (z := z1163) rfl rfl ?_)
      refine wp_of e98 c98_12 (rw_if_eq (p1 := 21) (p2 := 15) (by decide) rfl ⟨Int.le_trans (by decide) b1164.1, Int.le_trans b1164.2 (by decide)⟩ (fun c1176 => ?_) (fun c1176 => ?_))
      · have h1177 : HV1 T H1157 ce (d 0 3) (fun p i => xhc e d p i (xlots d).toNat) := (a1171).1
        refine wp_of e98 c98_21 (rw_aload_n (pc' := 22) (v := .ref r0) rfl rfl rfl ?_)
        refine wp_of e98 c98_22 (rw_aload_n (pc' := 23) (v := .ref r0) rfl rfl rfl ?_)
        have k1178 : H1157 r0 3 = H r0 3 := (f1162 r0 3 _ g0 rfl)
        have q1179 : H1157 r0 3 = (ce : Int) := k1178.trans qce
        refine wp_of e98 c98_23 (xg_K (pc' := 26) lf_0_30 w1161 g0 sh_1 (by decide) (by decide) rfl q1179 rfl ?_)
        refine wp_of e98 c98_26 (xg_R (pc' := 29) lf_0_190 w1161 gce sh_12 (by decide) (by decide) ty_12_1 rfl rfl (fun r1180 q1181 g1182 => ?_))
        refine wp_of e98 c98_29 (rw_iload_n (pc' := 30) (z := a1) rfl rfl ?_)
        refine wp_of e98 c98_30 (xa_R (pc' := 31) (by decide) w1161 g1182 sh_14 (by decide) (ty_14 _) (by omega) (by omega) rfl (fun r1183 q1184 g1185 => ?_))
        refine wp_of e98 c98_31 (rw_iload_n (pc' := 32) (z := a2) rfl rfl ?_)
        have _hl : H1157 r1183 (a2).toNat = xhc e d (a1).toNat (a2).toNat (xlots d).toNat := h1177 _ _ (a1).toNat (a2).toNat q1181 (by omega) (by omega) (by omega) q1184
        refine wp_of e98 c98_32 (xa_I (so := 0) (pc' := 33) w1161 g1185 sh_15 (by decide) (ty_15 _) (by omega) (by omega) rfl (fun b1186 b1187 => ?_))
        refine wp_of e98 c98_33 (xc_V (pc' := 36) (r := r0) (as := [vI (H1157 r1183 (a2.toNat))]) (st := []) (lm_0_99) rfl rfl (Nat.le_of_ble_eq_true rfl) w1161 g0 sh_1 (by decide) rfl (by decide) (u_51  w1161 g0 ⟨b1186, b1187⟩) (fun R1188 T1189 H1190 p1191 => ?_))
        obtain ⟨e1192, w1194, f1195, z1196, e1193, b1197, p1198⟩ := p1191
        subst e1192
        subst e1193
        obtain ⟨a1199, a1200⟩ := p1198
        have f1201 := f1175.tr f1195 rfl
        show wp _ _ 98 36 [(3, vI z1163), (0, .ref r0), (1, vI a1), (2, vI a2)] [vI z1196] _ H1190 _
        have h1202 : CEN T H1190 ce e d := (CEN_fr w1161 gce f1195 rfl a1169)
        exact wp_ireturn e98 c98_36 rfl ⟨rfl, w1194, f1201, z1196, rfl, ⟨b1197.1, b1197.2⟩, (Or.inr ⟨by omega, by omega, h1202⟩)⟩
      · exfalso
        omega
    · have f1203 := f0.tr f1162 rfl
      show wp _ _ 98 10 [(0, .ref r0), (1, vI a1), (2, vI a2)] [vI z1163] _ H1157 _
      refine wp_of e98 c98_10 (rw_istore_n (pc' := 11) (z := z1163) (L' := [(3, vI z1163), (0, .ref r0), (1, vI a1), (2, vI a2)]) rfl rfl rfl ?_)
      refine wp_of e98 c98_11 (rw_iload_n (pc' := 12) (z := z1163) rfl rfl ?_)
      refine wp_of e98 c98_12 (rw_if_eq (p1 := 21) (p2 := 15) (by decide) rfl ⟨Int.le_trans (by decide) b1164.1, Int.le_trans b1164.2 (by decide)⟩ (fun c1204 => ?_) (fun c1204 => ?_))
      · exfalso
        omega
      · refine wp_of e98 c98_15 (rw_aload_n (pc' := 16) (v := .ref r0) rfl rfl rfl ?_)
        refine wp_of e98 c98_16 (rw_iload_n (pc' := 17) (z := z1163) rfl rfl ?_)
        refine wp_of e98 c98_17 (xc_V (pc' := 20) (r := r0) (as := [vI z1163]) (st := []) (lm_0_70) rfl rfl (Nat.le_of_ble_eq_true rfl) w1161 g0 sh_1 (by decide) rfl (by decide) (u_12  w1161 g0 ⟨Int.le_trans (by decide) b1164.1, Int.le_trans b1164.2 (by decide)⟩) (fun R1205 T1206 H1207 p1208 => ?_))
        obtain ⟨e1209, w1211, f1212, z1213, e1210, b1214, p1215⟩ := p1208
        subst e1209
        subst e1210
        obtain ⟨a1216, a1217⟩ := p1215
        have f1218 := f1203.tr f1212 rfl
        show wp _ _ 98 20 [(3, vI z1163), (0, .ref r0), (1, vI a1), (2, vI a2)] [vI z1213] _ H1207 _
        have h1219 : CEN T H1207 ce e d := (CEN_fr w1161 gce f1212 rfl a1174)
        exact wp_ireturn e98 c98_20 rfl ⟨rfl, w1211, f1218, z1213, rfl, ⟨b1214.1, b1214.2⟩, (Or.inl ⟨by omega, by omega, h1219⟩)⟩
  · show wp _ _ 98 7 [(0, .ref r0), (1, vI a1), (2, vI a2)] [vI z1148, .ref r0] _ H _
    have _xl := @xsp_len d (a1).toNat hCU_cu.2.1.1
    refine wp_of e98 c98_7 (xc_V (pc' := 10) (r := r0) (as := [vI z1148]) (st := []) (lm_0_174) rfl rfl (Nat.le_of_ble_eq_true rfl) hW g0 sh_1 (by decide) rfl (by decide) (u_83 (e := e) (d := d) (n := n) hW g0 ⟨b1149.1, b1149.2⟩ qcu gcu qwa gwa qce gce (by assumption) (by assumption) (by omega) (by omega) (by omega) hCU_cu hCEN_ce hHDR_ce) (fun R1220 T1221 H1222 p1223 => ?_))
    obtain ⟨e1224, w1226, f1227, z1228, e1225, b1229, p1230⟩ := p1223
    subst e1224
    subst e1225
    rcases p1230 with ⟨a1231, a1232, a1233, a1234, a1235, a1236⟩ | ⟨a1237, a1238, a1239⟩
    · have f1240 := f0.tr f1227 rfl
      show wp _ _ 98 10 [(0, .ref r0), (1, vI a1), (2, vI a2)] [vI z1228] _ H1222 _
      refine wp_of e98 c98_10 (rw_istore_n (pc' := 11) (z := z1228) (L' := [(3, vI z1228), (0, .ref r0), (1, vI a1), (2, vI a2)]) rfl rfl rfl ?_)
      refine wp_of e98 c98_11 (rw_iload_n (pc' := 12) (z := z1228) rfl rfl ?_)
      refine wp_of e98 c98_12 (rw_if_eq (p1 := 21) (p2 := 15) (by decide) rfl ⟨Int.le_trans (by decide) b1229.1, Int.le_trans b1229.2 (by decide)⟩ (fun c1241 => ?_) (fun c1241 => ?_))
      · have h1242 : HV1 T H1222 ce (d 0 3) (fun p i => xhc e d p i (xlots d).toNat) := (a1236).1
        refine wp_of e98 c98_21 (rw_aload_n (pc' := 22) (v := .ref r0) rfl rfl rfl ?_)
        refine wp_of e98 c98_22 (rw_aload_n (pc' := 23) (v := .ref r0) rfl rfl rfl ?_)
        have k1243 : H1222 r0 3 = H r0 3 := (f1227 r0 3 _ g0 rfl)
        have q1244 : H1222 r0 3 = (ce : Int) := k1243.trans qce
        refine wp_of e98 c98_23 (xg_K (pc' := 26) lf_0_30 w1226 g0 sh_1 (by decide) (by decide) rfl q1244 rfl ?_)
        refine wp_of e98 c98_26 (xg_R (pc' := 29) lf_0_190 w1226 gce sh_12 (by decide) (by decide) ty_12_1 rfl rfl (fun r1245 q1246 g1247 => ?_))
        refine wp_of e98 c98_29 (rw_iload_n (pc' := 30) (z := a1) rfl rfl ?_)
        refine wp_of e98 c98_30 (xa_R (pc' := 31) (by decide) w1226 g1247 sh_14 (by decide) (ty_14 _) (by omega) (by omega) rfl (fun r1248 q1249 g1250 => ?_))
        refine wp_of e98 c98_31 (rw_iload_n (pc' := 32) (z := a2) rfl rfl ?_)
        have _hl : H1222 r1248 (a2).toNat = xhc e d (a1).toNat (a2).toNat (xlots d).toNat := h1242 _ _ (a1).toNat (a2).toNat q1246 (by omega) (by omega) (by omega) q1249
        refine wp_of e98 c98_32 (xa_I (so := 0) (pc' := 33) w1226 g1250 sh_15 (by decide) (ty_15 _) (by omega) (by omega) rfl (fun b1251 b1252 => ?_))
        refine wp_of e98 c98_33 (xc_V (pc' := 36) (r := r0) (as := [vI (H1222 r1248 (a2.toNat))]) (st := []) (lm_0_99) rfl rfl (Nat.le_of_ble_eq_true rfl) w1226 g0 sh_1 (by decide) rfl (by decide) (u_51  w1226 g0 ⟨b1251, b1252⟩) (fun R1253 T1254 H1255 p1256 => ?_))
        obtain ⟨e1257, w1259, f1260, z1261, e1258, b1262, p1263⟩ := p1256
        subst e1257
        subst e1258
        obtain ⟨a1264, a1265⟩ := p1263
        have f1266 := f1240.tr f1260 rfl
        show wp _ _ 98 36 [(3, vI z1228), (0, .ref r0), (1, vI a1), (2, vI a2)] [vI z1261] _ H1255 _
        have h1267 : CEN T H1255 ce e d := (CEN_fr w1226 gce f1260 rfl a1234)
        exact wp_ireturn e98 c98_36 rfl ⟨rfl, w1259, f1266, z1261, rfl, ⟨b1262.1, b1262.2⟩, (Or.inr ⟨by omega, by omega, h1267⟩)⟩
      · exfalso
        omega
    · have f1268 := f0.tr f1227 rfl
      show wp _ _ 98 10 [(0, .ref r0), (1, vI a1), (2, vI a2)] [vI z1228] _ H1222 _
      refine wp_of e98 c98_10 (rw_istore_n (pc' := 11) (z := z1228) (L' := [(3, vI z1228), (0, .ref r0), (1, vI a1), (2, vI a2)]) rfl rfl rfl ?_)
      refine wp_of e98 c98_11 (rw_iload_n (pc' := 12) (z := z1228) rfl rfl ?_)
      refine wp_of e98 c98_12 (rw_if_eq (p1 := 21) (p2 := 15) (by decide) rfl ⟨Int.le_trans (by decide) b1229.1, Int.le_trans b1229.2 (by decide)⟩ (fun c1269 => ?_) (fun c1269 => ?_))
      · exfalso
        omega
      · refine wp_of e98 c98_15 (rw_aload_n (pc' := 16) (v := .ref r0) rfl rfl rfl ?_)
        refine wp_of e98 c98_16 (rw_iload_n (pc' := 17) (z := z1228) rfl rfl ?_)
        refine wp_of e98 c98_17 (xc_V (pc' := 20) (r := r0) (as := [vI z1228]) (st := []) (lm_0_70) rfl rfl (Nat.le_of_ble_eq_true rfl) w1226 g0 sh_1 (by decide) rfl (by decide) (u_12  w1226 g0 ⟨Int.le_trans (by decide) b1229.1, Int.le_trans b1229.2 (by decide)⟩) (fun R1270 T1271 H1272 p1273 => ?_))
        obtain ⟨e1274, w1276, f1277, z1278, e1275, b1279, p1280⟩ := p1273
        subst e1274
        subst e1275
        obtain ⟨a1281, a1282⟩ := p1280
        have f1283 := f1268.tr f1277 rfl
        show wp _ _ 98 20 [(3, vI z1228), (0, .ref r0), (1, vI a1), (2, vI a2)] [vI z1278] _ H1272 _
        have h1284 : CEN T H1272 ce e d := (CEN_fr w1226 gce f1277 rfl a1239)
        exact wp_ireturn e98 c98_20 rfl ⟨rfl, w1276, f1283, z1278, rfl, ⟨b1279.1, b1279.2⟩, (Or.inl ⟨by omega, by omega, h1284⟩)⟩
