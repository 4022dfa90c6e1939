/-! what methods do (own work, written by wip/gen3/sx3.py) -/
/-! StrikeAwake$Parish.takePicture(J)V  -/
abbrev uq_163 (r0 : Nat) (a1 : Int) (d : xD) (nY : Int) (gY : Nat → Int) (cY : Int) (T : wq_T) (H : wq_H) : Option Value → wq_T → wq_H → Prop := fun r T' H' => T = T' ∧ WT T H' ∧ wfr [(27, 17), (35, 16)] T H H' ∧ none = r ∧ ((CY T H' r0 nY (xdg d a1) (wdv (d 0 3).toNat a1)))
set_option maxHeartbeats 4000000 in
theorem u_163 {kt : Nat → Option mc_E} {T : wq_T} {H : wq_H} {r0 : Nat} {a1 : Int} {d : xD} {nY : Int} {gY : Nat → Int} {cY : Int} (hW : WT T H) (g0 : T.2.2.2 r0 = some 27) (i1 : 0 ≤ a1 ∧ a1 ≤ 9223372036854775807) (p0 : H r0 10 = d 0 3) (p1 : wdv (d 0 3).toNat a1 ≤ 20000) (p2 : nY = d 0 3) (hCY_r0 : CY T H r0 nY gY cY) (hDD_r0 : DD T H r0 ) : wpc kt 1 163 [.ref r0, vL a1] T H (uq_163 r0 a1 d nY gY cY T H) := by
  refine wp_enter e163 (Nat.le_of_ble_eq_true rfl) rfl ?_
  have f0 : wfr [(27, 17), (35, 16)] T H H := wfr.rf
  show wp _ _ 163 0 [(0, .ref r0), (1, vL a1)] [] _ H _
  have b1065 : 0 ≤ H r0 10 ∧ H r0 10 ≤ 6 := hW.box g0 (n := 19) rfl (by decide) rfl
  refine wp_of e163 c163_0 (rw_lload_n (pc' := 1) (z := a1) rfl rfl ?_)
  refine wp_of e163 c163_1 (rw_lstore_n (pc' := 2) (z := a1) (L' := [(3, vL a1), (0, .ref r0), (1, vL a1)]) rfl rfl rfl ?_)
  refine wp_of e163 c163_2 (rw_aload_n (pc' := 3) (v := .ref r0) rfl rfl rfl ?_)
  refine wp_of e163 c163_3 (xg_I (pc' := 6) lf_7_50 hW g0 sh_27 (by decide) (by decide) ty_27_10 rfl rfl (fun b1066 b1067 => ?_))
  refine wp_of e163 c163_6 (rw_iconst (pc' := 7) rfl ?_)
  refine wp_of e163 c163_7 (rw_isub (pc' := 8) rfl ?_)
  refine wp_of e163 c163_8 (rw_istore (pc' := 10) (z := (H r0 10) - 1) (L' := [(5, vI ((H r0 10) - 1)), (3, vL a1), (0, .ref r0), (1, vL a1)]) rfl rfl rfl ?_)
  have lp1104 : ∀ (n1105 : Nat) (v1107 : Int) (v1108 : Int) (H1109 : wq_H), WT T H1109 → wfr [(35, 16)] T H H1109 → ((-1) ≤ v1107 ∧ v1107 ≤ 5) → (0 ≤ v1108 ∧ v1108 ≤ 9223372036854775807) → CGi T H1109 r0 (v1107 + 1) (d 0 3) (xdg d a1) → (v1107 ≤ d 0 3 - 1) → (v1108 = wdv (d 0 3 - 1 - v1107).toNat a1) → (v1107 - (-1)).toNat = n1105 → wp kt 0 163 10 [(5, vI v1107), (3, vL v1108), (0, .ref r0)] [] T H1109 (uq_163 r0 a1 d nY gY cY T H) := by
    intro n1105
    induction n1105 using Nat.strongRecOn with
    | _ n1105 ih1106 =>
      intro v1107 v1108 H1109 w1110 f1111 b1112 b1113 h1115 x1116 x1117 m1114
      have f1118 := f0.tr f1111 rfl
      have k1119 : H1109 r0 10 = H r0 10 := (f1111 r0 10 _ g0 rfl)
      have _x : v1107 = -1 → v1108 = wdv (d 0 3).toNat a1 := fun q => wdv_z ‹v1108 = wdv (d 0 3 - 1 - v1107).toNat a1› q
      refine wp_of e163 c163_10 (rw_iload (pc' := 12) (z := v1107) rfl rfl ?_)
      refine wp_of e163 c163_12 (rw_if_lt (p1 := 43) (p2 := 15) (by decide) rfl ⟨Int.le_trans (by decide) b1112.1, Int.le_trans b1112.2 (by decide)⟩ (fun c1120 => ?_) (fun c1120 => ?_))
      · have h1121 : CG T H1109 r0 (d 0 3) (xdg d a1) := CGi_all h1115 (by omega)
        refine wp_of e163 c163_43 (rw_aload_n (pc' := 44) (v := .ref r0) rfl rfl rfl ?_)
        refine wp_of e163 c163_44 (rw_lload_n (pc' := 45) (z := v1108) rfl rfl ?_)
        refine wp_of e163 c163_45 (rw_l2i (pc' := 46) rfl ?_)
        obtain ⟨v1122, e1123⟩ : ∃ x : Int, x = wq_w v1108 := ⟨_, rfl⟩
        rw [← e1123]
        have b1124 : -2147483648 ≤ v1122 ∧ v1122 ≤ 2147483647 := by
          rw [e1123]
          exact wI_w _
        have b1125 : (-2147483648 ≤ v1108 ∧ v1108 ≤ 2147483647) → v1122 = v1108 := by
          rw [e1123]
          exact fun h => wq_w_id h
        refine wp_of e163 c163_46 (xp_I (pc' := 49) lf_7_68 w1110 g0 sh_27 (by decide) (by decide) ty_27_17 rfl rfl (by omega) (b1124.2) ⟨b1124.1, b1124.2⟩ rfl (fun H1126 e1127 w1128 => ?_))
        have f1129 := f1118.put' e1127 g0 rfl
        have k1130 : H1126 r0 17 = v1122 := wq_u_s e1127
        have h1131 : CG T H1126 r0 (d 0 3) (xdg d a1) := (CG_fr w1110 g0 ((wfr.rf (l := [(27, 17)])).put' e1127 g0 rfl) rfl h1121)
        exact wp_return e163 c163_49 rfl ⟨rfl, w1128, f1129, rfl, (⟨by rw [p2]; exact h1131, by omega⟩)⟩
      · refine wp_of e163 c163_15 (rw_aload_n (pc' := 16) (v := .ref r0) rfl rfl rfl ?_)
        refine wp_of e163 c163_16 (xg_R (pc' := 19) lf_7_11 w1110 g0 sh_27 (by decide) (by decide) ty_27_0 rfl rfl (fun r1132 q1133 g1134 => ?_))
        refine wp_of e163 c163_19 (rw_iload (pc' := 21) (z := v1107) rfl rfl ?_)
        refine wp_of e163 c163_21 (xa_R (pc' := 22) (by decide) w1110 g1134 sh_28 (by decide) (ty_28 _) (by omega) (Int.lt_of_le_of_lt b1112.2 (by decide)) rfl (fun r1135 q1136 g1137 => ?_))
        refine wp_of e163 c163_22 (rw_lload_n (pc' := 23) (z := v1108) rfl rfl ?_)
        refine wp_of e163 c163_23 (rw_ldc2 (pc' := 26) (z := 40) rfl rfl rfl ?_)
        refine wp_of e163 c163_26 (rw_lrem (pc' := 27) rfl ⟨by omega, by omega⟩ (by omega) ?_)
        obtain ⟨v1138, e1139⟩ : ∃ x : Int, x = wl_rem v1108 40 := ⟨_, rfl⟩
        rw [← e1139]
        have b1140 : v1138 = v1108 % 40 := by
          rw [e1139]
          exact wl_rem_e ⟨by omega, by omega⟩ ⟨by omega, by omega⟩
        refine wp_of e163 c163_27 (rw_l2i (pc' := 28) rfl ?_)
        obtain ⟨v1141, e1142⟩ : ∃ x : Int, x = wq_w v1138 := ⟨_, rfl⟩
        rw [← e1142]
        have b1143 : v1141 = v1138 := by
          rw [e1142]
          exact wq_w_id ⟨by omega, by omega⟩
        have h1144 : DD T H1109 r0  := (DD_fr hW g0 f1111 rfl hDD_r0)
        refine wp_of e163 c163_28 (xp_I (pc' := 31) lf_7_127 w1110 g1137 sh_35 (by decide) (by decide) ty_35_16 rfl rfl (by omega) (by omega) ⟨by omega, by omega⟩ rfl (fun H1145 e1146 w1147 => ?_))
        have f1148 := f1118.put' e1146 g1137 rfl
        have f1149 := f1111.put' e1146 g1137 rfl
        have k1150 : H1145 r1135 16 = v1141 := wq_u_s e1146
        have h1151 : CGi T H1145 r0 v1107 (d 0 3) (xdg d a1) := CGi_put h1144 q1133 g1134 g0 q1136 g1137 (k := (v1107).toNat) (by omega) (by omega) e1146 (by omega) (xdg_e (by omega) (by omega) (by assumption) (by omega)) h1115
        refine wp_of e163 c163_31 (rw_lload_n (pc' := 32) (z := v1108) rfl rfl ?_)
        refine wp_of e163 c163_32 (rw_ldc2 (pc' := 35) (z := 40) rfl rfl rfl ?_)
        refine wp_of e163 c163_35 (rw_ldiv (pc' := 36) rfl ⟨by omega, by omega⟩ (by omega) ?_)
        obtain ⟨v1152, e1153⟩ : ∃ x : Int, x = wl_div v1108 40 := ⟨_, rfl⟩
        rw [← e1153]
        have b1154 : v1152 = v1108 / 40 := by
          rw [e1153]
          exact wl_div_e ⟨by omega, by omega⟩ ⟨by omega, by omega⟩
        refine wp_of e163 c163_36 (rw_lstore_n (pc' := 37) (z := v1152) (L' := [(3, vL v1152), (5, vI v1107), (0, .ref r0)]) rfl rfl rfl ?_)
        have h1155 : CGi T H1145 r0 ((v1107 + (-1)) + 1) (d 0 3) (xdg d a1) := by rw [show (v1107 + (-1)) + 1 = v1107 by omega]; exact h1151
        refine wp_of e163 c163_37 (rw_iinc (pc' := 40) (z := v1107) (L' := [(5, vI (v1107 + (-1))), (3, vL v1152), (0, .ref r0)]) rfl rfl rfl rfl ?_)
        refine wp_of e163 c163_40 (rw_goto (p1 := 10) (by decide) ?_)
        have k1156 : H1145 r0 10 = H1109 r0 10 := (wq_u_t e1146 g1137 g0 rfl 10)
        exact wp_lc (ks := [5, 3, 0]) (wl_c rfl (wl_c rfl (wl_c rfl wl_n))) rfl (by decide) (ih1106 _ (by omega) (v1107 + (-1)) v1152 H1145 w1147 f1149 ⟨by omega, by omega⟩ ⟨by omega, by omega⟩ h1155 (by omega) (wdv_n (by omega) (by assumption) (by omega)) rfl)
  have h1157 : CGi T H r0 (((H r0 10) - 1) + 1) (d 0 3) (xdg d a1) := CGi_0 (by omega)
  exact wp_lc (ks := [5, 3, 0, 1]) (wl_c rfl (wl_c rfl (wl_c rfl wl_n))) rfl (by decide) (lp1104 _ ((H r0 10) - 1) a1 H hW wfr.rf ⟨by omega, by omega⟩ ⟨i1.1, i1.2⟩ h1157 (by omega) (wdv_1 (by omega)) rfl)
/-! StrikeAwake.restore(J)Z  -/
abbrev uq_161 (r0 : Nat) (a1 : Int) (cu : Nat) (e : xD) (d : xD) (n : Int) (nY : Int) (gY : Nat → Int) (cY : Int) (T : wq_T) (H : wq_H) : Option Value → wq_T → wq_H → Prop := fun r T' H' => T = T' ∧ WT T H' ∧ wfr [(27, 17), (35, 16), (1, 10)] T H H' ∧ ∃ z : Int, some (vI z) = r ∧ (0 ≤ z ∧ z ≤ 1) ∧ (((z = 1) ∧ (H r0 8 = 1 ∧ 0 ≤ a1 ∧ wdv (d 0 3).toNat a1 ≤ 20000) ∧ (xpd d a1 0 (d 0 3).toNat = 0) ∧ (SG d (xdg d a1)) ∧ CY T H' cu nY (xdg d a1) (wdv (d 0 3).toNat a1)) ∨ ((z = 0) ∧ (H r0 8 = 0 ∨ a1 < 0 ∨ 0 < xpd d a1 0 (d 0 3).toNat ∨ 20000 < wdv (d 0 3).toNat a1) ∧ CY T H' cu nY gY cY))
set_option maxHeartbeats 4000000 in
theorem u_161 {kt : Nat → Option mc_E} {T : wq_T} {H : wq_H} {r0 : Nat} {a1 : Int} {cu : Nat} {e : xD} {d : xD} {n : Int} {nY : Int} {gY : Nat → Int} {cY : Int} (hW : WT T H) (g0 : T.2.2.2 r0 = some 1) (i1 : (-9223372036854775808) ≤ a1 ∧ a1 ≤ 9223372036854775807) (qcu : H r0 6 = (cu : Int)) (gcu : T.2.2.2 cu = some 27) (p0 : e 0 3 = d 0 3) (p1 : e 0 0 = d 0 0) (p2 : nY = d 0 3) (hCU_cu : CU T H cu e d n) (hCY_cu : CY T H cu nY gY cY) (hDD_cu : DD T H cu ) : wpc kt 2 161 [.ref r0, vL a1] T H (uq_161 r0 a1 cu e d n nY gY cY T H) := by
  refine wp_enter e161 (Nat.le_of_ble_eq_true rfl) rfl ?_
  have f0 : wfr [(27, 17), (35, 16), (1, 10)] T H H := wfr.rf
  show wp _ _ 161 0 [(0, .ref r0), (1, vL a1)] [] _ H _
  have u1074 := CU_k hCU_cu
  have b1075 : 0 ≤ H r0 8 ∧ H r0 8 ≤ 1 := hW.box g0 (n := 13) rfl (by decide) rfl
  refine wp_of e161 c161_0 (rw_aload_n (pc' := 1) (v := .ref r0) rfl rfl rfl ?_)
  refine wp_of e161 c161_1 (xg_I (pc' := 4) lf_0_58 hW g0 sh_1 (by decide) (by decide) ty_1_8 rfl rfl (fun b1076 b1077 => ?_))
  refine wp_of e161 c161_4 (rw_if_ne (p1 := 13) (p2 := 7) (by decide) rfl ⟨Int.le_trans (by decide) b1076, Int.le_trans b1077 (by decide)⟩ (fun c1078 => ?_) (fun c1078 => ?_))
  · refine wp_of e161 c161_13 (rw_aload_n (pc' := 14) (v := .ref r0) rfl rfl rfl ?_)
    refine wp_of e161 c161_14 (xg_K (pc' := 17) lf_0_51 hW g0 sh_1 (by decide) (by decide) rfl qcu rfl ?_)
    refine wp_of e161 c161_17 (rw_lload_n (pc' := 18) (z := a1) rfl rfl ?_)
    refine wp_of e161 c161_18 (xc_V (pc' := 21) (r := cu) (as := [vL a1]) (st := []) (lm_0_309) rfl rfl (Nat.le_of_ble_eq_true rfl) hW gcu sh_27 (by decide) rfl (by decide) (u_162 (e := e) (d := d) (n := n) hW gcu ⟨i1.1, i1.2⟩ (by omega) hCU_cu) (fun R1079 T1080 H1081 p1082 => ?_))
    obtain ⟨e1083, e1085, z1086, e1084, b1087, p1088⟩ := p1082
    subst e1083
    subst e1084
    subst e1085
    rcases p1088 with ⟨a1089, a1090, a1091⟩ | ⟨a1092, a1093⟩
    · show wp _ _ 161 21 [(0, .ref r0), (1, vL a1)] [vI z1086] _ H _
      refine wp_of e161 c161_21 (rw_if_ne (p1 := 30) (p2 := 24) (by decide) rfl ⟨Int.le_trans (by decide) b1087.1, Int.le_trans b1087.2 (by decide)⟩ (fun c1094 => ?_) (fun c1094 => ?_))
      · have _w : wdv (H cu 10).toNat a1 = wdv (d 0 3).toNat a1 := by rw [show H cu 10 = d 0 3 by omega]
        refine wp_of e161 c161_30 (rw_aload_n (pc' := 31) (v := .ref r0) rfl rfl rfl ?_)
        refine wp_of e161 c161_31 (xg_K (pc' := 34) lf_0_51 hW g0 sh_1 (by decide) (by decide) rfl qcu rfl ?_)
        refine wp_of e161 c161_34 (rw_lload_n (pc' := 35) (z := a1) rfl rfl ?_)
        refine wp_of e161 c161_35 (xc_V (pc' := 38) (r := cu) (as := [vL a1]) (st := []) (lm_0_313) rfl rfl (Nat.le_of_ble_eq_true rfl) hW gcu sh_27 (by decide) rfl (by decide) (u_163 (d := d) (nY := nY) (gY := gY) (cY := cY) hW gcu ⟨by omega, i1.2⟩ (by omega) (by omega) (by omega) hCY_cu hDD_cu) (fun R1095 T1096 H1097 p1098 => ?_))
        obtain ⟨e1099, w1101, f1102, e1100, p1103⟩ := p1098
        subst e1099
        subst e1100
        have f1105 := f0.tr f1102 rfl
        show wp _ _ 161 38 [(0, .ref r0), (1, vL a1)] [] _ H1097 _
        refine wp_of e161 c161_38 (rw_aload_n (pc' := 39) (v := .ref r0) rfl rfl rfl ?_)
        refine wp_of e161 c161_39 (xc_V (pc' := 42) (r := r0) (as := []) (st := []) (lm_0_151) rfl rfl (Nat.le_of_ble_eq_true rfl) w1101 g0 sh_1 (by decide) rfl (by decide) (u_64  w1101 g0) (fun R1106 T1107 H1108 p1109 => ?_))
        obtain ⟨e1110, w1112, f1113, z1114, e1111, b1115, p1116⟩ := p1109
        subst e1110
        subst e1111
        obtain ⟨a1117, a1118⟩ := p1116
        have f1119 := f1105.tr f1113 rfl
        show wp _ _ 161 42 [(0, .ref r0), (1, vL a1)] [vI z1114] _ H1108 _
        have h1120 : CY T H1108 cu nY (xdg d a1) (wdv (d 0 3).toNat a1) := (CY_fr w1101 gcu f1113 rfl p1103)
        exact wp_zreturn e161 c161_42 rfl (by omega) ⟨rfl, w1112, f1119, z1114, rfl, ⟨b1115.1, b1115.2⟩, (Or.inl ⟨by omega, by omega, by omega, SG_im (by omega), h1120⟩)⟩
      · exfalso
        omega
    · show wp _ _ 161 21 [(0, .ref r0), (1, vL a1)] [vI z1086] _ H _
      refine wp_of e161 c161_21 (rw_if_ne (p1 := 30) (p2 := 24) (by decide) rfl ⟨Int.le_trans (by decide) b1087.1, Int.le_trans b1087.2 (by decide)⟩ (fun c1121 => ?_) (fun c1121 => ?_))
      · exfalso
        omega
      · refine wp_of e161 c161_24 (rw_aload_n (pc' := 25) (v := .ref r0) rfl rfl rfl ?_)
        refine wp_of e161 c161_25 (rw_iconst (pc' := 26) rfl ?_)
        refine wp_of e161 c161_26 (xc_V (pc' := 29) (r := r0) (as := [vI 2]) (st := []) (lm_0_145) rfl rfl (Nat.le_of_ble_eq_true rfl) hW g0 sh_1 (by decide) rfl (by decide) (u_63  hW g0 ⟨by decide, by decide⟩) (fun R1122 T1123 H1124 p1125 => ?_))
        obtain ⟨e1126, w1128, f1129, z1130, e1127, b1131, p1132⟩ := p1125
        subst e1126
        subst e1127
        obtain ⟨a1133, a1134⟩ := p1132
        have f1135 := f0.tr f1129 rfl
        show wp _ _ 161 29 [(0, .ref r0), (1, vL a1)] [vI z1130] _ H1124 _
        have h1136 : CY T H1124 cu nY gY cY := (CY_fr hW gcu f1129 rfl hCY_cu)
        exact wp_zreturn e161 c161_29 rfl (by omega) ⟨rfl, w1128, f1135, z1130, rfl, ⟨b1131.1, b1131.2⟩, (Or.inr ⟨by omega, by omega, h1136⟩)⟩
  · refine wp_of e161 c161_7 (rw_aload_n (pc' := 8) (v := .ref r0) rfl rfl rfl ?_)
    refine wp_of e161 c161_8 (rw_iconst (pc' := 9) rfl ?_)
    refine wp_of e161 c161_9 (xc_V (pc' := 12) (r := r0) (as := [vI 1]) (st := []) (lm_0_145) rfl rfl (Nat.le_of_ble_eq_true rfl) hW g0 sh_1 (by decide) rfl (by decide) (u_63  hW g0 ⟨by decide, by decide⟩) (fun R1137 T1138 H1139 p1140 => ?_))
    obtain ⟨e1141, w1143, f1144, z1145, e1142, b1146, p1147⟩ := p1140
    subst e1141
    subst e1142
    obtain ⟨a1148, a1149⟩ := p1147
    have f1150 := f0.tr f1144 rfl
    show wp _ _ 161 12 [(0, .ref r0), (1, vL a1)] [vI z1145] _ H1139 _
    have h1151 : CY T H1139 cu nY gY cY := (CY_fr hW gcu f1144 rfl hCY_cu)
    exact wp_zreturn e161 c161_12 rfl (by omega) ⟨rfl, w1143, f1150, z1145, rfl, ⟨b1146.1, b1146.2⟩, (Or.inr ⟨by omega, by omega, h1151⟩)⟩
/-! StrikeAwake$Walk.countBirths(LStrikeAwake$Parish;)V  -/
abbrev uq_69 (r0 : Nat) (r1 : Nat) (e : xD) (d : xD) (n : Int) (g : Nat → Int) (T : wq_T) (H : wq_H) : Option Value → wq_T → wq_H → Prop := fun r T' H' => T = T' ∧ WT T H' ∧ wfr [(6, 5), (8, 999), (10, 999), (9, 999)] T H H' ∧ none = r ∧ (((H' r0 5 = d 0 3) ∧ WP1 T H' r0 (0 + 1) (xer d g) ∧ WP2 T H' r0 (0 + 1) (xla d g) ∧ WP3 T H' r0 (0 + 1) (xfl d g) ∧ WP4 T H' r0 (0 + 1) (xqu d g)))
set_option maxHeartbeats 4000000 in
theorem u_69 {kt : Nat → Option mc_E} {T : wq_T} {H : wq_H} {r0 : Nat} {r1 : Nat} {e : xD} {d : xD} {n : Int} {g : Nat → Int} (hW : WT T H) (g0 : T.2.2.2 r0 = some 6) (g1 : T.2.2.2 r1 = some 27) (p0 : ∀ i, i ≠ 13 → e i = d i) (p1 : XW d) (p2 : e 0 3 = d 0 3) (hCU_r1 : CU T H r1 e d n) : wpc kt 2 69 [.ref r0, .ref r1] T H (uq_69 r0 r1 e d n g T H) := by
  refine wp_enter e69 (Nat.le_of_ble_eq_true rfl) rfl ?_
  have f0 : wfr [(6, 5), (8, 999), (10, 999), (9, 999)] T H H := wfr.rf
  show wp _ _ 69 0 [(0, .ref r0), (1, .ref r1)] [] _ H _
  have u1401 := CU_k hCU_r1
  have h1402 : DA3 T H r1 (d 0 5) (d 12) := (by have h := hCU_r1.1.2.2.2.2.1; rw [p0 12 (by decide), p0 0 (by decide)] at h; exact h)
  have _k := CU_k hCU_r1
  have _xc := p1.2.1
  unfold XC at _xc
  have _d0 := p0 0 (by decide)
  have _e3 : e 0 3 = d 0 3 := by rw [_d0]
  have _e4 : e 0 4 = d 0 4 := by rw [_d0]
  have _e5 : e 0 5 = d 0 5 := by rw [_d0]
  have _b12 := p1.2.2.2.2.1
  refine wp_of e69 c69_0 (rw_aload_n (pc' := 1) (v := .ref r0) rfl rfl rfl ?_)
  refine wp_of e69 c69_1 (rw_aload_n (pc' := 2) (v := .ref r1) rfl rfl rfl ?_)
  refine wp_of e69 c69_2 (xg_I (pc' := 5) lf_3_36 hW g1 sh_27 (by decide) (by decide) ty_27_10 rfl rfl (fun b1403 b1404 => ?_))
  refine wp_of e69 c69_5 (xp_I (pc' := 8) lf_3_51 hW g0 sh_6 (by decide) (by decide) ty_6_5 rfl rfl (b1403) (b1404) ⟨Int.le_trans (by decide) b1403, Int.le_trans b1404 (by decide)⟩ rfl (fun H1405 e1406 w1407 => ?_))
  have f1408 := f0.put' e1406 g0 rfl
  have k1409 : H1405 r0 5 = H r1 10 := wq_u_s e1406
  refine wp_of e69 c69_8 (rw_aload_n (pc' := 9) (v := .ref r0) rfl rfl rfl ?_)
  refine wp_of e69 c69_9 (xg_R (pc' := 12) lf_3_15 w1407 g0 sh_6 (by decide) (by decide) ty_6_1 rfl rfl (fun r1410 q1411 g1412 => ?_))
  refine wp_of e69 c69_12 (rw_iconst (pc' := 13) rfl ?_)
  refine wp_of e69 c69_13 (rw_lconst (pc' := 14) (z := 0) rfl rfl ?_)
  refine wp_of e69 c69_14 (xs_L (pc' := 15) w1407 g1412 (by decide) sh_8 (by decide) (ty_8 _) (by decide) (by decide) ⟨by decide, by decide⟩ (by decide) (by decide) rfl (fun H1413 e1414 w1415 => ?_))
  have f1416 := f1408.put' e1414 g1412 rfl
  have h1417 : WP1 T H1413 r0 (0 + 1) (fun _ => 0) := DA_first q1411 g0 g1412 (by decide) e1414 rfl
  refine wp_of e69 c69_15 (rw_aload_n (pc' := 16) (v := .ref r0) rfl rfl rfl ?_)
  refine wp_of e69 c69_16 (xg_R (pc' := 19) lf_3_19 w1415 g0 sh_6 (by decide) (by decide) ty_6_2 rfl rfl (fun r1418 q1419 g1420 => ?_))
  refine wp_of e69 c69_19 (rw_iconst (pc' := 20) rfl ?_)
  refine wp_of e69 c69_20 (rw_lconst (pc' := 21) (z := 0) rfl rfl ?_)
  refine wp_of e69 c69_21 (xs_L (pc' := 22) w1415 g1420 (by decide) sh_9 (by decide) (ty_9 _) (by decide) (by decide) ⟨by decide, by decide⟩ (by decide) (by decide) rfl (fun H1421 e1422 w1423 => ?_))
  have f1424 := f1416.put' e1422 g1420 rfl
  have h1425 : WP2 T H1421 r0 (0 + 1) (fun _ => 0) := DA_first q1419 g0 g1420 (by decide) e1422 rfl
  refine wp_of e69 c69_22 (rw_aload_n (pc' := 23) (v := .ref r0) rfl rfl rfl ?_)
  refine wp_of e69 c69_23 (xg_R (pc' := 26) lf_3_22 w1423 g0 sh_6 (by decide) (by decide) ty_6_3 rfl rfl (fun r1426 q1427 g1428 => ?_))
  refine wp_of e69 c69_26 (rw_iconst (pc' := 27) rfl ?_)
  refine wp_of e69 c69_27 (rw_iconst (pc' := 28) rfl ?_)
  refine wp_of e69 c69_28 (xs_I (pc' := 29) w1423 g1428 (by decide) sh_10 (by decide) (ty_10 _) (by decide) (by decide) ⟨by decide, by decide⟩ (by decide) (by decide) rfl (fun H1429 e1430 w1431 => ?_))
  have f1432 := f1424.put' e1430 g1428 rfl
  have h1433 : WP3 T H1429 r0 (0 + 1) (fun _ => 0) := DA_first q1427 g0 g1428 (by decide) e1430 rfl
  refine wp_of e69 c69_29 (rw_iconst (pc' := 30) rfl ?_)
  refine wp_of e69 c69_30 (rw_istore_n (pc' := 31) (z := 0) (L' := [(2, vI 0), (0, .ref r0), (1, .ref r1)]) rfl rfl rfl ?_)
  have k1735 : H1429 r0 5 = H1405 r0 5 := ((wq_u_t e1430 g1428 g0 rfl 5).trans ((wq_u_t e1422 g1420 g0 rfl 5).trans (wq_u_t e1414 g1412 g0 rfl 5)))
  have lp1730 : ∀ (n1731 : Nat) (v1733 : Int) (H1734 : wq_H), WT T H1734 → wfr [(8, 999), (10, 999), (9, 999)] T H1429 H1734 → (0 ≤ v1733 ∧ v1733 ≤ 3) → WP1 T H1734 r0 (0 + 1) (fun _ => xbe d (v1733).toNat) → WP2 T H1734 r0 (0 + 1) (fun _ => xbl d (v1733).toNat) → WP3 T H1734 r0 (0 + 1) (fun _ => xbf (d 12) (v1733).toNat) → (v1733 ≤ d 0 5) → (H1734 r0 5 = d 0 3) → (3 - v1733).toNat = n1731 → wp kt 1 69 31 [(2, vI v1733), (0, .ref r0), (1, .ref r1)] [] T H1734 (uq_69 r0 r1 e d n g T H) := by
    intro n1731
    induction n1731 using Nat.strongRecOn with
    | _ n1731 ih1732 =>
      intro v1733 H1734 w1736 f1737 b1738 h1740 h1741 h1742 x1743 x1744 m1739
      have f1745 := f1432.tr f1737 rfl
      have k1746 : H1734 r0 5 = H1429 r0 5 := (f1737 r0 5 _ g0 rfl)
      refine wp_of e69 c69_31 (rw_iload_n (pc' := 32) (z := v1733) rfl rfl ?_)
      refine wp_of e69 c69_32 (rw_aload_n (pc' := 33) (v := .ref r1) rfl rfl rfl ?_)
      have k1747 : H1734 r1 12 = H r1 12 := ((f1737 r1 12 _ g1 rfl).trans ((wq_u_t e1430 g1428 g1 rfl 12).trans ((wq_u_t e1422 g1420 g1 rfl 12).trans ((wq_u_t e1414 g1412 g1 rfl 12).trans (wq_u_t e1406 g0 g1 rfl 12)))))
      refine wp_of e69 c69_33 (xg_I (pc' := 36) lf_3_55 w1736 g1 sh_27 (by decide) (by decide) ty_27_12 rfl rfl (fun b1748 b1749 => ?_))
      refine wp_of e69 c69_36 (rw_icmp_ge (p1 := 96) (p2 := 39) (by decide) rfl ⟨Int.le_trans (by decide) b1738.1, Int.le_trans b1738.2 (by decide)⟩ ⟨Int.le_trans (by decide) b1748, Int.le_trans b1749 (by decide)⟩ (fun c1750 => ?_) (fun c1750 => ?_))
      · exact wp_return e69 c69_96 rfl ⟨rfl, w1736, f1745, rfl, ⟨by omega, DA_1 h1740 (by show xbe d (v1733).toNat = xbe d (d 0 5).toNat; rw [show v1733 = d 0 5 by omega]), DA_1 h1741 (by show xbl d (v1733).toNat = xbl d (d 0 5).toNat; rw [show v1733 = d 0 5 by omega]), DA_1 h1742 (by show xbf (d 12) (v1733).toNat = xbf (d 12) (d 0 5).toNat; rw [show v1733 = d 0 5 by omega]), WP4_0 w1736 g0⟩⟩
      · refine wp_of e69 c69_39 (rw_aload_n (pc' := 40) (v := .ref r1) rfl rfl rfl ?_)
        refine wp_of e69 c69_40 (xg_R (pc' := 43) lf_3_58 w1736 g1 sh_27 (by decide) (by decide) ty_27_3 rfl rfl (fun r1751 q1752 g1753 => ?_))
        refine wp_of e69 c69_43 (rw_iload_n (pc' := 44) (z := v1733) rfl rfl ?_)
        refine wp_of e69 c69_44 (xa_I (so := 0) (pc' := 45) w1736 g1753 sh_31 (by decide) (ty_31 _) (b1738.1) (by omega) rfl (fun b1754 b1755 => ?_))
        have h1756 : DA3 T H1734 r1 (d 0 5) (d 12) := (DA3_fr w1431 g1 f1737 rfl (DA3_fr w1423 g1 ((wfr.rf (l := [(10, 999)])).put' e1430 g1428 rfl) rfl (DA3_fr w1415 g1 ((wfr.rf (l := [(9, 999)])).put' e1422 g1420 rfl) rfl (DA3_fr w1407 g1 ((wfr.rf (l := [(8, 999)])).put' e1414 g1412 rfl) rfl (DA3_fr hW g1 ((wfr.rf (l := [(6, 5)])).put' e1406 g0 rfl) rfl h1402)))))
        have := DA_at h1756 q1752 (k := (v1733.toNat)) (by omega)
        have _bb := _b12 (v1733.toNat) (by omega)
        unfold xrB at _bb
        refine wp_of e69 c69_45 (rw_bipush (pc' := 47) (z := 24) rfl (by decide) ?_)
        refine wp_of e69 c69_47 (xc_S (pc' := 50) (as := [vI (H1734 r1751 (v1733.toNat)), vI 24]) (st := []) (lm_3_61) rfl rfl (Nat.le_of_ble_eq_true rfl) rfl (by decide) (u_31 (lo := ((d 12 (v1733).toNat))) (hi := 24) w1736 ⟨by omega, by omega⟩ ⟨by decide, by decide⟩ (by omega) (by omega) (by omega)) (fun R1757 T1758 H1759 p1760 => ?_))
        obtain ⟨e1761, e1763, z1764, e1762, b1765, p1766⟩ := p1760
        subst e1761
        subst e1762
        subst e1763
        show wp _ _ 69 50 [(2, vI v1733), (0, .ref r0), (1, .ref r1)] [vI z1764] _ H1734 _
        have _w : z1764 = xhs (d 12 (v1733).toNat) 24 := by assumption
        have _wb := @xhs_b (d 12 (v1733).toNat) 24
        refine wp_of e69 c69_50 (rw_istore_n (pc' := 51) (z := z1764) (L' := [(3, vI z1764), (2, vI v1733), (0, .ref r0), (1, .ref r1)]) rfl rfl rfl ?_)
        refine wp_of e69 c69_51 (rw_aload_n (pc' := 52) (v := .ref r0) rfl rfl rfl ?_)
        have k1768 : H1734 r0 1 = H1405 r0 1 := ((f1737 r0 1 _ g0 rfl).trans ((wq_u_t e1430 g1428 g0 rfl 1).trans ((wq_u_t e1422 g1420 g0 rfl 1).trans (wq_u_t e1414 g1412 g0 rfl 1))))
        have q1769 : H1734 r0 1 = (r1410 : Int) := k1768.trans q1411
        refine wp_of e69 c69_52 (xg_K (pc' := 55) lf_3_15 w1736 g0 sh_6 (by decide) (by decide) rfl q1769 rfl ?_)
        refine wp_of e69 c69_55 (rw_iconst (pc' := 56) rfl ?_)
        refine wp_of e69 c69_56 (rw_dup2 (pc' := 57) rfl rfl rfl ?_)
        refine wp_of e69 c69_57 (xa_L (pc' := 58) w1736 g1412 sh_8 (by decide) (ty_8 _) (by decide) (by decide) rfl (fun b1770 b1771 => ?_))
        have := DA_at h1740 q1769 (k := ((0 : Int).toNat)) (by omega)
        refine wp_of e69 c69_58 (rw_iload_n (pc' := 59) (z := z1764) rfl rfl ?_)
        refine wp_of e69 c69_59 (xc_S (pc' := 62) (as := [vI z1764]) (st := [vL (H1734 r1410 ((0 : Int).toNat)), vI 0, .ref r1410]) (lm_3_65) rfl rfl (Nat.le_of_ble_eq_true rfl) rfl (by decide) (u_49  w1736 ⟨Int.le_trans (by decide) b1765.1, Int.le_trans b1765.2 (by decide)⟩) (fun R1772 T1773 H1774 p1775 => ?_))
        obtain ⟨e1776, e1778, z1779, e1777, b1780, p1781⟩ := p1775
        subst e1776
        subst e1777
        subst e1778
        show wp _ _ 69 62 [(3, vI z1764), (2, vI v1733), (0, .ref r0), (1, .ref r1)] [vL z1779, vL (H1734 r1410 ((0 : Int).toNat)), vI 0, .ref r1410] _ H1734 _
        have _t1 : z1779 = xtal (xhs (d 12 (v1733).toNat) 24) 12 := by
          rw [← _w]
          assumption
        refine wp_of e69 c69_62 (rw_laddw (pc' := 63) rfl ?_)
        obtain ⟨v1783, e1784⟩ : ∃ x : Int, x = wl_w ((H1734 r1410 ((0 : Int).toNat)) + z1779) := ⟨_, rfl⟩
        rw [← e1784]
        have b1785 : -9223372036854775808 ≤ v1783 ∧ v1783 ≤ 9223372036854775807 := by
          rw [e1784]
          exact wL_w _
        have b1786 : (-9223372036854775808 ≤ (H1734 r1410 ((0 : Int).toNat)) + z1779 ∧ (H1734 r1410 ((0 : Int).toNat)) + z1779 ≤ 9223372036854775807) → v1783 = (H1734 r1410 ((0 : Int).toNat)) + z1779 := fun h => by rw [e1784]; exact wl_w_id h
        have _v1 : v1783 = xbe d (v1733 + 1).toNat := by
          rw [show (v1733 + 1).toNat = (v1733).toNat + 1 by omega, xbe_s]
          have := @xbe_b d (v1733).toNat (by omega)
          have := xtal_b _wb
          omega
        refine wp_of e69 c69_63 (xs_L (pc' := 64) w1736 g1412 (by decide) sh_8 (by decide) (ty_8 _) (b1785.1) (b1785.2) ⟨b1785.1, b1785.2⟩ (by decide) (by decide) rfl (fun H1787 e1788 w1789 => ?_))
        have f1790 := f1745.put' e1788 g1412 rfl
        have f1791 := f1737.put' e1788 g1412 rfl
        have h1792 : WP1 T H1787 r0 (0 + 1) (fun _ => xbe d (v1733 + 1).toNat) := DA_first q1769 g0 g1412 (by decide) e1788 _v1
        refine wp_of e69 c69_64 (rw_aload_n (pc' := 65) (v := .ref r0) rfl rfl rfl ?_)
        have k1793 : H1787 r0 2 = H1413 r0 2 := ((wq_u_t e1788 g1412 g0 rfl 2).trans ((f1737 r0 2 _ g0 rfl).trans ((wq_u_t e1430 g1428 g0 rfl 2).trans (wq_u_t e1422 g1420 g0 rfl 2))))
        have q1794 : H1787 r0 2 = (r1418 : Int) := k1793.trans q1419
        refine wp_of e69 c69_65 (xg_K (pc' := 68) lf_3_19 w1789 g0 sh_6 (by decide) (by decide) rfl q1794 rfl ?_)
        refine wp_of e69 c69_68 (rw_iconst (pc' := 69) rfl ?_)
        refine wp_of e69 c69_69 (rw_dup2 (pc' := 70) rfl rfl rfl ?_)
        refine wp_of e69 c69_70 (xa_L (pc' := 71) w1789 g1420 sh_9 (by decide) (ty_9 _) (by decide) (by decide) rfl (fun b1795 b1796 => ?_))
        have h1797 : WP2 T H1787 r0 (0 + 1) (fun _ => xbl d (v1733).toNat) := (WP2_fr w1736 g0 ((wfr.rf (l := [(8, 999)])).put' e1788 g1412 rfl) rfl h1741)
        have := DA_at h1797 q1794 (k := ((0 : Int).toNat)) (by omega)
        refine wp_of e69 c69_71 (rw_iload_n (pc' := 72) (z := z1764) rfl rfl ?_)
        refine wp_of e69 c69_72 (rw_bipush (pc' := 74) (z := 12) rfl (by decide) ?_)
        refine wp_of e69 c69_74 (rw_ishr (pc' := 75) rfl ?_)
        obtain ⟨v1798, e1799⟩ : ∃ x : Int, x = wq_shr z1764 12 := ⟨_, rfl⟩
        rw [← e1799]
        have b1800 : -2147483648 ≤ v1798 ∧ v1798 ≤ 2147483647 := by
          rw [e1799]
          exact wI_shr _ _
        have _sh : v1798 = wq_shr (xhs (d 12 (v1733).toNat) 24) 12 := by
          rw [← _w]
          exact e1799
        refine wp_of e69 c69_75 (xc_S (pc' := 78) (as := [vI v1798]) (st := [vL (H1787 r1418 ((0 : Int).toNat)), vI 0, .ref r1418]) (lm_3_65) rfl rfl (Nat.le_of_ble_eq_true rfl) rfl (by decide) (u_49  w1789 ⟨b1800.1, b1800.2⟩) (fun R1801 T1802 H1803 p1804 => ?_))
        obtain ⟨e1805, e1807, z1808, e1806, b1809, p1810⟩ := p1804
        subst e1805
        subst e1806
        subst e1807
        show wp _ _ 69 78 [(3, vI z1764), (2, vI v1733), (0, .ref r0), (1, .ref r1)] [vL z1808, vL (H1787 r1418 ((0 : Int).toNat)), vI 0, .ref r1418] _ H1787 _
        have _t2 : z1808 = xtal (wq_shr (xhs (d 12 (v1733).toNat) 24) 12) 12 := by
          rw [← _sh]
          assumption
        refine wp_of e69 c69_78 (rw_laddw (pc' := 79) rfl ?_)
        obtain ⟨v1812, e1813⟩ : ∃ x : Int, x = wl_w ((H1787 r1418 ((0 : Int).toNat)) + z1808) := ⟨_, rfl⟩
        rw [← e1813]
        have b1814 : -9223372036854775808 ≤ v1812 ∧ v1812 ≤ 9223372036854775807 := by
          rw [e1813]
          exact wL_w _
        have b1815 : (-9223372036854775808 ≤ (H1787 r1418 ((0 : Int).toNat)) + z1808 ∧ (H1787 r1418 ((0 : Int).toNat)) + z1808 ≤ 9223372036854775807) → v1812 = (H1787 r1418 ((0 : Int).toNat)) + z1808 := fun h => by rw [e1813]; exact wl_w_id h
        have _v2 : v1812 = xbl d (v1733 + 1).toNat := by
          rw [show (v1733 + 1).toNat = (v1733).toNat + 1 by omega, xbl_s]
          have := @xbl_b d (v1733).toNat (by omega)
          have := xtal_b (shr12_b _wb)
          omega
        refine wp_of e69 c69_79 (xs_L (pc' := 80) w1789 g1420 (by decide) sh_9 (by decide) (ty_9 _) (b1814.1) (b1814.2) ⟨b1814.1, b1814.2⟩ (by decide) (by decide) rfl (fun H1816 e1817 w1818 => ?_))
        have f1819 := f1790.put' e1817 g1420 rfl
        have f1820 := f1791.put' e1817 g1420 rfl
        have h1821 : WP2 T H1816 r0 (0 + 1) (fun _ => xbl d (v1733 + 1).toNat) := DA_first q1794 g0 g1420 (by decide) e1817 _v2
        refine wp_of e69 c69_80 (rw_aload_n (pc' := 81) (v := .ref r0) rfl rfl rfl ?_)
        have k1822 : H1816 r0 3 = H1421 r0 3 := ((wq_u_t e1817 g1420 g0 rfl 3).trans ((wq_u_t e1788 g1412 g0 rfl 3).trans ((f1737 r0 3 _ g0 rfl).trans (wq_u_t e1430 g1428 g0 rfl 3))))
        have q1823 : H1816 r0 3 = (r1426 : Int) := k1822.trans q1427
        refine wp_of e69 c69_81 (xg_K (pc' := 84) lf_3_22 w1818 g0 sh_6 (by decide) (by decide) rfl q1823 rfl ?_)
        refine wp_of e69 c69_84 (rw_iconst (pc' := 85) rfl ?_)
        refine wp_of e69 c69_85 (rw_dup2 (pc' := 86) rfl rfl rfl ?_)
        refine wp_of e69 c69_86 (xa_I (so := 0) (pc' := 87) w1818 g1428 sh_10 (by decide) (ty_10 _) (by decide) (by decide) rfl (fun b1824 b1825 => ?_))
        have h1826 : WP3 T H1816 r0 (0 + 1) (fun _ => xbf (d 12) (v1733).toNat) := (WP3_fr w1789 g0 ((wfr.rf (l := [(9, 999)])).put' e1817 g1420 rfl) rfl (WP3_fr w1736 g0 ((wfr.rf (l := [(8, 999)])).put' e1788 g1412 rfl) rfl h1742))
        have := DA_at h1826 q1823 (k := ((0 : Int).toNat)) (by omega)
        have _fb := @xbf_b (d 12) (v1733).toNat
        refine wp_of e69 c69_87 (rw_iload_n (pc' := 88) (z := z1764) rfl rfl ?_)
        refine wp_of e69 c69_88 (rw_ior (pc' := 89) rfl ?_)
        obtain ⟨v1827, e1828⟩ : ∃ x : Int, x = wq_or (H1816 r1426 ((0 : Int).toNat)) z1764 := ⟨_, rfl⟩
        rw [← e1828]
        have b1829 : -2147483648 ≤ v1827 ∧ v1827 ≤ 2147483647 := by
          rw [e1828]
          exact wI_or _ _
        have _v3 : v1827 = xbf (d 12) (v1733 + 1).toNat := by
          rw [show (v1733 + 1).toNat = (v1733).toNat + 1 by omega]
          exact xbf_s e1828 (by omega) _w
        refine wp_of e69 c69_89 (xs_I (pc' := 90) w1818 g1428 (by decide) sh_10 (by decide) (ty_10 _) (b1829.1) (b1829.2) ⟨b1829.1, b1829.2⟩ (by decide) (by decide) rfl (fun H1830 e1831 w1832 => ?_))
        have f1833 := f1819.put' e1831 g1428 rfl
        have f1834 := f1820.put' e1831 g1428 rfl
        have h1835 : WP3 T H1830 r0 (0 + 1) (fun _ => xbf (d 12) (v1733 + 1).toNat) := DA_first q1823 g0 g1428 (by decide) e1831 _v3
        refine wp_of e69 c69_90 (rw_iinc (pc' := 93) (z := v1733) (L' := [(2, vI (v1733 + 1)), (3, vI z1764), (0, .ref r0), (1, .ref r1)]) rfl rfl rfl rfl ?_)
        refine wp_of e69 c69_93 (rw_goto (p1 := 31) (by decide) ?_)
        have k1836 : H1830 r0 5 = H1734 r0 5 := ((wq_u_t e1831 g1428 g0 rfl 5).trans ((wq_u_t e1817 g1420 g0 rfl 5).trans (wq_u_t e1788 g1412 g0 rfl 5)))
        have h1837 : WP1 T H1830 r0 (0 + 1) (fun _ => xbe d (v1733 + 1).toNat) := (WP1_fr w1818 g0 ((wfr.rf (l := [(10, 999)])).put' e1831 g1428 rfl) rfl (WP1_fr w1789 g0 ((wfr.rf (l := [(9, 999)])).put' e1817 g1420 rfl) rfl h1792))
        have h1838 : WP2 T H1830 r0 (0 + 1) (fun _ => xbl d (v1733 + 1).toNat) := (WP2_fr w1818 g0 ((wfr.rf (l := [(10, 999)])).put' e1831 g1428 rfl) rfl h1821)
        exact wp_lc (ks := [2, 3, 0, 1]) (wl_c rfl (wl_c rfl (wl_c rfl wl_n))) rfl (by decide) (ih1732 _ (by omega) (v1733 + 1) H1830 w1832 f1834 ⟨by omega, by omega⟩ h1837 h1838 h1835 (by omega) (by omega) rfl)
  have h1839 : WP1 T H1429 r0 (0 + 1) (fun _ => 0) := (WP1_fr w1423 g0 ((wfr.rf (l := [(10, 999)])).put' e1430 g1428 rfl) rfl (WP1_fr w1415 g0 ((wfr.rf (l := [(9, 999)])).put' e1422 g1420 rfl) rfl h1417))
  have h1840 : WP1 T H1429 r0 (0 + 1) (fun _ => xbe d (0 : Int).toNat) := DA_cg h1839 rfl (by funext k; exact xbe_0)
  have h1841 : WP2 T H1429 r0 (0 + 1) (fun _ => 0) := (WP2_fr w1423 g0 ((wfr.rf (l := [(10, 999)])).put' e1430 g1428 rfl) rfl h1425)
  have h1842 : WP2 T H1429 r0 (0 + 1) (fun _ => xbl d (0 : Int).toNat) := DA_cg h1841 rfl (by funext k; exact xbl_0)
  have h1843 : WP3 T H1429 r0 (0 + 1) (fun _ => xbf (d 12) (0 : Int).toNat) := h1433
  exact wp_lc (ks := [2, 0, 1]) (wl_c rfl (wl_c rfl (wl_c rfl wl_n))) rfl (by decide) (lp1730 _ 0 H1429 w1431 wfr.rf ⟨by decide, by decide⟩ h1840 h1842 h1843 (by omega) (by omega) rfl)
/-! StrikeAwake$Walk.quarrelsOf(LStrikeAwake$Parish;I)I  -/
abbrev uq_71 (r0 : Nat) (r1 : Nat) (a2 : Int) (e : xD) (d : xD) (n : Int) (g : Nat → Int) (T : wq_T) (H : wq_H) : Option Value → wq_T → wq_H → Prop := fun r T' H' => T = T' ∧ H = H' ∧ ∃ z : Int, some (vI z) = r ∧ (0 ≤ z ∧ z ≤ 16777215) ∧ (((z = xqo d g (a2).toNat (a2).toNat)))
set_option maxHeartbeats 4000000 in
theorem u_71 {kt : Nat → Option mc_E} {T : wq_T} {H : wq_H} {r0 : Nat} {r1 : Nat} {a2 : Int} {e : xD} {d : xD} {n : Int} {g : Nat → Int} (hW : WT T H) (g0 : T.2.2.2 r0 = some 6) (g1 : T.2.2.2 r1 = some 27) (i2 : 0 ≤ a2 ∧ a2 ≤ 5) (p0 : ∀ i, i ≠ 13 → e i = d i) (p1 : XW d) (p2 : e 0 3 = d 0 3) (p3 : SL d g) (p4 : a2 < d 0 3) (hCU_r1 : CU T H r1 e d n) (hWP0_r0 : WP0 T H r0 (d 0 3) g) : wpc kt 1 71 [.ref r0, .ref r1, vI a2] T H (uq_71 r0 r1 a2 e d n g T H) := by
  refine wp_enter e71 (Nat.le_of_ble_eq_true rfl) rfl ?_
  show wp _ _ 71 0 [(0, .ref r0), (1, .ref r1), (2, vI a2)] [] _ H _
  have u1191 := CU_k hCU_r1
  have _k := CU_k hCU_r1
  have _xc := p1.2.1
  unfold XC at _xc
  have _d0 := p0 0 (by decide)
  have _e3 : e 0 3 = d 0 3 := by rw [_d0]
  have _e4 : e 0 4 = d 0 4 := by rw [_d0]
  have _e5 : e 0 5 = d 0 5 := by rw [_d0]
  have _ap0 := True.intro
  refine wp_of e71 c71_0 (rw_aload_n (pc' := 1) (v := .ref r1) rfl rfl rfl ?_)
  refine wp_of e71 c71_1 (xg_R (pc' := 4) lf_3_42 hW g1 sh_27 (by decide) (by decide) ty_27_0 rfl rfl (fun r1192 q1193 g1194 => ?_))
  refine wp_of e71 c71_4 (rw_iload_n (pc' := 5) (z := a2) rfl rfl ?_)
  refine wp_of e71 c71_5 (xa_R (pc' := 6) (by decide) hW g1194 sh_28 (by decide) (ty_28 _) (i2.1) (Int.lt_of_le_of_lt i2.2 (by decide)) rfl (fun r1195 q1196 g1197 => ?_))
  have _z := CS_at (hCU_r1).2.1 q1193 q1196 (k := (a2).toNat) (by omega) (by omega)
  have _l := @xsp_len d (a2).toNat (hCU_r1).2.1.1
  have h1198 : PS T H r1195 d (a2).toNat (xsp d (a2).toNat) := _z.1
  have _n := h1198.1
  have _f := DQ_at (hCU_r1).1.2.1 q1193 q1196 (k := (a2).toNat) (by omega)
  have _ap : ∀ j : Nat, j < 6 → wq_and (wq_shr (H r1195 14) j) 1 = xagf d (((a2).toNat : Nat) : Int) j (d 0 4).toNat := fun j hj => by
    rw [← _e4, ← xagf_cg p0]
    exact _f.2.2.2.2.2.2.2.2.2.2 j hj
  have _a0 := _f.2.2.2.2.2.2.2.2.1
  have _a1 := _f.2.2.2.2.2.2.2.2.2.1
  refine wp_of e71 c71_6 (xg_I (pc' := 9) lf_3_82 hW g1197 sh_35 (by decide) (by decide) ty_35_14 rfl rfl (fun b1199 b1200 => ?_))
  refine wp_of e71 c71_9 (rw_istore_n (pc' := 10) (z := H r1195 14) (L' := [(3, vI (H r1195 14)), (0, .ref r0), (1, .ref r1), (2, vI a2)]) rfl rfl rfl ?_)
  refine wp_of e71 c71_10 (rw_aload_n (pc' := 11) (v := .ref r1) rfl rfl rfl ?_)
  refine wp_of e71 c71_11 (xg_K (pc' := 14) lf_3_42 hW g1 sh_27 (by decide) (by decide) rfl q1193 rfl ?_)
  refine wp_of e71 c71_14 (rw_iload_n (pc' := 15) (z := a2) rfl rfl ?_)
  refine wp_of e71 c71_15 (xa_K (pc' := 16) (by decide) hW g1194 sh_28 (by decide) (i2.1) (Int.lt_of_le_of_lt i2.2 (by decide)) q1196 rfl ?_)
  refine wp_of e71 c71_16 (xg_R (pc' := 19) lf_3_85 hW g1197 sh_35 (by decide) (by decide) ty_35_2 rfl rfl (fun r1201 q1202 g1203 => ?_))
  refine wp_of e71 c71_19 (rw_aload_n (pc' := 20) (v := .ref r0) rfl rfl rfl ?_)
  refine wp_of e71 c71_20 (xg_R (pc' := 23) lf_3_9 hW g0 sh_6 (by decide) (by decide) ty_6_0 rfl rfl (fun r1204 q1205 g1206 => ?_))
  refine wp_of e71 c71_23 (rw_iload_n (pc' := 24) (z := a2) rfl rfl ?_)
  refine wp_of e71 c71_24 (xa_I (so := 0) (pc' := 25) hW g1206 sh_7 (by decide) (ty_7 _) (i2.1) (Int.lt_of_le_of_lt i2.2 (by decide)) rfl (fun b1207 b1208 => ?_))
  have := DA_at hWP0_r0 q1205 (k := (a2.toNat)) (by omega)
  have _s := p3 (a2.toNat) (by omega)
  have _y := DA_at (h1198).2.2.2.1 q1202 (k := ((H r1204 (a2.toNat))).toNat) (by omega)
  have _x : xr3 d (a2).toNat (xsp d (a2).toNat) ((H r1204 (a2.toNat))).toNat = xsb d g (a2).toNat := by
    unfold xr3 xsb xpt
    rw [show g (a2).toNat = (H r1204 (a2.toNat)) by omega]
  refine wp_of e71 c71_25 (xa_I (so := 0) (pc' := 26) hW g1203 sh_38 (by decide) (ty_38 _) (b1207) (Int.lt_of_le_of_lt b1208 (by decide)) rfl (fun b1209 b1210 => ?_))
  have _xb := @xsb_b d g (a2).toNat
  refine wp_of e71 c71_26 (rw_istore (pc' := 28) (z := H r1201 ((H r1204 (a2.toNat)).toNat)) (L' := [(4, vI (H r1201 ((H r1204 (a2.toNat)).toNat))), (3, vI (H r1195 14)), (0, .ref r0), (1, .ref r1), (2, vI a2)]) rfl rfl rfl ?_)
  refine wp_of e71 c71_28 (rw_iconst (pc' := 29) rfl ?_)
  refine wp_of e71 c71_29 (rw_istore (pc' := 31) (z := 0) (L' := [(5, vI 0), (4, vI (H r1201 ((H r1204 (a2.toNat)).toNat))), (3, vI (H r1195 14)), (0, .ref r0), (1, .ref r1), (2, vI a2)]) rfl rfl rfl ?_)
  refine wp_of e71 c71_31 (rw_iconst (pc' := 32) rfl ?_)
  refine wp_of e71 c71_32 (rw_istore (pc' := 34) (z := 0) (L' := [(6, vI 0), (5, vI 0), (4, vI (H r1201 ((H r1204 (a2.toNat)).toNat))), (3, vI (H r1195 14)), (0, .ref r0), (1, .ref r1), (2, vI a2)]) rfl rfl rfl ?_)
  have lp1361 : ∀ (n1362 : Nat) (v1364 : Int) (v1365 : Int), (0 ≤ v1364 ∧ v1364 ≤ 5) → (0 ≤ v1365 ∧ v1365 ≤ 16777215) → (v1364 ≤ a2) → (v1365 = xqo d g (a2).toNat (v1364).toNat) → (5 - v1364).toNat = n1362 → wp kt 0 71 34 [(6, vI v1364), (5, vI v1365), (4, vI (H r1201 ((H r1204 (a2.toNat)).toNat))), (3, vI (H r1195 14)), (0, .ref r0), (1, .ref r1), (2, vI a2)] [] T H (uq_71 r0 r1 a2 e d n g T H) := by
    intro n1362
    induction n1362 using Nat.strongRecOn with
    | _ n1362 ih1363 =>
      intro v1364 v1365 b1368 b1369 x1370 x1372 m1371
      refine wp_of e71 c71_34 (rw_iload (pc' := 36) (z := v1364) rfl rfl ?_)
      refine wp_of e71 c71_36 (rw_iload_n (pc' := 37) (z := a2) rfl rfl ?_)
      refine wp_of e71 c71_37 (rw_icmp_ge (p1 := 85) (p2 := 40) (by decide) rfl ⟨Int.le_trans (by decide) b1368.1, Int.le_trans b1368.2 (by decide)⟩ ⟨Int.le_trans (by decide) i2.1, Int.le_trans i2.2 (by decide)⟩ (fun c1373 => ?_) (fun c1373 => ?_))
      · have _z : v1365 = xqo d g (a2).toNat (a2).toNat := by
          by_cases c0 : (H r1195 14) = 0
          · have h0 : ∀ j : Nat, j < 6 → xagf d (((a2).toNat : Nat) : Int) j (d 0 4).toNat = 0 := fun j hj => by
              rw [← _ap j hj, show H r1195 14 = 0 by omega]
              exact shr0 hj
            rw [xqo_z (a2).toNat (fun j hj => h0 j (by omega)), ‹v1365 = xqo d g (a2).toNat (v1364).toNat›]
            exact xqo_z (v1364).toNat (fun j hj => h0 j (by omega))
          · exact (‹v1365 = xqo d g (a2).toNat (v1364).toNat›).trans (by rw [show (v1364).toNat = (a2).toNat by omega])
        refine wp_of e71 c71_85 (rw_iload (pc' := 87) (z := v1365) rfl rfl ?_)
        exact wp_ireturn e71 c71_87 rfl ⟨rfl, rfl, v1365, rfl, ⟨b1369.1, b1369.2⟩, (_z)⟩
      · refine wp_of e71 c71_40 (rw_iload_n (pc' := 41) (z := H r1195 14) rfl rfl ?_)
        refine wp_of e71 c71_41 (rw_if_eq (p1 := 85) (p2 := 44) (by decide) rfl ⟨b1199, b1200⟩ (fun c1374 => ?_) (fun c1374 => ?_))
        · have _z : v1365 = xqo d g (a2).toNat (a2).toNat := by
            by_cases c0 : (H r1195 14) = 0
            · have h0 : ∀ j : Nat, j < 6 → xagf d (((a2).toNat : Nat) : Int) j (d 0 4).toNat = 0 := fun j hj => by
                rw [← _ap j hj, show H r1195 14 = 0 by omega]
                exact shr0 hj
              rw [xqo_z (a2).toNat (fun j hj => h0 j (by omega)), ‹v1365 = xqo d g (a2).toNat (v1364).toNat›]
              exact xqo_z (v1364).toNat (fun j hj => h0 j (by omega))
            · exact (‹v1365 = xqo d g (a2).toNat (v1364).toNat›).trans (by rw [show (v1364).toNat = (a2).toNat by omega])
          refine wp_of e71 c71_85 (rw_iload (pc' := 87) (z := v1365) rfl rfl ?_)
          exact wp_ireturn e71 c71_87 rfl ⟨rfl, rfl, v1365, rfl, ⟨b1369.1, b1369.2⟩, (_z)⟩
        · refine wp_of e71 c71_44 (rw_iload_n (pc' := 45) (z := H r1195 14) rfl rfl ?_)
          refine wp_of e71 c71_45 (rw_iload (pc' := 47) (z := v1364) rfl rfl ?_)
          refine wp_of e71 c71_47 (rw_ishr (pc' := 48) rfl ?_)
          obtain ⟨v1375, e1376⟩ : ∃ x : Int, x = wq_shr (H r1195 14) v1364 := ⟨_, rfl⟩
          rw [← e1376]
          have b1377 : -2147483648 ≤ v1375 ∧ v1375 ≤ 2147483647 := by
            rw [e1376]
            exact wI_shr _ _
          refine wp_of e71 c71_48 (rw_iconst (pc' := 49) rfl ?_)
          refine wp_of e71 c71_49 (rw_iand (pc' := 50) rfl ?_)
          obtain ⟨v1378, e1379⟩ : ∃ x : Int, x = wq_and v1375 1 := ⟨_, rfl⟩
          rw [← e1379]
          have b1380 : 0 ≤ v1378 ∧ v1378 ≤ 1 := by
            rw [e1379]
            exact wq_and_b _ (by omega) (by omega)
          have _x0 : v1378 = xagf d (((a2).toNat : Nat) : Int) (((v1364).toNat : Nat) : Int) (d 0 4).toNat := by
            rw [e1379, e1376, ← _ap (v1364).toNat (by omega), Int.toNat_of_nonneg (by omega : 0 ≤ v1364)]
          refine wp_of e71 c71_50 (rw_if_eq (p1 := 79) (p2 := 53) (by decide) rfl ⟨Int.le_trans (by decide) b1380.1, Int.le_trans b1380.2 (by decide)⟩ (fun c1381 => ?_) (fun c1381 => ?_))
          · have _q : v1365 = xqo d g (a2).toNat (v1364 + 1).toNat := by
              rw [show (v1364 + 1).toNat = (v1364).toNat + 1 by omega]
              exact xqo_n (by assumption) (by omega)
            refine wp_of e71 c71_79 (rw_iinc (pc' := 82) (z := v1364) (L' := [(6, vI (v1364 + 1)), (5, vI v1365), (4, vI (H r1201 ((H r1204 (a2.toNat)).toNat))), (3, vI (H r1195 14)), (0, .ref r0), (1, .ref r1), (2, vI a2)]) rfl rfl rfl rfl ?_)
            refine wp_of e71 c71_82 (rw_goto (p1 := 34) (by decide) ?_)
            exact wp_lc (ks := [6, 5, 4, 3, 0, 1, 2]) (wl_c rfl (wl_c rfl (wl_c rfl (wl_c rfl (wl_c rfl (wl_c rfl (wl_c rfl wl_n))))))) rfl (by decide) (ih1363 _ (by omega) (v1364 + 1) v1365 ⟨by omega, by omega⟩ ⟨b1369.1, b1369.2⟩ (by omega) (_q) rfl)
          · refine wp_of e71 c71_53 (rw_iload (pc' := 55) (z := v1365) rfl rfl ?_)
            refine wp_of e71 c71_55 (rw_iload (pc' := 57) (z := H r1201 ((H r1204 (a2.toNat)).toNat)) rfl rfl ?_)
            refine wp_of e71 c71_57 (rw_aload_n (pc' := 58) (v := .ref r1) rfl rfl rfl ?_)
            refine wp_of e71 c71_58 (xg_K (pc' := 61) lf_3_42 hW g1 sh_27 (by decide) (by decide) rfl q1193 rfl ?_)
            refine wp_of e71 c71_61 (rw_iload (pc' := 63) (z := v1364) rfl rfl ?_)
            refine wp_of e71 c71_63 (xa_R (pc' := 64) (by decide) hW g1194 sh_28 (by decide) (ty_28 _) (b1368.1) (Int.lt_of_le_of_lt b1368.2 (by decide)) rfl (fun r1382 q1383 g1384 => ?_))
            have _z := CS_at (hCU_r1).2.1 q1193 q1383 (k := (v1364).toNat) (by omega) (by omega)
            have _l := @xsp_len d (v1364).toNat (hCU_r1).2.1.1
            have h1385 : PS T H r1382 d (v1364).toNat (xsp d (v1364).toNat) := _z.1
            have _n := h1385.1
            refine wp_of e71 c71_64 (xg_R (pc' := 67) lf_3_85 hW g1384 sh_35 (by decide) (by decide) ty_35_2 rfl rfl (fun r1386 q1387 g1388 => ?_))
            refine wp_of e71 c71_67 (rw_aload_n (pc' := 68) (v := .ref r0) rfl rfl rfl ?_)
            refine wp_of e71 c71_68 (xg_K (pc' := 71) lf_3_9 hW g0 sh_6 (by decide) (by decide) rfl q1205 rfl ?_)
            refine wp_of e71 c71_71 (rw_iload (pc' := 73) (z := v1364) rfl rfl ?_)
            refine wp_of e71 c71_73 (xa_I (so := 0) (pc' := 74) hW g1206 sh_7 (by decide) (ty_7 _) (b1368.1) (Int.lt_of_le_of_lt b1368.2 (by decide)) rfl (fun b1389 b1390 => ?_))
            have := DA_at hWP0_r0 q1205 (k := (v1364.toNat)) (by omega)
            have _s := p3 (v1364.toNat) (by omega)
            have _y := DA_at (h1385).2.2.2.1 q1387 (k := ((H r1204 (v1364.toNat))).toNat) (by omega)
            have _x : xr3 d (v1364).toNat (xsp d (v1364).toNat) ((H r1204 (v1364.toNat))).toNat = xsb d g (v1364).toNat := by
              unfold xr3 xsb xpt
              rw [show g (v1364).toNat = (H r1204 (v1364.toNat)) by omega]
            refine wp_of e71 c71_74 (xa_I (so := 0) (pc' := 75) hW g1388 sh_38 (by decide) (ty_38 _) (b1389) (Int.lt_of_le_of_lt b1390 (by decide)) rfl (fun b1391 b1392 => ?_))
            have _xc2 := @xsb_b d g (v1364).toNat
            refine wp_of e71 c71_75 (rw_iand (pc' := 76) rfl ?_)
            obtain ⟨v1393, e1394⟩ : ∃ x : Int, x = wq_and (H r1201 ((H r1204 (a2.toNat)).toNat)) (H r1386 ((H r1204 (v1364.toNat)).toNat)) := ⟨_, rfl⟩
            rw [← e1394]
            have b1395 : -2147483648 ≤ v1393 ∧ v1393 ≤ 2147483647 := by
              rw [e1394]
              exact wI_and _ _
            refine wp_of e71 c71_76 (rw_ior (pc' := 77) rfl ?_)
            obtain ⟨v1396, e1397⟩ : ∃ x : Int, x = wq_or v1365 v1393 := ⟨_, rfl⟩
            rw [← e1397]
            have b1398 : -2147483648 ≤ v1396 ∧ v1396 ≤ 2147483647 := by
              rw [e1397]
              exact wI_or _ _
            refine wp_of e71 c71_77 (rw_istore (pc' := 79) (z := v1396) (L' := [(5, vI v1396), (6, vI v1364), (4, vI (H r1201 ((H r1204 (a2.toNat)).toNat))), (3, vI (H r1195 14)), (0, .ref r0), (1, .ref r1), (2, vI a2)]) rfl rfl rfl ?_)
            have _q : v1396 = xqo d g (a2).toNat (v1364 + 1).toNat := by
              rw [show (v1364 + 1).toNat = (v1364).toNat + 1 by omega]
              exact xqo_y (by assumption) (by omega) e1397 (xand_e e1394 (by omega) (by omega))
            have _qb2 := xqo_b (d := d) (g := g) (i := (a2).toNat) (v1364 + 1).toNat
            refine wp_of e71 c71_79 (rw_iinc (pc' := 82) (z := v1364) (L' := [(6, vI (v1364 + 1)), (5, vI v1396), (4, vI (H r1201 ((H r1204 (a2.toNat)).toNat))), (3, vI (H r1195 14)), (0, .ref r0), (1, .ref r1), (2, vI a2)]) rfl rfl rfl rfl ?_)
            refine wp_of e71 c71_82 (rw_goto (p1 := 34) (by decide) ?_)
            exact wp_lc (ks := [6, 5, 4, 3, 0, 1, 2]) (wl_c rfl (wl_c rfl (wl_c rfl (wl_c rfl (wl_c rfl (wl_c rfl (wl_c rfl wl_n))))))) rfl (by decide) (ih1363 _ (by omega) (v1364 + 1) v1396 ⟨by omega, by omega⟩ ⟨by omega, by omega⟩ (by omega) (_q) rfl)
  exact wp_lc (ks := [6, 5, 4, 3, 0, 1, 2]) (wl_c rfl (wl_c rfl (wl_c rfl (wl_c rfl (wl_c rfl (wl_c rfl (wl_c rfl wl_n))))))) rfl (by decide) (lp1361 _ 0 0 ⟨by decide, by decide⟩ ⟨by decide, by decide⟩ (by omega) (rfl) rfl)
/-! StrikeAwake$Walk.countFrom(LStrikeAwake$Parish;I)V  -/
abbrev uq_70 (r0 : Nat) (r1 : Nat) (a2 : Int) (e : xD) (d : xD) (n : Int) (g : Nat → Int) (T : wq_T) (H : wq_H) : Option Value → wq_T → wq_H → Prop := fun r T' H' => T = T' ∧ WT T H' ∧ wfr [(8, 999), (10, 999), (9, 999), (11, 999)] T H H' ∧ none = r ∧ (((H' r0 5 = d 0 3) ∧ WP1 T H' r0 (d 0 3 + 1) (xer d g) ∧ WP2 T H' r0 (d 0 3 + 1) (xla d g) ∧ WP3 T H' r0 (d 0 3 + 1) (xfl d g) ∧ WP4 T H' r0 (d 0 3 + 1) (xqu d g)))
set_option maxHeartbeats 4000000 in
theorem u_70 {kt : Nat → Option mc_E} {T : wq_T} {H : wq_H} {r0 : Nat} {r1 : Nat} {a2 : Int} {e : xD} {d : xD} {n : Int} {g : Nat → Int} (hW : WT T H) (g0 : T.2.2.2 r0 = some 6) (g1 : T.2.2.2 r1 = some 27) (i2 : 0 ≤ a2 ∧ a2 ≤ 6) (p0 : ∀ i, i ≠ 13 → e i = d i) (p1 : XW d) (p2 : e 0 3 = d 0 3) (p3 : SL d g) (p4 : a2 ≤ d 0 3) (p5 : H r0 5 = d 0 3) (hCU_r1 : CU T H r1 e d n) (hWP0_r0 : WP0 T H r0 (d 0 3) g) (hWP1_r0 : WP1 T H r0 (a2 + 1) (xer d g)) (hWP2_r0 : WP2 T H r0 (a2 + 1) (xla d g)) (hWP3_r0 : WP3 T H r0 (a2 + 1) (xfl d g)) (hWP4_r0 : WP4 T H r0 (a2 + 1) (xqu d g)) : wpc kt 2 70 [.ref r0, .ref r1, vI a2] T H (uq_70 r0 r1 a2 e d n g T H) := by
  refine wp_enter e70 (Nat.le_of_ble_eq_true rfl) rfl ?_
  have f0 : wfr [(8, 999), (10, 999), (9, 999), (11, 999)] T H H := wfr.rf
  show wp _ _ 70 0 [(0, .ref r0), (1, .ref r1), (2, vI a2)] [] _ H _
  have u1257 := CU_k hCU_r1
  have _k := CU_k hCU_r1
  have _xc := p1.2.1
  unfold XC at _xc
  have _d0 := p0 0 (by decide)
  have _e3 : e 0 3 = d 0 3 := by rw [_d0]
  have _e4 : e 0 4 = d 0 4 := by rw [_d0]
  have _e5 : e 0 5 = d 0 5 := by rw [_d0]
  refine wp_of e70 c70_0 (rw_iload_n (pc' := 1) (z := a2) rfl rfl ?_)
  refine wp_of e70 c70_1 (rw_istore_n (pc' := 2) (z := a2) (L' := [(3, vI a2), (0, .ref r0), (1, .ref r1), (2, vI a2)]) rfl rfl rfl ?_)
  have lp1428 : ∀ (n1429 : Nat) (v1431 : Int) (H1432 : wq_H), WT T H1432 → wfr [(8, 999), (10, 999), (9, 999), (11, 999)] T H H1432 → (0 ≤ v1431 ∧ v1431 ≤ 6) → WP1 T H1432 r0 (v1431 + 1) (xer d g) → WP2 T H1432 r0 (v1431 + 1) (xla d g) → WP3 T H1432 r0 (v1431 + 1) (xfl d g) → WP4 T H1432 r0 (v1431 + 1) (xqu d g) → (v1431 ≤ d 0 3) → (H1432 r0 5 = d 0 3) → (6 - v1431).toNat = n1429 → wp kt 1 70 2 [(3, vI v1431), (0, .ref r0), (1, .ref r1)] [] T H1432 (uq_70 r0 r1 a2 e d n g T H) := by
    intro n1429
    induction n1429 using Nat.strongRecOn with
    | _ n1429 ih1430 =>
      intro v1431 H1432 w1433 f1434 b1435 h1437 h1438 h1439 h1440 x1441 x1442 m1436
      have f1443 := f0.tr f1434 rfl
      have k1444 : H1432 r0 5 = H r0 5 := (f1434 r0 5 _ g0 rfl)
      refine wp_of e70 c70_2 (rw_iload_n (pc' := 3) (z := v1431) rfl rfl ?_)
      refine wp_of e70 c70_3 (rw_aload_n (pc' := 4) (v := .ref r0) rfl rfl rfl ?_)
      refine wp_of e70 c70_4 (xg_I (pc' := 7) lf_3_51 w1433 g0 sh_6 (by decide) (by decide) ty_6_5 rfl rfl (fun b1445 b1446 => ?_))
      refine wp_of e70 c70_7 (rw_icmp_ge (p1 := 122) (p2 := 10) (by decide) rfl ⟨Int.le_trans (by decide) b1435.1, Int.le_trans b1435.2 (by decide)⟩ ⟨Int.le_trans (by decide) b1445, Int.le_trans b1446 (by decide)⟩ (fun c1447 => ?_) (fun c1447 => ?_))
      · exact wp_return e70 c70_122 rfl ⟨rfl, w1433, f1443, rfl, ⟨by omega, DA_cg h1437 (by omega) rfl, DA_cg h1438 (by omega) rfl, DA_cg h1439 (by omega) rfl, DA_cg h1440 (by omega) rfl⟩⟩
      · refine wp_of e70 c70_10 (rw_aload_n (pc' := 11) (v := .ref r1) rfl rfl rfl ?_)
        refine wp_of e70 c70_11 (xg_R (pc' := 14) lf_3_42 w1433 g1 sh_27 (by decide) (by decide) ty_27_0 rfl rfl (fun r1448 q1449 g1450 => ?_))
        refine wp_of e70 c70_14 (rw_iload_n (pc' := 15) (z := v1431) rfl rfl ?_)
        refine wp_of e70 c70_15 (xa_R (pc' := 16) (by decide) w1433 g1450 sh_28 (by decide) (ty_28 _) (b1435.1) (by omega) rfl (fun r1451 q1452 g1453 => ?_))
        have h1454 : CU T H1432 r1 e d n := (CU_fr hW g1 f1434 rfl hCU_r1)
        have _z := CS_at (h1454).2.1 q1449 q1452 (k := (v1431).toNat) (by omega) (by omega)
        have _l := @xsp_len d (v1431).toNat (h1454).2.1.1
        have h1455 : PS T H1432 r1451 d (v1431).toNat (xsp d (v1431).toNat) := _z.1
        have _n := h1455.1
        refine wp_of e70 c70_16 (rw_astore (pc' := 18) (v := .ref r1451) (L' := [(4, .ref r1451), (3, vI v1431), (0, .ref r0), (1, .ref r1)]) rfl rfl rfl rfl ?_)
        refine wp_of e70 c70_18 (rw_aload_n (pc' := 19) (v := .ref r0) rfl rfl rfl ?_)
        refine wp_of e70 c70_19 (xg_R (pc' := 22) lf_3_9 w1433 g0 sh_6 (by decide) (by decide) ty_6_0 rfl rfl (fun r1456 q1457 g1458 => ?_))
        refine wp_of e70 c70_22 (rw_iload_n (pc' := 23) (z := v1431) rfl rfl ?_)
        refine wp_of e70 c70_23 (xa_I (so := 0) (pc' := 24) w1433 g1458 sh_7 (by decide) (ty_7 _) (b1435.1) (by omega) rfl (fun b1459 b1460 => ?_))
        have h1461 : WP0 T H1432 r0 (d 0 3) g := (WP0_fr hW g0 f1434 rfl hWP0_r0)
        have := DA_at h1461 q1457 (k := (v1431.toNat)) (by omega)
        have _s := p3 (v1431.toNat) (by omega)
        refine wp_of e70 c70_24 (rw_istore (pc' := 26) (z := H1432 r1456 (v1431.toNat)) (L' := [(5, vI (H1432 r1456 (v1431.toNat))), (4, .ref r1451), (3, vI v1431), (0, .ref r0), (1, .ref r1)]) rfl rfl rfl ?_)
        have _wb := @xwb_b d g (v1431).toNat
        refine wp_of e70 c70_26 (rw_aload_n (pc' := 27) (v := .ref r0) rfl rfl rfl ?_)
        refine wp_of e70 c70_27 (xg_R (pc' := 30) lf_3_15 w1433 g0 sh_6 (by decide) (by decide) ty_6_1 rfl rfl (fun r1462 q1463 g1464 => ?_))
        refine wp_of e70 c70_30 (rw_iload_n (pc' := 31) (z := v1431) rfl rfl ?_)
        refine wp_of e70 c70_31 (rw_iconst (pc' := 32) rfl ?_)
        refine wp_of e70 c70_32 (rw_iadd (pc' := 33) rfl ?_)
        refine wp_of e70 c70_33 (rw_aload_n (pc' := 34) (v := .ref r0) rfl rfl rfl ?_)
        refine wp_of e70 c70_34 (xg_K (pc' := 37) lf_3_15 w1433 g0 sh_6 (by decide) (by decide) rfl q1463 rfl ?_)
        refine wp_of e70 c70_37 (rw_iload_n (pc' := 38) (z := v1431) rfl rfl ?_)
        refine wp_of e70 c70_38 (xa_L (pc' := 39) w1433 g1464 sh_8 (by decide) (ty_8 _) (b1435.1) (Int.lt_of_le_of_lt b1435.2 (by decide)) rfl (fun b1465 b1466 => ?_))
        have := DA_at h1437 q1463 (k := (v1431.toNat)) (by omega)
        have _eb := @xer_b d g (v1431.toNat) (by omega) (by omega)
        refine wp_of e70 c70_39 (rw_aload (pc' := 41) (v := .ref r1451) rfl rfl rfl ?_)
        refine wp_of e70 c70_41 (xg_R (pc' := 44) lf_3_69 w1433 g1453 sh_35 (by decide) (by decide) ty_35_4 rfl rfl (fun r1467 q1468 g1469 => ?_))
        refine wp_of e70 c70_44 (rw_iload (pc' := 46) (z := H1432 r1456 (v1431.toNat)) rfl rfl ?_)
        have _y := DA_at (h1455).2.2.2.2.2.1 q1468 (k := ((H1432 r1456 (v1431.toNat))).toNat) (by omega)
        have _x : xr5 d (v1431).toNat (xsp d (v1431).toNat) ((H1432 r1456 (v1431.toNat))).toNat = xtal (xwb d g (v1431).toNat) 12 := by
          unfold xr5 xwb xpt
          rw [show g (v1431).toNat = (H1432 r1456 (v1431.toNat)) by omega]
        refine wp_of e70 c70_46 (xa_L (pc' := 47) w1433 g1469 sh_40 (by decide) (ty_40 _) (b1459) (Int.lt_of_le_of_lt b1460 (by decide)) rfl (fun b1470 b1471 => ?_))
        refine wp_of e70 c70_47 (rw_laddw (pc' := 48) rfl ?_)
        obtain ⟨v1472, e1473⟩ : ∃ x : Int, x = wl_w ((H1432 r1462 (v1431.toNat)) + (H1432 r1467 ((H1432 r1456 (v1431.toNat)).toNat))) := ⟨_, rfl⟩
        rw [← e1473]
        have b1474 : -9223372036854775808 ≤ v1472 ∧ v1472 ≤ 9223372036854775807 := by
          rw [e1473]
          exact wL_w _
        have b1475 : (-9223372036854775808 ≤ (H1432 r1462 (v1431.toNat)) + (H1432 r1467 ((H1432 r1456 (v1431.toNat)).toNat)) ∧ (H1432 r1462 (v1431.toNat)) + (H1432 r1467 ((H1432 r1456 (v1431.toNat)).toNat)) ≤ 9223372036854775807) → v1472 = (H1432 r1462 (v1431.toNat)) + (H1432 r1467 ((H1432 r1456 (v1431.toNat)).toNat)) := fun h => by rw [e1473]; exact wl_w_id h
        have _v1 : v1472 = xer d g (v1431 + 1).toNat := by
          rw [show (v1431 + 1).toNat = (v1431).toNat + 1 by omega, xer_s]
          have := xtal_b _wb
          omega
        refine wp_of e70 c70_48 (xs_L (pc' := 49) w1433 g1464 (by decide) sh_8 (by decide) (ty_8 _) (b1474.1) (b1474.2) ⟨b1474.1, b1474.2⟩ (by omega) (by omega) rfl (fun H1476 e1477 w1478 => ?_))
        have f1479 := f1443.put' e1477 g1464 rfl
        have f1480 := f1434.put' e1477 g1464 rfl
        have h1481 : WP1 T H1476 r0 ((v1431 + 1) + 1) (xer d g) := DAo_put h1437 q1463 g0 g1464 (by decide) e1477 (k := ((v1431 + 1).toNat)) (by omega) rfl (by omega) (fun _ _ => rfl)
        refine wp_of e70 c70_49 (rw_aload_n (pc' := 50) (v := .ref r0) rfl rfl rfl ?_)
        refine wp_of e70 c70_50 (xg_R (pc' := 53) lf_3_19 w1478 g0 sh_6 (by decide) (by decide) ty_6_2 rfl rfl (fun r1482 q1483 g1484 => ?_))
        refine wp_of e70 c70_53 (rw_iload_n (pc' := 54) (z := v1431) rfl rfl ?_)
        refine wp_of e70 c70_54 (rw_iconst (pc' := 55) rfl ?_)
        refine wp_of e70 c70_55 (rw_iadd (pc' := 56) rfl ?_)
        refine wp_of e70 c70_56 (rw_aload_n (pc' := 57) (v := .ref r0) rfl rfl rfl ?_)
        refine wp_of e70 c70_57 (xg_K (pc' := 60) lf_3_19 w1478 g0 sh_6 (by decide) (by decide) rfl q1483 rfl ?_)
        refine wp_of e70 c70_60 (rw_iload_n (pc' := 61) (z := v1431) rfl rfl ?_)
        refine wp_of e70 c70_61 (xa_L (pc' := 62) w1478 g1484 sh_9 (by decide) (ty_9 _) (b1435.1) (Int.lt_of_le_of_lt b1435.2 (by decide)) rfl (fun b1485 b1486 => ?_))
        have h1487 : WP2 T H1476 r0 (v1431 + 1) (xla d g) := (WP2_fr w1433 g0 ((wfr.rf (l := [(8, 999)])).put' e1477 g1464 rfl) rfl h1438)
        have := DA_at h1487 q1483 (k := (v1431.toNat)) (by omega)
        have _lb := @xla_b d g (v1431.toNat) (by omega) (by omega)
        refine wp_of e70 c70_62 (rw_aload (pc' := 64) (v := .ref r1451) rfl rfl rfl ?_)
        refine wp_of e70 c70_64 (xg_R (pc' := 67) lf_3_72 w1478 g1453 sh_35 (by decide) (by decide) ty_35_5 rfl rfl (fun r1488 q1489 g1490 => ?_))
        refine wp_of e70 c70_67 (rw_iload (pc' := 69) (z := H1432 r1456 (v1431.toNat)) rfl rfl ?_)
        have h1491 : PS T H1476 r1451 d (v1431).toNat (xsp d (v1431).toNat) := (PS_fr w1433 g1453 ((wfr.rf (l := [(8, 999)])).put' e1477 g1464 rfl) rfl h1455)
        have _y := DA_at (h1491).2.2.2.2.2.2 q1489 (k := ((H1432 r1456 (v1431.toNat))).toNat) (by omega)
        have _x : xr6 d (v1431).toNat (xsp d (v1431).toNat) ((H1432 r1456 (v1431.toNat))).toNat = xtal (wq_shr (xwb d g (v1431).toNat) 12) 12 := by
          unfold xr6 xwb xpt
          rw [show g (v1431).toNat = (H1432 r1456 (v1431.toNat)) by omega]
        refine wp_of e70 c70_69 (xa_L (pc' := 70) w1478 g1490 sh_41 (by decide) (ty_41 _) (b1459) (Int.lt_of_le_of_lt b1460 (by decide)) rfl (fun b1492 b1493 => ?_))
        refine wp_of e70 c70_70 (rw_laddw (pc' := 71) rfl ?_)
        obtain ⟨v1494, e1495⟩ : ∃ x : Int, x = wl_w ((H1476 r1482 (v1431.toNat)) + (H1476 r1488 ((H1432 r1456 (v1431.toNat)).toNat))) := ⟨_, rfl⟩
        rw [← e1495]
        have b1496 : -9223372036854775808 ≤ v1494 ∧ v1494 ≤ 9223372036854775807 := by
          rw [e1495]
          exact wL_w _
        have b1497 : (-9223372036854775808 ≤ (H1476 r1482 (v1431.toNat)) + (H1476 r1488 ((H1432 r1456 (v1431.toNat)).toNat)) ∧ (H1476 r1482 (v1431.toNat)) + (H1476 r1488 ((H1432 r1456 (v1431.toNat)).toNat)) ≤ 9223372036854775807) → v1494 = (H1476 r1482 (v1431.toNat)) + (H1476 r1488 ((H1432 r1456 (v1431.toNat)).toNat)) := fun h => by rw [e1495]; exact wl_w_id h
        have _v2 : v1494 = xla d g (v1431 + 1).toNat := by
          rw [show (v1431 + 1).toNat = (v1431).toNat + 1 by omega, xla_s]
          have := xtal_b (shr12_b _wb)
          omega
        refine wp_of e70 c70_71 (xs_L (pc' := 72) w1478 g1484 (by decide) sh_9 (by decide) (ty_9 _) (b1496.1) (b1496.2) ⟨b1496.1, b1496.2⟩ (by omega) (by omega) rfl (fun H1498 e1499 w1500 => ?_))
        have f1501 := f1479.put' e1499 g1484 rfl
        have f1502 := f1480.put' e1499 g1484 rfl
        have h1503 : WP2 T H1498 r0 ((v1431 + 1) + 1) (xla d g) := DAo_put h1487 q1483 g0 g1484 (by decide) e1499 (k := ((v1431 + 1).toNat)) (by omega) rfl (by omega) (fun _ _ => rfl)
        refine wp_of e70 c70_72 (rw_aload_n (pc' := 73) (v := .ref r0) rfl rfl rfl ?_)
        refine wp_of e70 c70_73 (xg_R (pc' := 76) lf_3_22 w1500 g0 sh_6 (by decide) (by decide) ty_6_3 rfl rfl (fun r1504 q1505 g1506 => ?_))
        refine wp_of e70 c70_76 (rw_iload_n (pc' := 77) (z := v1431) rfl rfl ?_)
        refine wp_of e70 c70_77 (rw_iconst (pc' := 78) rfl ?_)
        refine wp_of e70 c70_78 (rw_iadd (pc' := 79) rfl ?_)
        refine wp_of e70 c70_79 (rw_aload_n (pc' := 80) (v := .ref r0) rfl rfl rfl ?_)
        refine wp_of e70 c70_80 (xg_K (pc' := 83) lf_3_22 w1500 g0 sh_6 (by decide) (by decide) rfl q1505 rfl ?_)
        refine wp_of e70 c70_83 (rw_iload_n (pc' := 84) (z := v1431) rfl rfl ?_)
        refine wp_of e70 c70_84 (xa_I (so := 0) (pc' := 85) w1500 g1506 sh_10 (by decide) (ty_10 _) (b1435.1) (Int.lt_of_le_of_lt b1435.2 (by decide)) rfl (fun b1507 b1508 => ?_))
        have h1509 : WP3 T H1498 r0 (v1431 + 1) (xfl d g) := (WP3_fr w1478 g0 ((wfr.rf (l := [(9, 999)])).put' e1499 g1484 rfl) rfl (WP3_fr w1433 g0 ((wfr.rf (l := [(8, 999)])).put' e1477 g1464 rfl) rfl h1439))
        have := DA_at h1509 q1505 (k := (v1431.toNat)) (by omega)
        have _fb := @xfl_b d g (v1431.toNat)
        refine wp_of e70 c70_85 (rw_aload (pc' := 87) (v := .ref r1451) rfl rfl rfl ?_)
        refine wp_of e70 c70_87 (xg_R (pc' := 90) lf_3_75 w1500 g1453 sh_35 (by decide) (by decide) ty_35_3 rfl rfl (fun r1510 q1511 g1512 => ?_))
        refine wp_of e70 c70_90 (rw_iload (pc' := 92) (z := H1432 r1456 (v1431.toNat)) rfl rfl ?_)
        have h1513 : PS T H1498 r1451 d (v1431).toNat (xsp d (v1431).toNat) := (PS_fr w1478 g1453 ((wfr.rf (l := [(9, 999)])).put' e1499 g1484 rfl) rfl h1491)
        have _y := DA_at (h1513).2.2.2.2.1 q1511 (k := ((H1432 r1456 (v1431.toNat))).toNat) (by omega)
        have _x : xr4 d (v1431).toNat (xsp d (v1431).toNat) ((H1432 r1456 (v1431.toNat))).toNat = xwb d g (v1431).toNat := by
          unfold xr4 xwb xpt
          rw [show g (v1431).toNat = (H1432 r1456 (v1431.toNat)) by omega]
        refine wp_of e70 c70_92 (xa_I (so := 0) (pc' := 93) w1500 g1512 sh_39 (by decide) (ty_39 _) (b1459) (Int.lt_of_le_of_lt b1460 (by decide)) rfl (fun b1514 b1515 => ?_))
        refine wp_of e70 c70_93 (rw_ior (pc' := 94) rfl ?_)
        obtain ⟨v1516, e1517⟩ : ∃ x : Int, x = wq_or (H1498 r1504 (v1431.toNat)) (H1498 r1510 ((H1432 r1456 (v1431.toNat)).toNat)) := ⟨_, rfl⟩
        rw [← e1517]
        have b1518 : -2147483648 ≤ v1516 ∧ v1516 ≤ 2147483647 := by
          rw [e1517]
          exact wI_or _ _
        have _v3 : v1516 = xfl d g (v1431 + 1).toNat := by
          rw [show (v1431 + 1).toNat = (v1431).toNat + 1 by omega]
          exact xfl_s e1517 (by omega) (by omega)
        refine wp_of e70 c70_94 (xs_I (pc' := 95) w1500 g1506 (by decide) sh_10 (by decide) (ty_10 _) (b1518.1) (b1518.2) ⟨b1518.1, b1518.2⟩ (by omega) (by omega) rfl (fun H1519 e1520 w1521 => ?_))
        have f1522 := f1501.put' e1520 g1506 rfl
        have f1523 := f1502.put' e1520 g1506 rfl
        have h1524 : WP3 T H1519 r0 ((v1431 + 1) + 1) (xfl d g) := DAo_put h1509 q1505 g0 g1506 (by decide) e1520 (k := ((v1431 + 1).toNat)) (by omega) rfl (by omega) (fun _ _ => rfl)
        refine wp_of e70 c70_95 (rw_aload_n (pc' := 96) (v := .ref r0) rfl rfl rfl ?_)
        refine wp_of e70 c70_96 (xg_R (pc' := 99) lf_3_25 w1521 g0 sh_6 (by decide) (by decide) ty_6_4 rfl rfl (fun r1525 q1526 g1527 => ?_))
        refine wp_of e70 c70_99 (rw_iload_n (pc' := 100) (z := v1431) rfl rfl ?_)
        refine wp_of e70 c70_100 (rw_iconst (pc' := 101) rfl ?_)
        refine wp_of e70 c70_101 (rw_iadd (pc' := 102) rfl ?_)
        refine wp_of e70 c70_102 (rw_aload_n (pc' := 103) (v := .ref r0) rfl rfl rfl ?_)
        refine wp_of e70 c70_103 (xg_K (pc' := 106) lf_3_25 w1521 g0 sh_6 (by decide) (by decide) rfl q1526 rfl ?_)
        refine wp_of e70 c70_106 (rw_iload_n (pc' := 107) (z := v1431) rfl rfl ?_)
        refine wp_of e70 c70_107 (xa_I (so := 0) (pc' := 108) w1521 g1527 sh_11 (by decide) (ty_11 _) (b1435.1) (Int.lt_of_le_of_lt b1435.2 (by decide)) rfl (fun b1528 b1529 => ?_))
        have b1528 := Int.le_trans (wq0_b _) b1528
        have b1529 := Int.le_trans b1529 (wq1_b _)
        have h1530 : WP4 T H1519 r0 (v1431 + 1) (xqu d g) := (WP4_fr w1500 g0 ((wfr.rf (l := [(10, 999)])).put' e1520 g1506 rfl) rfl (WP4_fr w1478 g0 ((wfr.rf (l := [(9, 999)])).put' e1499 g1484 rfl) rfl (WP4_fr w1433 g0 ((wfr.rf (l := [(8, 999)])).put' e1477 g1464 rfl) rfl h1440)))
        have := DA_at h1530 q1526 (k := (v1431.toNat)) (by omega)
        have _qb := @xqu_b d g (v1431.toNat)
        refine wp_of e70 c70_108 (rw_aload_n (pc' := 109) (v := .ref r0) rfl rfl rfl ?_)
        refine wp_of e70 c70_109 (rw_aload_n (pc' := 110) (v := .ref r1) rfl rfl rfl ?_)
        refine wp_of e70 c70_110 (rw_iload_n (pc' := 111) (z := v1431) rfl rfl ?_)
        have h1531 : CU T H1519 r1 e d n := (CU_fr w1500 g1 ((wfr.rf (l := [(10, 999)])).put' e1520 g1506 rfl) rfl (CU_fr w1478 g1 ((wfr.rf (l := [(9, 999)])).put' e1499 g1484 rfl) rfl (CU_fr w1433 g1 ((wfr.rf (l := [(8, 999)])).put' e1477 g1464 rfl) rfl h1454)))
        have h1532 : WP0 T H1519 r0 (d 0 3) g := (WP0_fr w1500 g0 ((wfr.rf (l := [(10, 999)])).put' e1520 g1506 rfl) rfl (WP0_fr w1478 g0 ((wfr.rf (l := [(9, 999)])).put' e1499 g1484 rfl) rfl (WP0_fr w1433 g0 ((wfr.rf (l := [(8, 999)])).put' e1477 g1464 rfl) rfl h1461)))
        refine wp_of e70 c70_111 (xc_V (pc' := 114) (r := r0) (as := [.ref r1, vI v1431]) (st := [vI (H1519 r1525 (v1431.toNat)), vI (v1431 + 1), .ref r1525]) (lm_3_78) rfl rfl (Nat.le_of_ble_eq_true rfl) w1521 g0 sh_6 (by decide) rfl (by decide) (u_71 (e := e) (d := d) (n := n) (g := g) w1521 g0 g1 ⟨b1435.1, by omega⟩ (by assumption) (by assumption) (by omega) (by assumption) (by omega) h1531 h1532) (fun R1533 T1534 H1535 p1536 => ?_))
        obtain ⟨e1537, e1539, z1540, e1538, b1541, p1542⟩ := p1536
        subst e1537
        subst e1538
        subst e1539
        show wp _ _ 70 114 [(5, vI (H1432 r1456 (v1431.toNat))), (4, .ref r1451), (3, vI v1431), (0, .ref r0), (1, .ref r1)] [vI z1540, vI (H1519 r1525 (v1431.toNat)), vI (v1431 + 1), .ref r1525] _ H1519 _
        refine wp_of e70 c70_114 (rw_ior (pc' := 115) rfl ?_)
        obtain ⟨v1544, e1545⟩ : ∃ x : Int, x = wq_or (H1519 r1525 (v1431.toNat)) z1540 := ⟨_, rfl⟩
        rw [← e1545]
        have b1546 : -2147483648 ≤ v1544 ∧ v1544 ≤ 2147483647 := by
          rw [e1545]
          exact wI_or _ _
        have _v4 : v1544 = xqu d g (v1431 + 1).toNat := by
          rw [show (v1431 + 1).toNat = (v1431).toNat + 1 by omega]
          exact xqu_s e1545 (by omega) (by omega)
        refine wp_of e70 c70_115 (xs_I (pc' := 116) w1521 g1527 (by decide) sh_11 (by decide) (ty_11s (by omega)) (b1546.1) (b1546.2) ⟨b1546.1, b1546.2⟩ (by omega) (by omega) rfl (fun H1547 e1548 w1549 => ?_))
        have f1550 := f1522.put' e1548 g1527 rfl
        have f1551 := f1523.put' e1548 g1527 rfl
        have h1552 : WP4 T H1547 r0 ((v1431 + 1) + 1) (xqu d g) := DAo_put h1530 q1526 g0 g1527 (by decide) e1548 (k := ((v1431 + 1).toNat)) (by omega) rfl (by omega) (fun _ _ => rfl)
        refine wp_of e70 c70_116 (rw_iinc (pc' := 119) (z := v1431) (L' := [(3, vI (v1431 + 1)), (5, vI (H1432 r1456 (v1431.toNat))), (4, .ref r1451), (0, .ref r0), (1, .ref r1)]) rfl rfl rfl rfl ?_)
        refine wp_of e70 c70_119 (rw_goto (p1 := 2) (by decide) ?_)
        have k1553 : H1547 r0 5 = H1432 r0 5 := ((wq_u_t e1548 g1527 g0 rfl 5).trans ((wq_u_t e1520 g1506 g0 rfl 5).trans ((wq_u_t e1499 g1484 g0 rfl 5).trans (wq_u_t e1477 g1464 g0 rfl 5))))
        have h1554 : WP1 T H1547 r0 ((v1431 + 1) + 1) (xer d g) := (WP1_fr w1521 g0 ((wfr.rf (l := [(11, 999)])).put' e1548 g1527 rfl) rfl (WP1_fr w1500 g0 ((wfr.rf (l := [(10, 999)])).put' e1520 g1506 rfl) rfl (WP1_fr w1478 g0 ((wfr.rf (l := [(9, 999)])).put' e1499 g1484 rfl) rfl h1481)))
        have h1555 : WP2 T H1547 r0 ((v1431 + 1) + 1) (xla d g) := (WP2_fr w1521 g0 ((wfr.rf (l := [(11, 999)])).put' e1548 g1527 rfl) rfl (WP2_fr w1500 g0 ((wfr.rf (l := [(10, 999)])).put' e1520 g1506 rfl) rfl h1503))
        have h1556 : WP3 T H1547 r0 ((v1431 + 1) + 1) (xfl d g) := (WP3_fr w1521 g0 ((wfr.rf (l := [(11, 999)])).put' e1548 g1527 rfl) rfl h1524)
        exact wp_lc (ks := [3, 5, 4, 0, 1]) (wl_c rfl (wl_c rfl (wl_c rfl wl_n))) rfl (by decide) (ih1430 _ (by omega) (v1431 + 1) H1547 w1549 f1551 ⟨by omega, by omega⟩ h1554 h1555 h1556 h1552 (by omega) (by omega) rfl)
  exact wp_lc (ks := [3, 0, 1, 2]) (wl_c rfl (wl_c rfl (wl_c rfl wl_n))) rfl (by decide) (lp1428 _ a2 H hW wfr.rf ⟨i2.1, i2.2⟩ hWP1_r0 hWP2_r0 hWP3_r0 hWP4_r0 (by omega) (by omega) rfl)
/-! StrikeAwake$Walk.strokesDue(I)I  -/
abbrev uq_72 (r0 : Nat) (a1 : Int) (d : xD) (g : Nat → Int) (T : wq_T) (H : wq_H) : Option Value → wq_T → wq_H → Prop := fun r T' H' => T = T' ∧ H = H' ∧ ∃ z : Int, some (vI z) = r ∧ (0 ≤ z ∧ z ≤ 15) ∧ (((z = ((xdue d g (a1).toNat : Nat) : Int))))
set_option maxHeartbeats 4000000 in
theorem u_72 {kt : Nat → Option mc_E} {T : wq_T} {H : wq_H} {r0 : Nat} {a1 : Int} {d : xD} {g : Nat → Int} (hW : WT T H) (g0 : T.2.2.2 r0 = some 6) (i1 : 0 ≤ a1 ∧ a1 ≤ 23) (p0 : XW d) (hWR_r0 : WR T H r0 d g) : wpc kt 1 72 [.ref r0, vI a1] T H (uq_72 r0 a1 d g T H) := by
  refine wp_enter e72 (Nat.le_of_ble_eq_true rfl) rfl ?_
  show wp _ _ 72 0 [(0, .ref r0), (1, vI a1)] [] _ H _
  have b1036 : 0 ≤ H r0 5 ∧ H r0 5 ≤ 6 := hW.box g0 (n := 6) rfl (by decide) rfl
  have h1037 : WP1 T H r0 (d 0 3 + 1) (xer d g) := hWR_r0.2.2.1
  have h1038 : WP2 T H r0 (d 0 3 + 1) (xla d g) := hWR_r0.2.2.2.1
  have h1039 : WP3 T H r0 (d 0 3 + 1) (xfl d g) := hWR_r0.2.2.2.2.1
  have h1040 : WP4 T H r0 (d 0 3 + 1) (xqu d g) := hWR_r0.2.2.2.2.2
  have _xc := p0.2.1
  unfold XC at _xc
  have _w5 := hWR_r0.1
  refine wp_of e72 c72_0 (rw_iload_n (pc' := 1) (z := a1) rfl rfl ?_)
  refine wp_of e72 c72_1 (rw_bipush (pc' := 3) (z := 12) rfl (by decide) ?_)
  refine wp_of e72 c72_3 (rw_icmp_ge (p1 := 10) (p2 := 6) (by decide) rfl ⟨Int.le_trans (by decide) i1.1, Int.le_trans i1.2 (by decide)⟩ ⟨by decide, by decide⟩ (fun c1041 => ?_) (fun c1041 => ?_))
  · refine wp_of e72 c72_10 (rw_iconst (pc' := 11) rfl ?_)
    refine wp_of e72 c72_11 (rw_istore_n (pc' := 12) (z := 0) (L' := [(2, vI 0), (0, .ref r0), (1, vI a1)]) rfl rfl rfl ?_)
    refine wp_of e72 c72_12 (rw_iload_n (pc' := 13) (z := 0) rfl rfl ?_)
    refine wp_of e72 c72_13 (rw_if_eq (p1 := 28) (p2 := 16) (by decide) rfl ⟨by decide, by decide⟩ (fun c1042 => ?_) (fun c1042 => ?_))
    · refine wp_of e72 c72_28 (rw_aload_n (pc' := 29) (v := .ref r0) rfl rfl rfl ?_)
      refine wp_of e72 c72_29 (xg_R (pc' := 32) lf_3_19 hW g0 sh_6 (by decide) (by decide) ty_6_2 rfl rfl (fun r1043 q1044 g1045 => ?_))
      refine wp_of e72 c72_32 (rw_aload_n (pc' := 33) (v := .ref r0) rfl rfl rfl ?_)
      refine wp_of e72 c72_33 (xg_I (pc' := 36) lf_3_51 hW g0 sh_6 (by decide) (by decide) ty_6_5 rfl rfl (fun b1046 b1047 => ?_))
      refine wp_of e72 c72_36 (xa_L (pc' := 37) hW g1045 sh_9 (by decide) (ty_9 _) (b1046) (Int.lt_of_le_of_lt b1047 (by decide)) rfl (fun b1048 b1049 => ?_))
      have := DA_at h1038 q1044 (k := ((H r0 5).toNat)) (by omega)
      have _i5 : ((H r0 5).toNat) = (d 0 3).toNat := by omega
      have _i6 : xla d g ((H r0 5).toNat) = xla d g (d 0 3).toNat := congrArg (xla d g) _i5
      refine wp_of e72 c72_37 (rw_lstore_n (pc' := 38) (z := H r1043 ((H r0 5).toNat)) (L' := [(3, vL (H r1043 ((H r0 5).toNat))), (2, vI 0), (0, .ref r0), (1, vI a1)]) rfl rfl rfl ?_)
      refine wp_of e72 c72_38 (rw_iload_n (pc' := 39) (z := 0) rfl rfl ?_)
      refine wp_of e72 c72_39 (rw_if_eq (p1 := 46) (p2 := 42) (by decide) rfl ⟨by decide, by decide⟩ (fun c1050 => ?_) (fun c1050 => ?_))
      · refine wp_of e72 c72_46 (rw_iload_n (pc' := 47) (z := a1) rfl rfl ?_)
        refine wp_of e72 c72_47 (rw_bipush (pc' := 49) (z := 12) rfl (by decide) ?_)
        refine wp_of e72 c72_49 (rw_isub (pc' := 50) rfl ?_)
        refine wp_of e72 c72_50 (rw_istore (pc' := 52) (z := a1 - 12) (L' := [(5, vI (a1 - 12)), (3, vL (H r1043 ((H r0 5).toNat))), (2, vI 0), (0, .ref r0), (1, vI a1)]) rfl rfl rfl ?_)
        refine wp_of e72 c72_52 (rw_lload_n (pc' := 53) (z := H r1043 ((H r0 5).toNat)) rfl rfl ?_)
        refine wp_of e72 c72_53 (rw_iload (pc' := 55) (z := a1 - 12) rfl rfl ?_)
        refine wp_of e72 c72_55 (rw_iconst (pc' := 56) rfl ?_)
        refine wp_of e72 c72_56 (rw_imul (pc' := 57) rfl ?_)
        refine wp_of e72 c72_57 (rw_lshr (pc' := 58) rfl ?_)
        obtain ⟨v1051, e1052⟩ : ∃ x : Int, x = wl_shr (H r1043 ((H r0 5).toNat)) ((a1 - 12) * 4) := ⟨_, rfl⟩
        rw [← e1052]
        have b1053 : -9223372036854775808 ≤ v1051 ∧ v1051 ≤ 9223372036854775807 := by
          rw [e1052]
          exact wL_shr _ _
        refine wp_of e72 c72_58 (rw_l2i (pc' := 59) rfl ?_)
        obtain ⟨v1054, e1055⟩ : ∃ x : Int, x = wq_w v1051 := ⟨_, rfl⟩
        rw [← e1055]
        have b1056 : -2147483648 ≤ v1054 ∧ v1054 ≤ 2147483647 := by
          rw [e1055]
          exact wI_w _
        have b1057 : (-2147483648 ≤ v1051 ∧ v1051 ≤ 2147483647) → v1054 = v1051 := by
          rw [e1055]
          exact fun h => wq_w_id h
        refine wp_of e72 c72_59 (rw_bipush (pc' := 61) (z := 15) rfl (by decide) ?_)
        refine wp_of e72 c72_61 (rw_iand (pc' := 62) rfl ?_)
        obtain ⟨v1058, e1059⟩ : ∃ x : Int, x = wq_and v1054 15 := ⟨_, rfl⟩
        rw [← e1059]
        have b1060 : 0 ≤ v1058 ∧ v1058 ≤ 15 := by
          rw [e1059]
          exact wq_and_b _ (by omega) (by omega)
        have _z : v1058 = ((xdue d g (a1).toNat : Nat) : Int) := by
          rw [e1059, e1055, e1052]
          exact xdue_l (by omega) ⟨by omega, by omega⟩ ⟨by omega, by omega⟩ (by first | omega | exact this.trans _i6)
        exact wp_ireturn e72 c72_62 rfl ⟨rfl, rfl, v1058, rfl, ⟨b1060.1, b1060.2⟩, (_z)⟩
      · exfalso
        omega
    · exfalso
      omega
  · refine wp_of e72 c72_6 (rw_iconst (pc' := 7) rfl ?_)
    refine wp_of e72 c72_7 (rw_goto (p1 := 11) (by decide) ?_)
    refine wp_of e72 c72_11 (rw_istore_n (pc' := 12) (z := 1) (L' := [(2, vI 1), (0, .ref r0), (1, vI a1)]) rfl rfl rfl ?_)
    refine wp_of e72 c72_12 (rw_iload_n (pc' := 13) (z := 1) rfl rfl ?_)
    refine wp_of e72 c72_13 (rw_if_eq (p1 := 28) (p2 := 16) (by decide) rfl ⟨by decide, by decide⟩ (fun c1061 => ?_) (fun c1061 => ?_))
    · exfalso
      omega
    · refine wp_of e72 c72_16 (rw_aload_n (pc' := 17) (v := .ref r0) rfl rfl rfl ?_)
      refine wp_of e72 c72_17 (xg_R (pc' := 20) lf_3_15 hW g0 sh_6 (by decide) (by decide) ty_6_1 rfl rfl (fun r1062 q1063 g1064 => ?_))
      refine wp_of e72 c72_20 (rw_aload_n (pc' := 21) (v := .ref r0) rfl rfl rfl ?_)
      refine wp_of e72 c72_21 (xg_I (pc' := 24) lf_3_51 hW g0 sh_6 (by decide) (by decide) ty_6_5 rfl rfl (fun b1065 b1066 => ?_))
      refine wp_of e72 c72_24 (xa_L (pc' := 25) hW g1064 sh_8 (by decide) (ty_8 _) (b1065) (Int.lt_of_le_of_lt b1066 (by decide)) rfl (fun b1067 b1068 => ?_))
      have := DA_at h1037 q1063 (k := ((H r0 5).toNat)) (by omega)
      have _i5 : ((H r0 5).toNat) = (d 0 3).toNat := by omega
      have _i6 : xer d g ((H r0 5).toNat) = xer d g (d 0 3).toNat := congrArg (xer d g) _i5
      refine wp_of e72 c72_25 (rw_goto (p1 := 37) (by decide) ?_)
      refine wp_of e72 c72_37 (rw_lstore_n (pc' := 38) (z := H r1062 ((H r0 5).toNat)) (L' := [(3, vL (H r1062 ((H r0 5).toNat))), (2, vI 1), (0, .ref r0), (1, vI a1)]) rfl rfl rfl ?_)
      refine wp_of e72 c72_38 (rw_iload_n (pc' := 39) (z := 1) rfl rfl ?_)
      refine wp_of e72 c72_39 (rw_if_eq (p1 := 46) (p2 := 42) (by decide) rfl ⟨by decide, by decide⟩ (fun c1069 => ?_) (fun c1069 => ?_))
      · exfalso
        omega
      · refine wp_of e72 c72_42 (rw_iload_n (pc' := 43) (z := a1) rfl rfl ?_)
        refine wp_of e72 c72_43 (rw_goto (p1 := 50) (by decide) ?_)
        refine wp_of e72 c72_50 (rw_istore (pc' := 52) (z := a1) (L' := [(5, vI a1), (3, vL (H r1062 ((H r0 5).toNat))), (2, vI 1), (0, .ref r0), (1, vI a1)]) rfl rfl rfl ?_)
        refine wp_of e72 c72_52 (rw_lload_n (pc' := 53) (z := H r1062 ((H r0 5).toNat)) rfl rfl ?_)
        refine wp_of e72 c72_53 (rw_iload (pc' := 55) (z := a1) rfl rfl ?_)
        refine wp_of e72 c72_55 (rw_iconst (pc' := 56) rfl ?_)
        refine wp_of e72 c72_56 (rw_imul (pc' := 57) rfl ?_)
        refine wp_of e72 c72_57 (rw_lshr (pc' := 58) rfl ?_)
        obtain ⟨v1070, e1071⟩ : ∃ x : Int, x = wl_shr (H r1062 ((H r0 5).toNat)) (a1 * 4) := ⟨_, rfl⟩
        rw [← e1071]
        have b1072 : -9223372036854775808 ≤ v1070 ∧ v1070 ≤ 9223372036854775807 := by
          rw [e1071]
          exact wL_shr _ _
        refine wp_of e72 c72_58 (rw_l2i (pc' := 59) rfl ?_)
        obtain ⟨v1073, e1074⟩ : ∃ x : Int, x = wq_w v1070 := ⟨_, rfl⟩
        rw [← e1074]
        have b1075 : -2147483648 ≤ v1073 ∧ v1073 ≤ 2147483647 := by
          rw [e1074]
          exact wI_w _
        have b1076 : (-2147483648 ≤ v1070 ∧ v1070 ≤ 2147483647) → v1073 = v1070 := by
          rw [e1074]
          exact fun h => wq_w_id h
        refine wp_of e72 c72_59 (rw_bipush (pc' := 61) (z := 15) rfl (by decide) ?_)
        refine wp_of e72 c72_61 (rw_iand (pc' := 62) rfl ?_)
        obtain ⟨v1077, e1078⟩ : ∃ x : Int, x = wq_and v1073 15 := ⟨_, rfl⟩
        rw [← e1078]
        have b1079 : 0 ≤ v1077 ∧ v1077 ≤ 15 := by
          rw [e1078]
          exact wq_and_b _ (by omega) (by omega)
        have _z : v1077 = ((xdue d g (a1).toNat : Nat) : Int) := by
          rw [e1078, e1074, e1071]
          exact xdue_e (by omega) ⟨by omega, by omega⟩ ⟨by omega, by omega⟩ (by first | omega | exact this.trans _i6)
        exact wp_ireturn e72 c72_62 rfl ⟨rfl, rfl, v1077, rfl, ⟨b1079.1, b1079.2⟩, (_z)⟩
/-! StrikeAwake$Parish.verdict(II)I  -/
abbrev uq_76 (r0 : Nat) (a1 : Int) (a2 : Int) (e : xD) (d : xD) (n : Int) (T : wq_T) (H : wq_H) : Option Value → wq_T → wq_H → Prop := fun r T' H' => T = T' ∧ H = H' ∧ ∃ z : Int, some (vI z) = r ∧ (0 ≤ z ∧ z ≤ 2) ∧ (((z = xvc (e 13 (a1).toNat) a2 (d 0 1))))
set_option maxHeartbeats 4000000 in
theorem u_76 {kt : Nat → Option mc_E} {T : wq_T} {H : wq_H} {r0 : Nat} {a1 : Int} {a2 : Int} {e : xD} {d : xD} {n : Int} (hW : WT T H) (g0 : T.2.2.2 r0 = some 27) (i1 : 0 ≤ a1 ∧ a1 ≤ 23) (i2 : 0 ≤ a2 ∧ a2 ≤ 15) (p0 : ∀ i, i ≠ 13 → e i = d i) (p1 : XW d) (hCU_r0 : CU T H r0 e d n) : wpc kt 1 76 [.ref r0, vI a1, vI a2] T H (uq_76 r0 a1 a2 e d n T H) := by
  refine wp_enter e76 (Nat.le_of_ble_eq_true rfl) rfl ?_
  show wp _ _ 76 0 [(0, .ref r0), (1, vI a1), (2, vI a2)] [] _ H _
  have u1030 := CU_k hCU_r0
  have h1031 : ST T H r0 (e 13) := hCU_r0.1.2.2.1
  have _k := CU_k hCU_r0
  have _xc := p1.2.1
  unfold XC at _xc
  have _d0 := p0 0 (by decide)
  have _e3 : e 0 3 = d 0 3 := by rw [_d0]
  have _e4 : e 0 4 = d 0 4 := by rw [_d0]
  have _e5 : e 0 5 = d 0 5 := by rw [_d0]
  have _e1 : e 0 1 = d 0 1 := by rw [_d0]
  have _b := hCU_r0.1.1.2.1
  refine wp_of e76 c76_0 (rw_aload_n (pc' := 1) (v := .ref r0) rfl rfl rfl ?_)
  refine wp_of e76 c76_1 (xg_R (pc' := 4) lf_7_17 hW g0 sh_27 (by decide) (by decide) ty_27_1 rfl rfl (fun r1032 q1033 g1034 => ?_))
  refine wp_of e76 c76_4 (rw_iload_n (pc' := 5) (z := a1) rfl rfl ?_)
  refine wp_of e76 c76_5 (xa_I (so := 0) (pc' := 6) hW g1034 sh_29 (by decide) (ty_29 _) (i1.1) (Int.lt_of_le_of_lt i1.2 (by decide)) rfl (fun b1035 b1036 => ?_))
  have := ST_at h1031 q1033 (k := (a1.toNat)) (by omega)
  refine wp_of e76 c76_6 (rw_istore_n (pc' := 7) (z := H r1032 (a1.toNat)) (L' := [(3, vI (H r1032 (a1.toNat))), (0, .ref r0), (1, vI a1), (2, vI a2)]) rfl rfl rfl ?_)
  refine wp_of e76 c76_7 (rw_iload_n (pc' := 8) (z := H r1032 (a1.toNat)) rfl rfl ?_)
  refine wp_of e76 c76_8 (rw_if_lt (p1 := 26) (p2 := 11) (by decide) rfl ⟨b1035, b1036⟩ (fun c1037 => ?_) (fun c1037 => ?_))
  · refine wp_of e76 c76_26 (rw_iconst (pc' := 27) rfl ?_)
    have _z : (0 : Int) = xvc (e 13 (a1).toNat) a2 (d 0 1) := by
      unfold xvc xvo
      repeat first | rw [if_pos (Int.le_antisymm (by omega -splitDisjunctions) (by omega -splitDisjunctions))] | rw [if_pos (by omega -splitDisjunctions)] | rw [if_pos (And.intro (by omega -splitDisjunctions) (by omega -splitDisjunctions))] | rw [if_neg (by omega -splitDisjunctions)] | rw [if_neg (by omega)] | rw [if_pos (by omega)]
      first | done | rfl | (exfalso; omega)
    exact wp_ireturn e76 c76_27 rfl ⟨rfl, rfl, 0, rfl, ⟨by decide, by decide⟩, (_z)⟩
  · refine wp_of e76 c76_11 (rw_iload_n (pc' := 12) (z := H r1032 (a1.toNat)) rfl rfl ?_)
    refine wp_of e76 c76_12 (rw_iload_n (pc' := 13) (z := a2) rfl rfl ?_)
    refine wp_of e76 c76_13 (rw_icmp_lt (p1 := 28) (p2 := 16) (by decide) rfl ⟨b1035, b1036⟩ ⟨Int.le_trans (by decide) i2.1, Int.le_trans i2.2 (by decide)⟩ (fun c1038 => ?_) (fun c1038 => ?_))
    · refine wp_of e76 c76_28 (rw_iload_n (pc' := 29) (z := H r1032 (a1.toNat)) rfl rfl ?_)
      refine wp_of e76 c76_29 (rw_iload_n (pc' := 30) (z := a2) rfl rfl ?_)
      refine wp_of e76 c76_30 (rw_iconst (pc' := 31) rfl ?_)
      refine wp_of e76 c76_31 (rw_isub (pc' := 32) rfl ?_)
      refine wp_of e76 c76_32 (rw_icmp_eq (p1 := 47) (p2 := 35) (by decide) rfl ⟨b1035, b1036⟩ ⟨by omega, by omega⟩ (fun c1039 => ?_) (fun c1039 => ?_))
      · refine wp_of e76 c76_47 (rw_iconst (pc' := 48) rfl ?_)
        refine wp_of e76 c76_48 (rw_goto (p1 := 52) (by decide) ?_)
        have _z : (1 : Int) = xvc (e 13 (a1).toNat) a2 (d 0 1) := by
          unfold xvc xvo
          repeat first | rw [if_pos (Int.le_antisymm (by omega -splitDisjunctions) (by omega -splitDisjunctions))] | rw [if_pos (by omega -splitDisjunctions)] | rw [if_pos (And.intro (by omega -splitDisjunctions) (by omega -splitDisjunctions))] | rw [if_neg (by omega -splitDisjunctions)] | rw [if_neg (by omega)] | rw [if_pos (by omega)]
          first | done | rfl | (exfalso; omega)
        exact wp_ireturn e76 c76_52 rfl ⟨rfl, rfl, 1, rfl, ⟨by decide, by decide⟩, (_z)⟩
      · refine wp_of e76 c76_35 (rw_iload_n (pc' := 36) (z := H r1032 (a1.toNat)) rfl rfl ?_)
        refine wp_of e76 c76_36 (rw_iload_n (pc' := 37) (z := a2) rfl rfl ?_)
        refine wp_of e76 c76_37 (rw_aload_n (pc' := 38) (v := .ref r0) rfl rfl rfl ?_)
        refine wp_of e76 c76_38 (xg_I (pc' := 41) lf_7_44 hW g0 sh_27 (by decide) (by decide) ty_27_8 rfl rfl (fun b1040 b1041 => ?_))
        refine wp_of e76 c76_41 (rw_iaddw (pc' := 42) rfl ?_)
        obtain ⟨v1042, e1043⟩ : ∃ x : Int, x = wq_w (a2 + (H r0 8)) := ⟨_, rfl⟩
        rw [← e1043]
        have b1044 : -2147483648 ≤ v1042 ∧ v1042 ≤ 2147483647 := by
          rw [e1043]
          exact wI_w _
        have b1045 : (-2147483648 ≤ a2 + (H r0 8) ∧ a2 + (H r0 8) ≤ 2147483647) → v1042 = a2 + (H r0 8) := fun h => by rw [e1043]; exact wq_w_id h
        refine wp_of e76 c76_42 (rw_iconst (pc' := 43) rfl ?_)
        refine wp_of e76 c76_43 (rw_iaddw (pc' := 44) rfl ?_)
        obtain ⟨v1046, e1047⟩ : ∃ x : Int, x = wq_w (v1042 + 1) := ⟨_, rfl⟩
        rw [← e1047]
        have b1048 : -2147483648 ≤ v1046 ∧ v1046 ≤ 2147483647 := by
          rw [e1047]
          exact wI_w _
        have b1049 : (-2147483648 ≤ v1042 + 1 ∧ v1042 + 1 ≤ 2147483647) → v1046 = v1042 + 1 := fun h => by rw [e1047]; exact wq_w_id h
        refine wp_of e76 c76_44 (rw_icmp_ne (p1 := 51) (p2 := 47) (by decide) rfl ⟨b1035, b1036⟩ ⟨b1048.1, b1048.2⟩ (fun c1050 => ?_) (fun c1050 => ?_))
        · refine wp_of e76 c76_51 (rw_iconst (pc' := 52) rfl ?_)
          have _z : (2 : Int) = xvc (e 13 (a1).toNat) a2 (d 0 1) := by
            unfold xvc xvo
            repeat first | rw [if_pos (Int.le_antisymm (by omega -splitDisjunctions) (by omega -splitDisjunctions))] | rw [if_pos (by omega -splitDisjunctions)] | rw [if_pos (And.intro (by omega -splitDisjunctions) (by omega -splitDisjunctions))] | rw [if_neg (by omega -splitDisjunctions)] | rw [if_neg (by omega)] | rw [if_pos (by omega)]
            first | done | rfl | (exfalso; omega)
          exact wp_ireturn e76 c76_52 rfl ⟨rfl, rfl, 2, rfl, ⟨by decide, by decide⟩, (_z)⟩
        · refine wp_of e76 c76_47 (rw_iconst (pc' := 48) rfl ?_)
          refine wp_of e76 c76_48 (rw_goto (p1 := 52) (by decide) ?_)
          have _z : (1 : Int) = xvc (e 13 (a1).toNat) a2 (d 0 1) := by
            unfold xvc xvo
            repeat first | rw [if_pos (Int.le_antisymm (by omega -splitDisjunctions) (by omega -splitDisjunctions))] | rw [if_pos (by omega -splitDisjunctions)] | rw [if_pos (And.intro (by omega -splitDisjunctions) (by omega -splitDisjunctions))] | rw [if_neg (by omega -splitDisjunctions)] | rw [if_neg (by omega)] | rw [if_pos (by omega)]
            first | done | rfl | (exfalso; omega)
          exact wp_ireturn e76 c76_52 rfl ⟨rfl, rfl, 1, rfl, ⟨by decide, by decide⟩, (_z)⟩
    · refine wp_of e76 c76_16 (rw_iload_n (pc' := 17) (z := H r1032 (a1.toNat)) rfl rfl ?_)
      refine wp_of e76 c76_17 (rw_iload_n (pc' := 18) (z := a2) rfl rfl ?_)
      refine wp_of e76 c76_18 (rw_aload_n (pc' := 19) (v := .ref r0) rfl rfl rfl ?_)
      refine wp_of e76 c76_19 (xg_I (pc' := 22) lf_7_44 hW g0 sh_27 (by decide) (by decide) ty_27_8 rfl rfl (fun b1051 b1052 => ?_))
      refine wp_of e76 c76_22 (rw_iaddw (pc' := 23) rfl ?_)
      obtain ⟨v1053, e1054⟩ : ∃ x : Int, x = wq_w (a2 + (H r0 8)) := ⟨_, rfl⟩
      rw [← e1054]
      have b1055 : -2147483648 ≤ v1053 ∧ v1053 ≤ 2147483647 := by
        rw [e1054]
        exact wI_w _
      have b1056 : (-2147483648 ≤ a2 + (H r0 8) ∧ a2 + (H r0 8) ≤ 2147483647) → v1053 = a2 + (H r0 8) := fun h => by rw [e1054]; exact wq_w_id h
      refine wp_of e76 c76_23 (rw_icmp_gt (p1 := 28) (p2 := 26) (by decide) rfl ⟨b1035, b1036⟩ ⟨b1055.1, b1055.2⟩ (fun c1057 => ?_) (fun c1057 => ?_))
      · refine wp_of e76 c76_28 (rw_iload_n (pc' := 29) (z := H r1032 (a1.toNat)) rfl rfl ?_)
        refine wp_of e76 c76_29 (rw_iload_n (pc' := 30) (z := a2) rfl rfl ?_)
        refine wp_of e76 c76_30 (rw_iconst (pc' := 31) rfl ?_)
        refine wp_of e76 c76_31 (rw_isub (pc' := 32) rfl ?_)
        refine wp_of e76 c76_32 (rw_icmp_eq (p1 := 47) (p2 := 35) (by decide) rfl ⟨b1035, b1036⟩ ⟨by omega, by omega⟩ (fun c1058 => ?_) (fun c1058 => ?_))
        · refine wp_of e76 c76_47 (rw_iconst (pc' := 48) rfl ?_)
          refine wp_of e76 c76_48 (rw_goto (p1 := 52) (by decide) ?_)
          have _z : (1 : Int) = xvc (e 13 (a1).toNat) a2 (d 0 1) := by
            unfold xvc xvo
            repeat first | rw [if_pos (Int.le_antisymm (by omega -splitDisjunctions) (by omega -splitDisjunctions))] | rw [if_pos (by omega -splitDisjunctions)] | rw [if_pos (And.intro (by omega -splitDisjunctions) (by omega -splitDisjunctions))] | rw [if_neg (by omega -splitDisjunctions)] | rw [if_neg (by omega)] | rw [if_pos (by omega)]
            first | done | rfl | (exfalso; omega)
          exact wp_ireturn e76 c76_52 rfl ⟨rfl, rfl, 1, rfl, ⟨by decide, by decide⟩, (_z)⟩
        · refine wp_of e76 c76_35 (rw_iload_n (pc' := 36) (z := H r1032 (a1.toNat)) rfl rfl ?_)
          refine wp_of e76 c76_36 (rw_iload_n (pc' := 37) (z := a2) rfl rfl ?_)
          refine wp_of e76 c76_37 (rw_aload_n (pc' := 38) (v := .ref r0) rfl rfl rfl ?_)
          refine wp_of e76 c76_38 (xg_I (pc' := 41) lf_7_44 hW g0 sh_27 (by decide) (by decide) ty_27_8 rfl rfl (fun b1059 b1060 => ?_))
          refine wp_of e76 c76_41 (rw_iaddw (pc' := 42) rfl ?_)
          obtain ⟨v1061, e1062⟩ : ∃ x : Int, x = wq_w (a2 + (H r0 8)) := ⟨_, rfl⟩
          rw [← e1062]
          have b1063 : -2147483648 ≤ v1061 ∧ v1061 ≤ 2147483647 := by
            rw [e1062]
            exact wI_w _
          have b1064 : (-2147483648 ≤ a2 + (H r0 8) ∧ a2 + (H r0 8) ≤ 2147483647) → v1061 = a2 + (H r0 8) := fun h => by rw [e1062]; exact wq_w_id h
          refine wp_of e76 c76_42 (rw_iconst (pc' := 43) rfl ?_)
          refine wp_of e76 c76_43 (rw_iaddw (pc' := 44) rfl ?_)
          obtain ⟨v1065, e1066⟩ : ∃ x : Int, x = wq_w (v1061 + 1) := ⟨_, rfl⟩
          rw [← e1066]
          have b1067 : -2147483648 ≤ v1065 ∧ v1065 ≤ 2147483647 := by
            rw [e1066]
            exact wI_w _
          have b1068 : (-2147483648 ≤ v1061 + 1 ∧ v1061 + 1 ≤ 2147483647) → v1065 = v1061 + 1 := fun h => by rw [e1066]; exact wq_w_id h
          refine wp_of e76 c76_44 (rw_icmp_ne (p1 := 51) (p2 := 47) (by decide) rfl ⟨b1035, b1036⟩ ⟨b1067.1, b1067.2⟩ (fun c1069 => ?_) (fun c1069 => ?_))
          · refine wp_of e76 c76_51 (rw_iconst (pc' := 52) rfl ?_)
            have _z : (2 : Int) = xvc (e 13 (a1).toNat) a2 (d 0 1) := by
              unfold xvc xvo
              repeat first | rw [if_pos (Int.le_antisymm (by omega -splitDisjunctions) (by omega -splitDisjunctions))] | rw [if_pos (by omega -splitDisjunctions)] | rw [if_pos (And.intro (by omega -splitDisjunctions) (by omega -splitDisjunctions))] | rw [if_neg (by omega -splitDisjunctions)] | rw [if_neg (by omega)] | rw [if_pos (by omega)]
              first | done | rfl | (exfalso; omega)
            exact wp_ireturn e76 c76_52 rfl ⟨rfl, rfl, 2, rfl, ⟨by decide, by decide⟩, (_z)⟩
          · refine wp_of e76 c76_47 (rw_iconst (pc' := 48) rfl ?_)
            refine wp_of e76 c76_48 (rw_goto (p1 := 52) (by decide) ?_)
            have _z : (1 : Int) = xvc (e 13 (a1).toNat) a2 (d 0 1) := by
              unfold xvc xvo
              repeat first | rw [if_pos (Int.le_antisymm (by omega -splitDisjunctions) (by omega -splitDisjunctions))] | rw [if_pos (by omega -splitDisjunctions)] | rw [if_pos (And.intro (by omega -splitDisjunctions) (by omega -splitDisjunctions))] | rw [if_neg (by omega -splitDisjunctions)] | rw [if_neg (by omega)] | rw [if_pos (by omega)]
              first | done | rfl | (exfalso; omega)
            exact wp_ireturn e76 c76_52 rfl ⟨rfl, rfl, 1, rfl, ⟨by decide, by decide⟩, (_z)⟩
      · refine wp_of e76 c76_26 (rw_iconst (pc' := 27) rfl ?_)
        have _z : (0 : Int) = xvc (e 13 (a1).toNat) a2 (d 0 1) := by
          unfold xvc xvo
          repeat first | rw [if_pos (Int.le_antisymm (by omega -splitDisjunctions) (by omega -splitDisjunctions))] | rw [if_pos (by omega -splitDisjunctions)] | rw [if_pos (And.intro (by omega -splitDisjunctions) (by omega -splitDisjunctions))] | rw [if_neg (by omega -splitDisjunctions)] | rw [if_neg (by omega)] | rw [if_pos (by omega)]
          first | done | rfl | (exfalso; omega)
        exact wp_ireturn e76 c76_27 rfl ⟨rfl, rfl, 0, rfl, ⟨by decide, by decide⟩, (_z)⟩
/-! StrikeAwake$Walk.failsIn(LStrikeAwake$Parish;)I  -/
abbrev uq_81 (r0 : Nat) (r1 : Nat) (e : xD) (d : xD) (n : Int) (g : Nat → Int) (T : wq_T) (H : wq_H) : Option Value → wq_T → wq_H → Prop := fun r T' H' => T = T' ∧ H = H' ∧ ∃ z : Int, some (vI z) = r ∧ (0 ≤ z ∧ z ≤ 24) ∧ (((XFB (xvy e d g) (d 0 2) 24 z)))
set_option maxHeartbeats 4000000 in
theorem u_81 {kt : Nat → Option mc_E} {T : wq_T} {H : wq_H} {r0 : Nat} {r1 : Nat} {e : xD} {d : xD} {n : Int} {g : Nat → Int} (hW : WT T H) (g0 : T.2.2.2 r0 = some 6) (g1 : T.2.2.2 r1 = some 27) (p0 : ∀ i, i ≠ 13 → e i = d i) (p1 : XW d) (p2 : e 0 3 = d 0 3) (p3 : e 0 0 = d 0 0) (hCU_r1 : CU T H r1 e d n) (hWR_r0 : WR T H r0 d g) : wpc kt 2 81 [.ref r0, .ref r1] T H (uq_81 r0 r1 e d n g T H) := by
  refine wp_enter e81 (Nat.le_of_ble_eq_true rfl) rfl ?_
  show wp _ _ 81 0 [(0, .ref r0), (1, .ref r1)] [] _ H _
  have u1387 := CU_k hCU_r1
  have b1388 : 0 ≤ H r1 16 ∧ H r1 16 ≤ 24 := hW.box g1 (n := 19) rfl (by decide) rfl
  have b1389 : (-2147483648) ≤ H r1 9 ∧ H r1 9 ≤ 2147483647 := hW.box g1 (n := 19) rfl (by decide) rfl
  have h1390 : ST T H r1 (e 13) := hCU_r1.1.2.2.1
  have h1391 : SV T H r1 (e 13) 24 := hCU_r1.1.2.2.2.1
  have _k := CU_k hCU_r1
  have _xc := p1.2.1
  unfold XC at _xc
  have _d0 := p0 0 (by decide)
  have _e3 : e 0 3 = d 0 3 := by rw [_d0]
  have _e4 : e 0 4 = d 0 4 := by rw [_d0]
  have _e5 : e 0 5 = d 0 5 := by rw [_d0]
  have _w5 := hWR_r0.1
  have _e2 : e 0 2 = d 0 2 := by rw [_d0]
  have _o2 := hCU_r1.1.1.2.2.1
  have _c16 := hCU_r1.1.1.2.2.2.2.2.2.2.2.2.2.2.1
  refine wp_of e81 c81_0 (rw_iconst (pc' := 1) rfl ?_)
  refine wp_of e81 c81_1 (rw_istore_n (pc' := 2) (z := 0) (L' := [(2, vI 0), (0, .ref r0), (1, .ref r1)]) rfl rfl rfl ?_)
  refine wp_of e81 c81_2 (rw_iconst (pc' := 3) rfl ?_)
  refine wp_of e81 c81_3 (rw_istore_n (pc' := 4) (z := 0) (L' := [(3, vI 0), (2, vI 0), (0, .ref r0), (1, .ref r1)]) rfl rfl rfl ?_)
  have lp1736 : ∀ (n1737 : Nat) (v1739 : Int) (v1740 : Int) (u1741 : Nat), (0 ≤ v1739 ∧ v1739 ≤ 24) → (0 ≤ v1740 ∧ v1740 ≤ 24) → (v1740 ≤ v1739) → (u1741 ≤ 24) → (xcn (e 13) u1741 = v1739) → (v1740 ≤ d 0 2) → (v1740 = xco (xvy e d g) u1741) → (∀ h : Nat, h < u1741 → xbad (xvy e d g) (d 0 2) h = false) → (24 - v1739).toNat = n1737 → wp kt 1 81 4 [(3, vI v1739), (2, vI v1740), (0, .ref r0), (1, .ref r1)] [] T H (uq_81 r0 r1 e d n g T H) := by
    intro n1737
    induction n1737 using Nat.strongRecOn with
    | _ n1737 ih1738 =>
      intro v1739 v1740 u1741 b1744 b1745 x1747 x1748 x1749 x1750 x1751 x1752 m1746
      refine wp_of e81 c81_4 (rw_iload_n (pc' := 5) (z := v1739) rfl rfl ?_)
      refine wp_of e81 c81_5 (rw_aload_n (pc' := 6) (v := .ref r1) rfl rfl rfl ?_)
      refine wp_of e81 c81_6 (xg_I (pc' := 9) lf_3_109 hW g1 sh_27 (by decide) (by decide) ty_27_16 rfl rfl (fun b1753 b1754 => ?_))
      refine wp_of e81 c81_9 (rw_icmp_ge (p1 := 66) (p2 := 12) (by decide) rfl ⟨Int.le_trans (by decide) b1744.1, Int.le_trans b1744.2 (by decide)⟩ ⟨Int.le_trans (by decide) b1753, Int.le_trans b1754 (by decide)⟩ (fun c1755 => ?_) (fun c1755 => ?_))
      · refine wp_of e81 c81_66 (rw_bipush (pc' := 68) (z := 24) rfl (by decide) ?_)
        have _z : XFB (xvy e d g) (d 0 2) 24 24 := XFB_e (xbad_all (u := u1741) (by assumption) (xbad_gap (fun j p q => xvy_0 (by have := xcn_mono (f := e 13) (m := u1741) j p; have := xcn_lt (f := e 13) (m := j) (n := 24) q; omega)) (by omega)))
        exact wp_ireturn e81 c81_68 rfl ⟨rfl, rfl, 24, rfl, ⟨by decide, by decide⟩, (_z)⟩
      · obtain ⟨h9, _a, _b, _c, _e, _f⟩ := xcn_nx (f := e 13) (u := u1741) 24 (by omega) (by omega)
        have _zq : ∀ j : Nat, u1741 ≤ j → j < h9 → xvy e d g j = 0 := fun j p q => xvy_0 (_f j p q)
        have _xg := xco_gap (q := (xvy e d g)) _a _zq
        have _n : xcn (e 13) (h9 + 1) = xcn (e 13) h9 + 1 := by
          show xcn (e 13) h9 + (if e 13 h9 > 0 then 1 else 0) = _
          rw [if_pos _c]
        have _nb : ∀ h : Nat, h < h9 → xbad (xvy e d g) (d 0 2) h = false := xbad_all (by assumption) (xbad_gap _zq (by omega))
        have _yb := xvy_b (e := e) (d := d) (g := g) (h := h9)
        refine wp_of e81 c81_12 (rw_aload_n (pc' := 13) (v := .ref r1) rfl rfl rfl ?_)
        refine wp_of e81 c81_13 (xg_R (pc' := 16) lf_3_112 hW g1 sh_27 (by decide) (by decide) ty_27_2 rfl rfl (fun r1756 q1757 g1758 => ?_))
        refine wp_of e81 c81_16 (rw_iload_n (pc' := 17) (z := v1739) rfl rfl ?_)
        refine wp_of e81 c81_17 (xa_I (so := 0) (pc' := 18) hW g1758 sh_30 (by decide) (ty_30 _) (b1744.1) (by omega) rfl (fun b1759 b1760 => ?_))
        have _v := SV_at h1391 q1757 (h := h9) (by omega) _c
        rw [show xcn (e 13) h9 = v1739 by omega] at _v
        refine wp_of e81 c81_18 (rw_istore (pc' := 20) (z := H r1756 (v1739.toNat)) (L' := [(4, vI (H r1756 (v1739.toNat))), (3, vI v1739), (2, vI v1740), (0, .ref r0), (1, .ref r1)]) rfl rfl rfl ?_)
        refine wp_of e81 c81_20 (rw_aload_n (pc' := 21) (v := .ref r1) rfl rfl rfl ?_)
        refine wp_of e81 c81_21 (rw_iload (pc' := 23) (z := H r1756 (v1739.toNat)) rfl rfl ?_)
        refine wp_of e81 c81_23 (rw_aload_n (pc' := 24) (v := .ref r0) rfl rfl rfl ?_)
        refine wp_of e81 c81_24 (rw_iload (pc' := 26) (z := H r1756 (v1739.toNat)) rfl rfl ?_)
        refine wp_of e81 c81_26 (xc_V (pc' := 29) (r := r0) (as := [vI (H r1756 (v1739.toNat))]) (st := [vI (H r1756 (v1739.toNat)), .ref r1]) (lm_3_92) rfl rfl (Nat.le_of_ble_eq_true rfl) hW g0 sh_6 (by decide) rfl (by decide) (u_72 (d := d) (g := g) hW g0 ⟨b1759, b1760⟩ (by assumption) hWR_r0) (fun R1761 T1762 H1763 p1764 => ?_))
        obtain ⟨e1765, e1767, z1768, e1766, b1769, p1770⟩ := p1764
        subst e1765
        subst e1766
        subst e1767
        show wp _ _ 81 29 [(4, vI (H r1756 (v1739.toNat))), (3, vI v1739), (2, vI v1740), (0, .ref r0), (1, .ref r1)] [vI z1768, vI (H r1756 (v1739.toNat)), .ref r1] _ H _
        refine wp_of e81 c81_29 (xc_V (pc' := 32) (r := r1) (as := [vI (H r1756 (v1739.toNat)), vI z1768]) (st := []) (lm_3_96) rfl rfl (Nat.le_of_ble_eq_true rfl) hW g1 sh_27 (by decide) rfl (by decide) (u_76 (e := e) (d := d) (n := n) hW g1 ⟨b1759, b1760⟩ ⟨b1769.1, b1769.2⟩ (by assumption) (by assumption) hCU_r1) (fun R1772 T1773 H1774 p1775 => ?_))
        obtain ⟨e1776, e1778, z1779, e1777, b1780, p1781⟩ := p1775
        subst e1776
        subst e1777
        subst e1778
        show wp _ _ 81 32 [(4, vI (H r1756 (v1739.toNat))), (3, vI v1739), (2, vI v1740), (0, .ref r0), (1, .ref r1)] [vI z1779] _ H _
        refine wp_of e81 c81_32 (rw_istore (pc' := 34) (z := z1779) (L' := [(5, vI z1779), (4, vI (H r1756 (v1739.toNat))), (3, vI v1739), (2, vI v1740), (0, .ref r0), (1, .ref r1)]) rfl rfl rfl ?_)
        have _vb : z1779 = xvy e d g h9 := by
          unfold xvy
          have := (‹_ = ((xdue d g ((H r1756 (v1739.toNat))).toNat : Nat) : Int)› : _)
          rw [show h9 = ((H r1756 (v1739.toNat))).toNat by omega, ← this]
          assumption
        have _xs : xco (xvy e d g) (h9 + 1) = xco (xvy e d g) h9 + xvy e d g h9 := rfl
        refine wp_of e81 c81_34 (rw_iload (pc' := 36) (z := z1779) rfl rfl ?_)
        refine wp_of e81 c81_36 (rw_iconst (pc' := 37) rfl ?_)
        refine wp_of e81 c81_37 (rw_icmp_ne (p1 := 43) (p2 := 40) (by decide) rfl ⟨Int.le_trans (by decide) b1780.1, Int.le_trans b1780.2 (by decide)⟩ ⟨by decide, by decide⟩ (fun c1783 => ?_) (fun c1783 => ?_))
        · refine wp_of e81 c81_43 (rw_iload (pc' := 45) (z := z1779) rfl rfl ?_)
          refine wp_of e81 c81_45 (rw_iconst (pc' := 46) rfl ?_)
          refine wp_of e81 c81_46 (rw_icmp_eq (p1 := 57) (p2 := 49) (by decide) rfl ⟨Int.le_trans (by decide) b1780.1, Int.le_trans b1780.2 (by decide)⟩ ⟨by decide, by decide⟩ (fun c1784 => ?_) (fun c1784 => ?_))
          · refine wp_of e81 c81_57 (rw_iload (pc' := 59) (z := H r1756 (v1739.toNat)) rfl rfl ?_)
            have _z : XFB (xvy e d g) (d 0 2) 24 (H r1756 (v1739.toNat)) := XFB_y (k := h9) (by omega) (by omega) (xbad_t (by omega)) _nb
            exact wp_ireturn e81 c81_59 rfl ⟨rfl, rfl, H r1756 (v1739.toNat), rfl, ⟨b1759, Int.le_trans b1760 (by decide)⟩, (_z)⟩
          · refine wp_of e81 c81_49 (rw_iload_n (pc' := 50) (z := v1740) rfl rfl ?_)
            refine wp_of e81 c81_50 (rw_aload_n (pc' := 51) (v := .ref r1) rfl rfl rfl ?_)
            refine wp_of e81 c81_51 (xg_I (pc' := 54) lf_3_115 hW g1 sh_27 (by decide) (by decide) ty_27_9 rfl rfl (fun b1785 b1786 => ?_))
            refine wp_of e81 c81_54 (rw_icmp_le (p1 := 60) (p2 := 57) (by decide) rfl ⟨Int.le_trans (by decide) b1745.1, Int.le_trans b1745.2 (by decide)⟩ ⟨b1785, b1786⟩ (fun c1787 => ?_) (fun c1787 => ?_))
            · have _q : v1740 = xco (xvy e d g) (h9 + 1) := by omega
              have _b2 : ∀ h : Nat, h < h9 + 1 → xbad (xvy e d g) (d 0 2) h = false := fun h hh => by
                by_cases c0 : h = h9
                · subst c0
                  exact xbad_f (by omega) (by omega)
                · exact _nb h (by omega)
              refine wp_of e81 c81_60 (rw_iinc (pc' := 63) (z := v1739) (L' := [(3, vI (v1739 + 1)), (5, vI z1779), (4, vI (H r1756 (v1739.toNat))), (2, vI v1740), (0, .ref r0), (1, .ref r1)]) rfl rfl rfl rfl ?_)
              refine wp_of e81 c81_63 (rw_goto (p1 := 4) (by decide) ?_)
              exact wp_lc (ks := [3, 5, 4, 2, 0, 1]) (wl_c rfl (wl_c rfl (wl_c rfl (wl_c rfl wl_n)))) rfl (by decide) (ih1738 _ (by omega) (v1739 + 1) v1740 ((h9 + 1)) ⟨by omega, by omega⟩ ⟨b1745.1, b1745.2⟩ (by omega) (by omega) (by omega) (by omega) (_q) (_b2) rfl)
            · refine wp_of e81 c81_57 (rw_iload (pc' := 59) (z := H r1756 (v1739.toNat)) rfl rfl ?_)
              have _z : XFB (xvy e d g) (d 0 2) 24 (H r1756 (v1739.toNat)) := XFB_y (k := h9) (by omega) (by omega) (xbad_t (by omega)) _nb
              exact wp_ireturn e81 c81_59 rfl ⟨rfl, rfl, H r1756 (v1739.toNat), rfl, ⟨b1759, Int.le_trans b1760 (by decide)⟩, (_z)⟩
        · refine wp_of e81 c81_40 (rw_iinc (pc' := 43) (z := v1740) (L' := [(2, vI (v1740 + 1)), (5, vI z1779), (4, vI (H r1756 (v1739.toNat))), (3, vI v1739), (0, .ref r0), (1, .ref r1)]) rfl rfl rfl rfl ?_)
          refine wp_of e81 c81_43 (rw_iload (pc' := 45) (z := z1779) rfl rfl ?_)
          refine wp_of e81 c81_45 (rw_iconst (pc' := 46) rfl ?_)
          refine wp_of e81 c81_46 (rw_icmp_eq (p1 := 57) (p2 := 49) (by decide) rfl ⟨Int.le_trans (by decide) b1780.1, Int.le_trans b1780.2 (by decide)⟩ ⟨by decide, by decide⟩ (fun c1788 => ?_) (fun c1788 => ?_))
          · exfalso
            omega
          · refine wp_of e81 c81_49 (rw_iload_n (pc' := 50) (z := v1740 + 1) rfl rfl ?_)
            refine wp_of e81 c81_50 (rw_aload_n (pc' := 51) (v := .ref r1) rfl rfl rfl ?_)
            refine wp_of e81 c81_51 (xg_I (pc' := 54) lf_3_115 hW g1 sh_27 (by decide) (by decide) ty_27_9 rfl rfl (fun b1789 b1790 => ?_))
            refine wp_of e81 c81_54 (rw_icmp_le (p1 := 60) (p2 := 57) (by decide) rfl ⟨by omega, by omega⟩ ⟨b1789, b1790⟩ (fun c1791 => ?_) (fun c1791 => ?_))
            · have _q : (v1740 + 1) = xco (xvy e d g) (h9 + 1) := by omega
              have _b2 : ∀ h : Nat, h < h9 + 1 → xbad (xvy e d g) (d 0 2) h = false := fun h hh => by
                by_cases c0 : h = h9
                · subst c0
                  exact xbad_f (by omega) (by omega)
                · exact _nb h (by omega)
              refine wp_of e81 c81_60 (rw_iinc (pc' := 63) (z := v1739) (L' := [(3, vI (v1739 + 1)), (2, vI (v1740 + 1)), (5, vI z1779), (4, vI (H r1756 (v1739.toNat))), (0, .ref r0), (1, .ref r1)]) rfl rfl rfl rfl ?_)
              refine wp_of e81 c81_63 (rw_goto (p1 := 4) (by decide) ?_)
              exact wp_lc (ks := [3, 2, 5, 4, 0, 1]) (wl_c rfl (wl_c rfl (wl_c rfl (wl_c rfl wl_n)))) rfl (by decide) (ih1738 _ (by omega) (v1739 + 1) (v1740 + 1) ((h9 + 1)) ⟨by omega, by omega⟩ ⟨by omega, by omega⟩ (by omega) (by omega) (by omega) (by omega) (_q) (_b2) rfl)
            · refine wp_of e81 c81_57 (rw_iload (pc' := 59) (z := H r1756 (v1739.toNat)) rfl rfl ?_)
              have _z : XFB (xvy e d g) (d 0 2) 24 (H r1756 (v1739.toNat)) := XFB_y (k := h9) (by omega) (by omega) (xbad_t (by omega)) _nb
              exact wp_ireturn e81 c81_59 rfl ⟨rfl, rfl, H r1756 (v1739.toNat), rfl, ⟨b1759, Int.le_trans b1760 (by decide)⟩, (_z)⟩
  exact wp_lc (ks := [3, 2, 0, 1]) (wl_c rfl (wl_c rfl (wl_c rfl (wl_c rfl wl_n)))) rfl (by decide) (lp1736 _ 0 0 0 ⟨by decide, by decide⟩ ⟨by decide, by decide⟩ (by omega) (by omega) (rfl) (by omega) (rfl) (fun h hh => by omega) rfl)
/-! StrikeAwake$Walk.isQuarrel()Z  -/
abbrev uq_80 (r0 : Nat) (d : xD) (g : Nat → Int) (T : wq_T) (H : wq_H) : Option Value → wq_T → wq_H → Prop := fun r T' H' => T = T' ∧ H = H' ∧ ∃ z : Int, some (vI z) = r ∧ (0 ≤ z ∧ z ≤ 1) ∧ (((z = 1) ∧ (xqu d g (d 0 3).toNat ≠ 0)) ∨ ((z = 0) ∧ (xqu d g (d 0 3).toNat = 0)))
set_option maxHeartbeats 4000000 in
theorem u_80 {kt : Nat → Option mc_E} {T : wq_T} {H : wq_H} {r0 : Nat} {d : xD} {g : Nat → Int} (hW : WT T H) (g0 : T.2.2.2 r0 = some 6) (p0 : XW d) (hWR_r0 : WR T H r0 d g) : wpc kt 1 80 [.ref r0] T H (uq_80 r0 d g T H) := by
  refine wp_enter e80 (Nat.le_of_ble_eq_true rfl) rfl ?_
  show wp _ _ 80 0 [(0, .ref r0)] [] _ H _
  have b1010 : 0 ≤ H r0 5 ∧ H r0 5 ≤ 6 := hW.box g0 (n := 6) rfl (by decide) rfl
  have h1011 : WP4 T H r0 (d 0 3 + 1) (xqu d g) := hWR_r0.2.2.2.2.2
  have _xc := p0.2.1
  unfold XC at _xc
  have _w5 := hWR_r0.1
  refine wp_of e80 c80_0 (rw_aload_n (pc' := 1) (v := .ref r0) rfl rfl rfl ?_)
  refine wp_of e80 c80_1 (xg_R (pc' := 4) lf_3_25 hW g0 sh_6 (by decide) (by decide) ty_6_4 rfl rfl (fun r1012 q1013 g1014 => ?_))
  refine wp_of e80 c80_4 (rw_aload_n (pc' := 5) (v := .ref r0) rfl rfl rfl ?_)
  refine wp_of e80 c80_5 (xg_I (pc' := 8) lf_3_51 hW g0 sh_6 (by decide) (by decide) ty_6_5 rfl rfl (fun b1015 b1016 => ?_))
  refine wp_of e80 c80_8 (xa_I (so := 0) (pc' := 9) hW g1014 sh_11 (by decide) (ty_11 _) (b1015) (Int.lt_of_le_of_lt b1016 (by decide)) rfl (fun b1017 b1018 => ?_))
  have b1017 := Int.le_trans (wq0_b _) b1017
  have b1018 := Int.le_trans b1018 (wq1_b _)
  have := DA_at h1011 q1013 (k := ((H r0 5).toNat)) (by omega)
  have _i5 : ((H r0 5).toNat) = (d 0 3).toNat := by omega
  have _i6 : xqu d g ((H r0 5).toNat) = xqu d g (d 0 3).toNat := congrArg (xqu d g) _i5
  have _qb := @xqu_b d g (d 0 3).toNat
  refine wp_of e80 c80_9 (rw_if_eq (p1 := 16) (p2 := 12) (by decide) rfl ⟨b1017, b1018⟩ (fun c1019 => ?_) (fun c1019 => ?_))
  · refine wp_of e80 c80_16 (rw_iconst (pc' := 17) rfl ?_)
    exact wp_zreturn e80 c80_17 rfl (by omega) ⟨rfl, rfl, 0, rfl, ⟨by decide, by decide⟩, (Or.inr ⟨by omega, by omega⟩)⟩
  · refine wp_of e80 c80_12 (rw_iconst (pc' := 13) rfl ?_)
    refine wp_of e80 c80_13 (rw_goto (p1 := 17) (by decide) ?_)
    exact wp_zreturn e80 c80_17 rfl (by omega) ⟨rfl, rfl, 1, rfl, ⟨by decide, by decide⟩, (Or.inl ⟨by omega, by omega⟩)⟩
/-! StrikeAwake$Walk.isWorld(LStrikeAwake$Parish;)Z  -/
abbrev uq_79 (r0 : Nat) (r1 : Nat) (e : xD) (d : xD) (n : Int) (g : Nat → Int) (T : wq_T) (H : wq_H) : Option Value → wq_T → wq_H → Prop := fun r T' H' => T = T' ∧ H = H' ∧ ∃ z : Int, some (vI z) = r ∧ (0 ≤ z ∧ z ≤ 1) ∧ (((z = xwo e d g)))
set_option maxHeartbeats 4000000 in
theorem u_79 {kt : Nat → Option mc_E} {T : wq_T} {H : wq_H} {r0 : Nat} {r1 : Nat} {e : xD} {d : xD} {n : Int} {g : Nat → Int} (hW : WT T H) (g0 : T.2.2.2 r0 = some 6) (g1 : T.2.2.2 r1 = some 27) (p0 : ∀ i, i ≠ 13 → e i = d i) (p1 : XW d) (p2 : e 0 3 = d 0 3) (p3 : e 0 0 = d 0 0) (hCU_r1 : CU T H r1 e d n) (hWR_r0 : WR T H r0 d g) : wpc kt 3 79 [.ref r0, .ref r1] T H (uq_79 r0 r1 e d n g T H) := by
  refine wp_enter e79 (Nat.le_of_ble_eq_true rfl) rfl ?_
  show wp _ _ 79 0 [(0, .ref r0), (1, .ref r1)] [] _ H _
  have u1029 := CU_k hCU_r1
  have _k := CU_k hCU_r1
  have _xc := p1.2.1
  unfold XC at _xc
  have _d0 := p0 0 (by decide)
  have _e3 : e 0 3 = d 0 3 := by rw [_d0]
  have _e4 : e 0 4 = d 0 4 := by rw [_d0]
  have _e5 : e 0 5 = d 0 5 := by rw [_d0]
  have _w5 := hWR_r0.1
  refine wp_of e79 c79_0 (rw_aload_n (pc' := 1) (v := .ref r0) rfl rfl rfl ?_)
  refine wp_of e79 c79_1 (xc_V (pc' := 4) (r := r0) (as := []) (st := []) (lm_3_118) rfl rfl (Nat.le_of_ble_eq_true rfl) hW g0 sh_6 (by decide) rfl (by decide) (u_80 (d := d) (g := g) hW g0 (by assumption) hWR_r0) (fun R1030 T1031 H1032 p1033 => ?_))
  obtain ⟨e1034, e1036, z1037, e1035, b1038, p1039⟩ := p1033
  subst e1034
  subst e1035
  subst e1036
  rcases p1039 with ⟨a1040, a1041⟩ | ⟨a1042, a1043⟩
  · show wp _ _ 79 4 [(0, .ref r0), (1, .ref r1)] [vI z1037] _ H _
    refine wp_of e79 c79_4 (rw_if_ne (p1 := 21) (p2 := 7) (by decide) rfl ⟨Int.le_trans (by decide) b1038.1, Int.le_trans b1038.2 (by decide)⟩ (fun c1044 => ?_) (fun c1044 => ?_))
    · refine wp_of e79 c79_21 (rw_iconst (pc' := 22) rfl ?_)
      have _z : (0 : Int) = xwo e d g := by first | omega | exact (xwo_q (by assumption)).symm
      exact wp_zreturn e79 c79_22 rfl (by omega) ⟨rfl, rfl, 0, rfl, ⟨by decide, by decide⟩, (_z)⟩
    · exfalso
      omega
  · show wp _ _ 79 4 [(0, .ref r0), (1, .ref r1)] [vI z1037] _ H _
    refine wp_of e79 c79_4 (rw_if_ne (p1 := 21) (p2 := 7) (by decide) rfl ⟨Int.le_trans (by decide) b1038.1, Int.le_trans b1038.2 (by decide)⟩ (fun c1045 => ?_) (fun c1045 => ?_))
    · exfalso
      omega
    · refine wp_of e79 c79_7 (rw_aload_n (pc' := 8) (v := .ref r0) rfl rfl rfl ?_)
      refine wp_of e79 c79_8 (rw_aload_n (pc' := 9) (v := .ref r1) rfl rfl rfl ?_)
      refine wp_of e79 c79_9 (xc_V (pc' := 12) (r := r0) (as := [.ref r1]) (st := []) (lm_3_122) rfl rfl (Nat.le_of_ble_eq_true rfl) hW g0 sh_6 (by decide) rfl (by decide) (u_81 (e := e) (d := d) (n := n) (g := g) hW g0 g1 (by assumption) (by assumption) (by omega) (by omega) hCU_r1 hWR_r0) (fun R1046 T1047 H1048 p1049 => ?_))
      obtain ⟨e1050, e1052, z1053, e1051, b1054, p1055⟩ := p1049
      subst e1050
      subst e1051
      subst e1052
      show wp _ _ 79 12 [(0, .ref r0), (1, .ref r1)] [vI z1053] _ H _
      refine wp_of e79 c79_12 (rw_bipush (pc' := 14) (z := 24) rfl (by decide) ?_)
      have _w := xwo_f (e := e) (d := d) (g := g) (by assumption) (by assumption : XFB (xvy e d g) (d 0 2) 24 z1053)
      refine wp_of e79 c79_14 (rw_icmp_ne (p1 := 21) (p2 := 17) (by decide) rfl ⟨Int.le_trans (by decide) b1054.1, Int.le_trans b1054.2 (by decide)⟩ ⟨by decide, by decide⟩ (fun c1057 => ?_) (fun c1057 => ?_))
      · refine wp_of e79 c79_21 (rw_iconst (pc' := 22) rfl ?_)
        have _z : (0 : Int) = xwo e d g := by first | omega | exact (xwo_q (by assumption)).symm
        exact wp_zreturn e79 c79_22 rfl (by omega) ⟨rfl, rfl, 0, rfl, ⟨by decide, by decide⟩, (_z)⟩
      · refine wp_of e79 c79_17 (rw_iconst (pc' := 18) rfl ?_)
        refine wp_of e79 c79_18 (rw_goto (p1 := 22) (by decide) ?_)
        have _z : (1 : Int) = xwo e d g := by first | omega | exact (xwo_q (by assumption)).symm
        exact wp_zreturn e79 c79_22 rfl (by omega) ⟨rfl, rfl, 1, rfl, ⟨by decide, by decide⟩, (_z)⟩
