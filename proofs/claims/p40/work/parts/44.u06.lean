/-! what methods do (own work, written by wip/gen3/sx3.py) -/
/-! StrikeAwake$Walk.tallyOf(I)J  -/
abbrev uq_49 (a0 : Int) (T : wq_T) (H : wq_H) : Option Value → wq_T → wq_H → Prop := fun r T' H' => T = T' ∧ H = H' ∧ ∃ z : Int, some (vL z) = r ∧ ((-9223372036854775808) ≤ z ∧ z ≤ 9223372036854775807) ∧ (((z = xtal a0 12)))
set_option maxHeartbeats 4000000 in
theorem u_49 {kt : Nat → Option mc_E} {T : wq_T} {H : wq_H} {a0 : Int} (hW : WT T H) (i0 : (-2147483648) ≤ a0 ∧ a0 ≤ 2147483647) : wpc kt 1 49 [vI a0] T H (uq_49 a0 T H) := by
  refine wp_enter e49 (Nat.le_of_ble_eq_true rfl) rfl ?_
  show wp _ _ 49 0 [(0, vI a0)] [] _ H _
  refine wp_of e49 c49_0 (rw_lconst (pc' := 1) (z := 0) rfl rfl ?_)
  refine wp_of e49 c49_1 (rw_lstore_n (pc' := 2) (z := 0) (L' := [(1, vL 0), (0, vI a0)]) rfl rfl rfl ?_)
  refine wp_of e49 c49_2 (rw_iconst (pc' := 3) rfl ?_)
  refine wp_of e49 c49_3 (rw_istore_n (pc' := 4) (z := 0) (L' := [(3, vI 0), (1, vL 0), (0, vI a0)]) rfl rfl rfl ?_)
  have lp1155 : ∀ (n1156 : Nat) (v1158 : Int) (v1159 : Int), (0 ≤ v1158 ∧ v1158 ≤ 12) → ((-9223372036854775808) ≤ v1159 ∧ v1159 ≤ 9223372036854775807) → (v1159 = xtal a0 (v1158).toNat) → (12 - v1158).toNat = n1156 → wp kt 0 49 4 [(3, vI v1158), (1, vL v1159), (0, vI a0)] [] T H (uq_49 a0 T H) := by
    intro n1156
    induction n1156 using Nat.strongRecOn with
    | _ n1156 ih1157 =>
      intro v1158 v1159 b1162 b1163 x1164 m1165
      refine wp_of e49 c49_4 (rw_iload_n (pc' := 5) (z := v1158) rfl rfl ?_)
      refine wp_of e49 c49_5 (rw_bipush (pc' := 7) (z := 12) rfl (by decide) ?_)
      refine wp_of e49 c49_7 (rw_icmp_ge (p1 := 29) (p2 := 10) (by decide) rfl ⟨Int.le_trans (by decide) b1162.1, Int.le_trans b1162.2 (by decide)⟩ ⟨by decide, by decide⟩ (fun c1166 => ?_) (fun c1166 => ?_))
      · have _t : v1159 = xtal a0 12 := by
          have e : (v1158).toNat = 12 := by omega
          rw [← e]
          assumption
        refine wp_of e49 c49_29 (rw_lload_n (pc' := 30) (z := v1159) rfl rfl ?_)
        exact wp_lreturn e49 c49_30 rfl ⟨rfl, rfl, v1159, rfl, ⟨b1163.1, b1163.2⟩, (by omega)⟩
      · refine wp_of e49 c49_10 (rw_lload_n (pc' := 11) (z := v1159) rfl rfl ?_)
        refine wp_of e49 c49_11 (rw_iload_n (pc' := 12) (z := a0) rfl rfl ?_)
        refine wp_of e49 c49_12 (rw_iload_n (pc' := 13) (z := v1158) rfl rfl ?_)
        refine wp_of e49 c49_13 (rw_ishr (pc' := 14) rfl ?_)
        obtain ⟨v1167, e1168⟩ : ∃ x : Int, x = wq_shr a0 v1158 := ⟨_, rfl⟩
        rw [← e1168]
        have b1169 : -2147483648 ≤ v1167 ∧ v1167 ≤ 2147483647 := by
          rw [e1168]
          exact wI_shr _ _
        refine wp_of e49 c49_14 (rw_i2l (pc' := 15) rfl ⟨b1169.1, b1169.2⟩ ?_)
        refine wp_of e49 c49_15 (rw_lconst (pc' := 16) (z := 1) rfl rfl ?_)
        refine wp_of e49 c49_16 (rw_land (pc' := 17) rfl ?_)
        obtain ⟨v1170, e1171⟩ : ∃ x : Int, x = wl_and v1167 1 := ⟨_, rfl⟩
        rw [← e1171]
        have b1172 : -9223372036854775808 ≤ v1170 ∧ v1170 ≤ 9223372036854775807 := by
          rw [e1171]
          exact wL_and _ _
        refine wp_of e49 c49_17 (rw_iload_n (pc' := 18) (z := v1158) rfl rfl ?_)
        refine wp_of e49 c49_18 (rw_iconst (pc' := 19) rfl ?_)
        refine wp_of e49 c49_19 (rw_imul (pc' := 20) rfl ?_)
        refine wp_of e49 c49_20 (rw_lshl (pc' := 21) rfl ?_)
        obtain ⟨v1173, e1174⟩ : ∃ x : Int, x = wl_shl v1170 (v1158 * 4) := ⟨_, rfl⟩
        rw [← e1174]
        have b1175 : -9223372036854775808 ≤ v1173 ∧ v1173 ≤ 9223372036854775807 := by
          rw [e1174]
          exact wL_shl _ _
        refine wp_of e49 c49_21 (rw_lor (pc' := 22) rfl ?_)
        obtain ⟨v1176, e1177⟩ : ∃ x : Int, x = wl_or v1159 v1173 := ⟨_, rfl⟩
        rw [← e1177]
        have b1178 : -9223372036854775808 ≤ v1176 ∧ v1176 ≤ 9223372036854775807 := by
          rw [e1177]
          exact wL_or _ _
        refine wp_of e49 c49_22 (rw_lstore_n (pc' := 23) (z := v1176) (L' := [(1, vL v1176), (3, vI v1158), (0, vI a0)]) rfl rfl rfl ?_)
        refine wp_of e49 c49_23 (rw_iinc (pc' := 26) (z := v1158) (L' := [(3, vI (v1158 + 1)), (1, vL v1176), (0, vI a0)]) rfl rfl rfl rfl ?_)
        refine wp_of e49 c49_26 (rw_goto (p1 := 4) (by decide) ?_)
        have : v1176 = xtal a0 (v1158 + 1).toNat := by
          rw [xtal_s (by omega), e1177, e1174, e1171, e1168, ‹v1159 = xtal a0 (v1158).toNat›]
        exact wp_lc (ks := [3, 1, 0]) (wl_c rfl (wl_c rfl (wl_c rfl wl_n))) rfl (by decide) (ih1157 _ (by omega) (v1158 + 1) v1176 ⟨by omega, by omega⟩ ⟨b1178.1, b1178.2⟩ (by omega) rfl)
  have : (0 : Int) = xtal a0 (0 : Int).toNat := rfl
  exact wp_lc (ks := [3, 1, 0]) (wl_c rfl (wl_c rfl (wl_c rfl wl_n))) rfl (by decide) (lp1155 _ 0 0 ⟨by decide, by decide⟩ ⟨by decide, by decide⟩ (by omega) rfl)
/-! StrikeAwake$Person.addSpan(IIII)V  -/
abbrev uq_48 (r0 : Nat) (a1 : Int) (a2 : Int) (a3 : Int) (a4 : Int) (d : xD) (k : Nat) (P : List (Int × Int)) (y1 : Int) (y2 : Int) (T : wq_T) (H : wq_H) : Option Value → wq_T → wq_H → Prop := fun r T' H' => T = T' ∧ WT T H' ∧ wfr [(35, 15), (38, 999), (39, 999), (36, 999), (40, 999), (41, 999), (37, 999)] T H H' ∧ none = r ∧ ((PS T H' r0 d k (P ++ [(y1, y2)])))
set_option maxHeartbeats 4000000 in
theorem u_48 {kt : Nat → Option mc_E} {T : wq_T} {H : wq_H} {r0 : Nat} {a1 : Int} {a2 : Int} {a3 : Int} {a4 : Int} {d : xD} {k : Nat} {P : List (Int × Int)} {y1 : Int} {y2 : Int} (hW : WT T H) (g0 : T.2.2.2 r0 = some 35) (i1 : (-1) ≤ a1 ∧ a1 ≤ 24) (i2 : (-1) ≤ a2 ∧ a2 ≤ 24) (i3 : (-2147483648) ≤ a3 ∧ a3 ≤ 2147483647) (i4 : (-2147483648) ≤ a4 ∧ a4 ≤ 2147483647) (p0 : a1 = y1) (p1 : a2 = y2) (p2 : (P.length : Int) ≤ 39) (p3 : a3 = xas d k (y1, y2)) (p4 : a4 = xwk d k (y1, y2)) (hPS_r0 : PS T H r0 d k P) : wpc kt 2 48 [.ref r0, vI a1, vI a2, vI a3, vI a4] T H (uq_48 r0 a1 a2 a3 a4 d k P y1 y2 T H) := by
  refine wp_enter e48 (Nat.le_of_ble_eq_true rfl) rfl ?_
  have f0 : wfr [(35, 15), (38, 999), (39, 999), (36, 999), (40, 999), (41, 999), (37, 999)] T H H := wfr.rf
  show wp _ _ 48 0 [(0, .ref r0), (1, vI a1), (2, vI a2), (3, vI a3), (4, vI a4)] [] _ H _
  have h1101 : PA0 T H r0 (P.length : Int) (xr1 P) := hPS_r0.2.1
  have h1102 : PA1 T H r0 (P.length : Int) (xr2 P) := hPS_r0.2.2.1
  have h1103 : PA2 T H r0 (P.length : Int) (xr3 d k P) := hPS_r0.2.2.2.1
  have h1104 : PA3 T H r0 (P.length : Int) (xr4 d k P) := hPS_r0.2.2.2.2.1
  have h1105 : PA4 T H r0 (P.length : Int) (xr5 d k P) := hPS_r0.2.2.2.2.2.1
  have h1106 : PA5 T H r0 (P.length : Int) (xr6 d k P) := hPS_r0.2.2.2.2.2.2
  have _n := hPS_r0.1
  have _g := @getD_ap P (y1, y2)
  refine wp_of e48 c48_0 (rw_aload_n (pc' := 1) (v := .ref r0) rfl rfl rfl ?_)
  refine wp_of e48 c48_1 (xg_I (pc' := 4) lf_8_49 hW g0 sh_35 (by decide) (by decide) ty_35_15 rfl rfl (fun b1107 b1108 => ?_))
  refine wp_of e48 c48_4 (rw_bipush (pc' := 6) (z := 40) rfl (by decide) ?_)
  refine wp_of e48 c48_6 (rw_icmp_lt (p1 := 10) (p2 := 9) (by decide) rfl ⟨Int.le_trans (by decide) b1107, Int.le_trans b1108 (by decide)⟩ ⟨by decide, by decide⟩ (fun c1109 => ?_) (fun c1109 => ?_))
  · refine wp_of e48 c48_10 (rw_aload_n (pc' := 11) (v := .ref r0) rfl rfl rfl ?_)
    refine wp_of e48 c48_11 (xg_R (pc' := 14) lf_8_9 hW g0 sh_35 (by decide) (by decide) ty_35_0 rfl rfl (fun r1110 q1111 g1112 => ?_))
    refine wp_of e48 c48_14 (rw_aload_n (pc' := 15) (v := .ref r0) rfl rfl rfl ?_)
    refine wp_of e48 c48_15 (xg_I (pc' := 18) lf_8_49 hW g0 sh_35 (by decide) (by decide) ty_35_15 rfl rfl (fun b1113 b1114 => ?_))
    refine wp_of e48 c48_18 (rw_iload_n (pc' := 19) (z := a1) rfl rfl ?_)
    refine wp_of e48 c48_19 (xs_I (pc' := 20) hW g1112 (by decide) sh_36 (by decide) (ty_36 _) (i1.1) (i1.2) ⟨Int.le_trans (by decide) i1.1, Int.le_trans i1.2 (by decide)⟩ (b1113) (by omega) rfl (fun H1115 e1116 w1117 => ?_))
    have f1118 := f0.put' e1116 g1112 rfl
    have h1119 : PA0 T H1115 r0 ((P.length : Int) + 1) (xr1 (P ++ [(y1, y2)])) := DAo_put h1101 q1111 g0 g1112 (by decide) e1116 (k := ((H r0 15).toNat)) (by omega) rfl (by
      rw [show ((H r0 15).toNat) = P.length by omega]
      show ((P ++ [(y1, y2)]).getD P.length (0, 0)).1 = _
      rw [_g.1]
      omega) (fun j hj => by
      show ((P ++ [(y1, y2)]).getD j (0, 0)).1 = (P.getD j (0, 0)).1
      rw [_g.2 j (by omega)])
    refine wp_of e48 c48_20 (rw_aload_n (pc' := 21) (v := .ref r0) rfl rfl rfl ?_)
    refine wp_of e48 c48_21 (xg_R (pc' := 24) lf_8_15 w1117 g0 sh_35 (by decide) (by decide) ty_35_1 rfl rfl (fun r1120 q1121 g1122 => ?_))
    refine wp_of e48 c48_24 (rw_aload_n (pc' := 25) (v := .ref r0) rfl rfl rfl ?_)
    have k1123 : H1115 r0 15 = H r0 15 := (wq_u_t e1116 g1112 g0 rfl 15)
    refine wp_of e48 c48_25 (xg_I (pc' := 28) lf_8_49 w1117 g0 sh_35 (by decide) (by decide) ty_35_15 rfl rfl (fun b1124 b1125 => ?_))
    refine wp_of e48 c48_28 (rw_iload_n (pc' := 29) (z := a2) rfl rfl ?_)
    have h1126 : PA1 T H1115 r0 (P.length : Int) (xr2 P) := (PA1_fr hW g0 ((wfr.rf (l := [(36, 999)])).put' e1116 g1112 rfl) rfl h1102)
    refine wp_of e48 c48_29 (xs_I (pc' := 30) w1117 g1122 (by decide) sh_37 (by decide) (ty_37 _) (i2.1) (i2.2) ⟨Int.le_trans (by decide) i2.1, Int.le_trans i2.2 (by decide)⟩ (b1124) (by omega) rfl (fun H1127 e1128 w1129 => ?_))
    have f1130 := f1118.put' e1128 g1122 rfl
    have h1131 : PA1 T H1127 r0 ((P.length : Int) + 1) (xr2 (P ++ [(y1, y2)])) := DAo_put h1126 q1121 g0 g1122 (by decide) e1128 (k := ((H1115 r0 15).toNat)) (by omega) rfl (by
      rw [show ((H1115 r0 15).toNat) = P.length by omega]
      show ((P ++ [(y1, y2)]).getD P.length (0, 0)).2 = _
      rw [_g.1]
      omega) (fun j hj => by
      show ((P ++ [(y1, y2)]).getD j (0, 0)).2 = (P.getD j (0, 0)).2
      rw [_g.2 j (by omega)])
    refine wp_of e48 c48_30 (rw_aload_n (pc' := 31) (v := .ref r0) rfl rfl rfl ?_)
    refine wp_of e48 c48_31 (xg_R (pc' := 34) lf_8_18 w1129 g0 sh_35 (by decide) (by decide) ty_35_2 rfl rfl (fun r1132 q1133 g1134 => ?_))
    refine wp_of e48 c48_34 (rw_aload_n (pc' := 35) (v := .ref r0) rfl rfl rfl ?_)
    have k1135 : H1127 r0 15 = H1115 r0 15 := (wq_u_t e1128 g1122 g0 rfl 15)
    refine wp_of e48 c48_35 (xg_I (pc' := 38) lf_8_49 w1129 g0 sh_35 (by decide) (by decide) ty_35_15 rfl rfl (fun b1136 b1137 => ?_))
    refine wp_of e48 c48_38 (rw_iload_n (pc' := 39) (z := a3) rfl rfl ?_)
    have h1138 : PA2 T H1127 r0 (P.length : Int) (xr3 d k P) := (PA2_fr w1117 g0 ((wfr.rf (l := [(37, 999)])).put' e1128 g1122 rfl) rfl (PA2_fr hW g0 ((wfr.rf (l := [(36, 999)])).put' e1116 g1112 rfl) rfl h1103))
    refine wp_of e48 c48_39 (xs_I (pc' := 40) w1129 g1134 (by decide) sh_38 (by decide) (ty_38 _) (i3.1) (i3.2) ⟨i3.1, i3.2⟩ (b1136) (by omega) rfl (fun H1139 e1140 w1141 => ?_))
    have f1142 := f1130.put' e1140 g1134 rfl
    have h1143 : PA2 T H1139 r0 ((P.length : Int) + 1) (xr3 d k (P ++ [(y1, y2)])) := DAo_put h1138 q1133 g0 g1134 (by decide) e1140 (k := ((H1127 r0 15).toNat)) (by omega) rfl (by
      rw [show ((H1127 r0 15).toNat) = P.length by omega]
      show xas d k ((P ++ [(y1, y2)]).getD P.length (0, 0)) = _
      rw [_g.1]
      omega) (fun j hj => by
      show xas d k ((P ++ [(y1, y2)]).getD j (0, 0)) = xas d k (P.getD j (0, 0))
      rw [_g.2 j (by omega)])
    refine wp_of e48 c48_40 (rw_aload_n (pc' := 41) (v := .ref r0) rfl rfl rfl ?_)
    refine wp_of e48 c48_41 (xg_R (pc' := 44) lf_8_21 w1141 g0 sh_35 (by decide) (by decide) ty_35_3 rfl rfl (fun r1144 q1145 g1146 => ?_))
    refine wp_of e48 c48_44 (rw_aload_n (pc' := 45) (v := .ref r0) rfl rfl rfl ?_)
    have k1147 : H1139 r0 15 = H1127 r0 15 := (wq_u_t e1140 g1134 g0 rfl 15)
    refine wp_of e48 c48_45 (xg_I (pc' := 48) lf_8_49 w1141 g0 sh_35 (by decide) (by decide) ty_35_15 rfl rfl (fun b1148 b1149 => ?_))
    refine wp_of e48 c48_48 (rw_iload (pc' := 50) (z := a4) rfl rfl ?_)
    have h1150 : PA3 T H1139 r0 (P.length : Int) (xr4 d k P) := (PA3_fr w1129 g0 ((wfr.rf (l := [(38, 999)])).put' e1140 g1134 rfl) rfl (PA3_fr w1117 g0 ((wfr.rf (l := [(37, 999)])).put' e1128 g1122 rfl) rfl (PA3_fr hW g0 ((wfr.rf (l := [(36, 999)])).put' e1116 g1112 rfl) rfl h1104)))
    refine wp_of e48 c48_50 (xs_I (pc' := 51) w1141 g1146 (by decide) sh_39 (by decide) (ty_39 _) (i4.1) (i4.2) ⟨i4.1, i4.2⟩ (b1148) (by omega) rfl (fun H1151 e1152 w1153 => ?_))
    have f1154 := f1142.put' e1152 g1146 rfl
    have h1155 : PA3 T H1151 r0 ((P.length : Int) + 1) (xr4 d k (P ++ [(y1, y2)])) := DAo_put h1150 q1145 g0 g1146 (by decide) e1152 (k := ((H1139 r0 15).toNat)) (by omega) rfl (by
      rw [show ((H1139 r0 15).toNat) = P.length by omega]
      show xwk d k ((P ++ [(y1, y2)]).getD P.length (0, 0)) = _
      rw [_g.1]
      omega) (fun j hj => by
      show xwk d k ((P ++ [(y1, y2)]).getD j (0, 0)) = xwk d k (P.getD j (0, 0))
      rw [_g.2 j (by omega)])
    refine wp_of e48 c48_51 (rw_aload_n (pc' := 52) (v := .ref r0) rfl rfl rfl ?_)
    refine wp_of e48 c48_52 (xg_R (pc' := 55) lf_8_24 w1153 g0 sh_35 (by decide) (by decide) ty_35_4 rfl rfl (fun r1156 q1157 g1158 => ?_))
    refine wp_of e48 c48_55 (rw_aload_n (pc' := 56) (v := .ref r0) rfl rfl rfl ?_)
    have k1159 : H1151 r0 15 = H1139 r0 15 := (wq_u_t e1152 g1146 g0 rfl 15)
    refine wp_of e48 c48_56 (xg_I (pc' := 59) lf_8_49 w1153 g0 sh_35 (by decide) (by decide) ty_35_15 rfl rfl (fun b1160 b1161 => ?_))
    refine wp_of e48 c48_59 (rw_iload (pc' := 61) (z := a4) rfl rfl ?_)
    refine wp_of e48 c48_61 (xc_S (pc' := 64) (as := [vI a4]) (st := [vI (H1151 r0 15), .ref r1156]) (lm_8_78) rfl rfl (Nat.le_of_ble_eq_true rfl) rfl (by decide) (u_49  w1153 ⟨i4.1, i4.2⟩) (fun R1162 T1163 H1164 p1165 => ?_))
    obtain ⟨e1166, e1168, z1169, e1167, b1170, p1171⟩ := p1165
    subst e1166
    subst e1167
    subst e1168
    show wp _ _ 48 64 [(0, .ref r0), (1, vI a1), (2, vI a2), (3, vI a3), (4, vI a4)] [vL z1169, vI (H1151 r0 15), .ref r1156] _ H1151 _
    have h1173 : PA4 T H1151 r0 (P.length : Int) (xr5 d k P) := (PA4_fr w1141 g0 ((wfr.rf (l := [(39, 999)])).put' e1152 g1146 rfl) rfl (PA4_fr w1129 g0 ((wfr.rf (l := [(38, 999)])).put' e1140 g1134 rfl) rfl (PA4_fr w1117 g0 ((wfr.rf (l := [(37, 999)])).put' e1128 g1122 rfl) rfl (PA4_fr hW g0 ((wfr.rf (l := [(36, 999)])).put' e1116 g1112 rfl) rfl h1105))))
    refine wp_of e48 c48_64 (xs_L (pc' := 65) w1153 g1158 (by decide) sh_40 (by decide) (ty_40 _) (b1170.1) (b1170.2) ⟨b1170.1, b1170.2⟩ (b1160) (by omega) rfl (fun H1174 e1175 w1176 => ?_))
    have f1177 := f1154.put' e1175 g1158 rfl
    have h1178 : PA4 T H1174 r0 ((P.length : Int) + 1) (xr5 d k (P ++ [(y1, y2)])) := DAo_put h1173 q1157 g0 g1158 (by decide) e1175 (k := ((H1151 r0 15).toNat)) (by omega) rfl (by
      rw [show ((H1151 r0 15).toNat) = P.length by omega]
      show xtal (xwk d k ((P ++ [(y1, y2)]).getD P.length (0, 0))) 12 = _
      rw [_g.1, ← p4]
      omega) (fun j hj => by
      show xtal (xwk d k ((P ++ [(y1, y2)]).getD j (0, 0))) 12 = xtal (xwk d k (P.getD j (0, 0))) 12
      rw [_g.2 j (by omega)])
    refine wp_of e48 c48_65 (rw_aload_n (pc' := 66) (v := .ref r0) rfl rfl rfl ?_)
    refine wp_of e48 c48_66 (xg_R (pc' := 69) lf_8_28 w1176 g0 sh_35 (by decide) (by decide) ty_35_5 rfl rfl (fun r1179 q1180 g1181 => ?_))
    refine wp_of e48 c48_69 (rw_aload_n (pc' := 70) (v := .ref r0) rfl rfl rfl ?_)
    have k1182 : H1174 r0 15 = H1151 r0 15 := (wq_u_t e1175 g1158 g0 rfl 15)
    refine wp_of e48 c48_70 (xg_I (pc' := 73) lf_8_49 w1176 g0 sh_35 (by decide) (by decide) ty_35_15 rfl rfl (fun b1183 b1184 => ?_))
    refine wp_of e48 c48_73 (rw_iload (pc' := 75) (z := a4) rfl rfl ?_)
    refine wp_of e48 c48_75 (rw_bipush (pc' := 77) (z := 12) rfl (by decide) ?_)
    refine wp_of e48 c48_77 (rw_ishr (pc' := 78) rfl ?_)
    obtain ⟨v1185, e1186⟩ : ∃ x : Int, x = wq_shr a4 12 := ⟨_, rfl⟩
    rw [← e1186]
    have b1187 : -2147483648 ≤ v1185 ∧ v1185 ≤ 2147483647 := by
      rw [e1186]
      exact wI_shr _ _
    refine wp_of e48 c48_78 (xc_S (pc' := 81) (as := [vI v1185]) (st := [vI (H1174 r0 15), .ref r1179]) (lm_8_78) rfl rfl (Nat.le_of_ble_eq_true rfl) rfl (by decide) (u_49  w1176 ⟨b1187.1, b1187.2⟩) (fun R1188 T1189 H1190 p1191 => ?_))
    obtain ⟨e1192, e1194, z1195, e1193, b1196, p1197⟩ := p1191
    subst e1192
    subst e1193
    subst e1194
    show wp _ _ 48 81 [(0, .ref r0), (1, vI a1), (2, vI a2), (3, vI a3), (4, vI a4)] [vL z1195, vI (H1174 r0 15), .ref r1179] _ H1174 _
    have _l : z1195 = xtal (wq_shr a4 12) 12 := by
      rw [← e1186]
      omega
    have h1199 : PA5 T H1174 r0 (P.length : Int) (xr6 d k P) := (PA5_fr w1153 g0 ((wfr.rf (l := [(40, 999)])).put' e1175 g1158 rfl) rfl (PA5_fr w1141 g0 ((wfr.rf (l := [(39, 999)])).put' e1152 g1146 rfl) rfl (PA5_fr w1129 g0 ((wfr.rf (l := [(38, 999)])).put' e1140 g1134 rfl) rfl (PA5_fr w1117 g0 ((wfr.rf (l := [(37, 999)])).put' e1128 g1122 rfl) rfl (PA5_fr hW g0 ((wfr.rf (l := [(36, 999)])).put' e1116 g1112 rfl) rfl h1106)))))
    refine wp_of e48 c48_81 (xs_L (pc' := 82) w1176 g1181 (by decide) sh_41 (by decide) (ty_41 _) (b1196.1) (b1196.2) ⟨b1196.1, b1196.2⟩ (b1183) (by omega) rfl (fun H1200 e1201 w1202 => ?_))
    have f1203 := f1177.put' e1201 g1181 rfl
    have h1204 : PA5 T H1200 r0 ((P.length : Int) + 1) (xr6 d k (P ++ [(y1, y2)])) := DAo_put h1199 q1180 g0 g1181 (by decide) e1201 (k := ((H1174 r0 15).toNat)) (by omega) rfl (by
      rw [show ((H1174 r0 15).toNat) = P.length by omega]
      show xtal (wq_shr (xwk d k ((P ++ [(y1, y2)]).getD P.length (0, 0))) 12) 12 = _
      rw [_g.1, ← p4]
      omega) (fun j hj => by
      show xtal (wq_shr (xwk d k ((P ++ [(y1, y2)]).getD j (0, 0))) 12) 12 = xtal (wq_shr (xwk d k (P.getD j (0, 0))) 12) 12
      rw [_g.2 j (by omega)])
    refine wp_of e48 c48_82 (rw_aload_n (pc' := 83) (v := .ref r0) rfl rfl rfl ?_)
    refine wp_of e48 c48_83 (rw_dup (pc' := 84) rfl rfl ?_)
    have k1205 : H1200 r0 15 = H1174 r0 15 := (wq_u_t e1201 g1181 g0 rfl 15)
    refine wp_of e48 c48_84 (xg_I (pc' := 87) lf_8_49 w1202 g0 sh_35 (by decide) (by decide) ty_35_15 rfl rfl (fun b1206 b1207 => ?_))
    refine wp_of e48 c48_87 (rw_iconst (pc' := 88) rfl ?_)
    refine wp_of e48 c48_88 (rw_iadd (pc' := 89) rfl ?_)
    refine wp_of e48 c48_89 (xp_I (pc' := 92) lf_8_49 w1202 g0 sh_35 (by decide) (by decide) ty_35_15 rfl rfl (by omega) (by omega) ⟨by omega, by omega⟩ rfl (fun H1208 e1209 w1210 => ?_))
    have f1211 := f1203.put' e1209 g0 rfl
    have k1212 : H1208 r0 15 = (H1200 r0 15) + 1 := wq_u_s e1209
    have h1213 : PA0 T H1208 r0 ((P.length : Int) + 1) (xr1 (P ++ [(y1, y2)])) := (PA0_fr w1202 g0 ((wfr.rf (l := [(35, 15)])).put' e1209 g0 rfl) rfl (PA0_fr w1176 g0 ((wfr.rf (l := [(41, 999)])).put' e1201 g1181 rfl) rfl (PA0_fr w1153 g0 ((wfr.rf (l := [(40, 999)])).put' e1175 g1158 rfl) rfl (PA0_fr w1141 g0 ((wfr.rf (l := [(39, 999)])).put' e1152 g1146 rfl) rfl (PA0_fr w1129 g0 ((wfr.rf (l := [(38, 999)])).put' e1140 g1134 rfl) rfl (PA0_fr w1117 g0 ((wfr.rf (l := [(37, 999)])).put' e1128 g1122 rfl) rfl h1119))))))
    have h1214 : PA1 T H1208 r0 ((P.length : Int) + 1) (xr2 (P ++ [(y1, y2)])) := (PA1_fr w1202 g0 ((wfr.rf (l := [(35, 15)])).put' e1209 g0 rfl) rfl (PA1_fr w1176 g0 ((wfr.rf (l := [(41, 999)])).put' e1201 g1181 rfl) rfl (PA1_fr w1153 g0 ((wfr.rf (l := [(40, 999)])).put' e1175 g1158 rfl) rfl (PA1_fr w1141 g0 ((wfr.rf (l := [(39, 999)])).put' e1152 g1146 rfl) rfl (PA1_fr w1129 g0 ((wfr.rf (l := [(38, 999)])).put' e1140 g1134 rfl) rfl h1131)))))
    have h1215 : PA2 T H1208 r0 ((P.length : Int) + 1) (xr3 d k (P ++ [(y1, y2)])) := (PA2_fr w1202 g0 ((wfr.rf (l := [(35, 15)])).put' e1209 g0 rfl) rfl (PA2_fr w1176 g0 ((wfr.rf (l := [(41, 999)])).put' e1201 g1181 rfl) rfl (PA2_fr w1153 g0 ((wfr.rf (l := [(40, 999)])).put' e1175 g1158 rfl) rfl (PA2_fr w1141 g0 ((wfr.rf (l := [(39, 999)])).put' e1152 g1146 rfl) rfl h1143))))
    have h1216 : PA3 T H1208 r0 ((P.length : Int) + 1) (xr4 d k (P ++ [(y1, y2)])) := (PA3_fr w1202 g0 ((wfr.rf (l := [(35, 15)])).put' e1209 g0 rfl) rfl (PA3_fr w1176 g0 ((wfr.rf (l := [(41, 999)])).put' e1201 g1181 rfl) rfl (PA3_fr w1153 g0 ((wfr.rf (l := [(40, 999)])).put' e1175 g1158 rfl) rfl h1155)))
    have h1217 : PA4 T H1208 r0 ((P.length : Int) + 1) (xr5 d k (P ++ [(y1, y2)])) := (PA4_fr w1202 g0 ((wfr.rf (l := [(35, 15)])).put' e1209 g0 rfl) rfl (PA4_fr w1176 g0 ((wfr.rf (l := [(41, 999)])).put' e1201 g1181 rfl) rfl h1178))
    have h1218 : PA5 T H1208 r0 ((P.length : Int) + 1) (xr6 d k (P ++ [(y1, y2)])) := (PA5_fr w1202 g0 ((wfr.rf (l := [(35, 15)])).put' e1209 g0 rfl) rfl h1204)
    exact wp_return e48 c48_92 rfl ⟨rfl, w1210, f1211, rfl, (by first | exact PS_mk (by omega) h1213 h1214 h1215 h1216 h1217 h1218 | (exfalso; omega))⟩
  · exact wp_return e48 c48_9 rfl ⟨rfl, hW, f0, rfl, (by first | exact PS_mk (by omega) h1101 h1102 h1103 h1104 h1105 h1106 | (exfalso; omega))⟩
/-! StrikeAwake$Person.makeSpans(II)V  -/
abbrev uq_47 (r0 : Nat) (a1 : Int) (a2 : Int) (d : xD) (k : Nat) (T : wq_T) (H : wq_H) : Option Value → wq_T → wq_H → Prop := fun r T' H' => T = T' ∧ WT T H' ∧ wfr [(35, 15), (38, 999), (39, 999), (36, 999), (40, 999), (41, 999), (37, 999)] T H H' ∧ none = r ∧ ((PS T H' r0 d k (xsp d k)))
set_option maxHeartbeats 4000000 in
theorem u_47 {kt : Nat → Option mc_E} {T : wq_T} {H : wq_H} {r0 : Nat} {a1 : Int} {a2 : Int} {d : xD} {k : Nat} (hW : WT T H) (g0 : T.2.2.2 r0 = some 35) (i1 : 0 ≤ a1 ∧ a1 ≤ 16777215) (i2 : 0 ≤ a2 ∧ a2 ≤ 16777215) (p0 : a1 = xal d) (p1 : a2 = xmu d k) (p2 : H r0 15 = 0) (hPX_r0 : PX T H r0 d k) : wpc kt 3 47 [.ref r0, vI a1, vI a2] T H (uq_47 r0 a1 a2 d k T H) := by
  refine wp_enter e47 (Nat.le_of_ble_eq_true rfl) rfl ?_
  have f0 : wfr [(35, 15), (38, 999), (39, 999), (36, 999), (40, 999), (41, 999), (37, 999)] T H H := wfr.rf
  show wp _ _ 47 0 [(0, .ref r0), (1, vI a1), (2, vI a2)] [] _ H _
  have u1403 := PX_k hPX_r0
  have h1404 : PS T H r0 d k [] := PS_0 hW g0 p2
  have _p := hPX_r0
  have _k := PX_k hPX_r0
  refine wp_of e47 c47_0 (rw_aload_n (pc' := 1) (v := .ref r0) rfl rfl rfl ?_)
  refine wp_of e47 c47_1 (xg_I (pc' := 4) lf_8_42 hW g0 sh_35 (by decide) (by decide) ty_35_13 rfl rfl (fun b1405 b1406 => ?_))
  refine wp_of e47 c47_4 (rw_if_eq (p1 := 16) (p2 := 7) (by decide) rfl ⟨Int.le_trans (by decide) b1405, Int.le_trans b1406 (by decide)⟩ (fun c1407 => ?_) (fun c1407 => ?_))
  · have _b := fun x => @xas_not d k (by omega) x
    refine wp_of e47 c47_16 (rw_aload_n (pc' := 17) (v := .ref r0) rfl rfl rfl ?_)
    refine wp_of e47 c47_17 (xg_I (pc' := 20) lf_8_62 hW g0 sh_35 (by decide) (by decide) ty_35_7 rfl rfl (fun b1408 b1409 => ?_))
    refine wp_of e47 c47_20 (rw_istore_n (pc' := 21) (z := H r0 7) (L' := [(3, vI (H r0 7)), (0, .ref r0), (1, vI a1), (2, vI a2)]) rfl rfl rfl ?_)
    have lp1666 : ∀ (n1667 : Nat) (v1669 : Int) (H1670 : wq_H) (P1671 : List (Int × Int)), WT T H1670 → wfr [(35, 15), (38, 999), (39, 999), (36, 999), (40, 999), (41, 999), (37, 999)] T H H1670 → (0 ≤ v1669 ∧ v1669 ≤ 24) → PS T H1670 r0 d k P1671 → (xfo d k P1671 v1669) → (d 2 k ≤ v1669) → (24 - v1669).toNat = n1667 → wp kt 2 47 21 [(3, vI v1669), (0, .ref r0), (1, vI a1), (2, vI a2)] [] T H1670 (uq_47 r0 a1 a2 d k T H) := by
      intro n1667
      induction n1667 using Nat.strongRecOn with
      | _ n1667 ih1668 =>
        intro v1669 H1670 P1671 w1672 f1673 b1674 h1676 x1677 x1678 m1675
        have f1679 := f0.tr f1673 rfl
        refine wp_of e47 c47_21 (rw_iload_n (pc' := 22) (z := v1669) rfl rfl ?_)
        refine wp_of e47 c47_22 (rw_aload_n (pc' := 23) (v := .ref r0) rfl rfl rfl ?_)
        have k1680 : H1670 r0 8 = H r0 8 := (f1673 r0 8 _ g0 rfl)
        refine wp_of e47 c47_23 (xg_I (pc' := 26) lf_8_65 w1672 g0 sh_35 (by decide) (by decide) ty_35_8 rfl rfl (fun b1681 b1682 => ?_))
        refine wp_of e47 c47_26 (rw_icmp_gt (p1 := 95) (p2 := 29) (by decide) rfl ⟨Int.le_trans (by decide) b1674.1, Int.le_trans b1674.2 (by decide)⟩ ⟨Int.le_trans (by decide) b1681, Int.le_trans b1682 (by decide)⟩ (fun c1683 => ?_) (fun c1683 => ?_))
        · exact wp_return e47 c47_95 rfl ⟨rfl, w1672, f1679, rfl, (PS_eq h1676 (by first | exact xsp_away (by omega) | exact xfo_e ‹_› (by omega)))⟩
        · refine wp_of e47 c47_29 (rw_aload_n (pc' := 30) (v := .ref r0) rfl rfl rfl ?_)
          have k1684 : H1670 r0 9 = H r0 9 := (f1673 r0 9 _ g0 rfl)
          refine wp_of e47 c47_30 (xg_I (pc' := 33) lf_8_68 w1672 g0 sh_35 (by decide) (by decide) ty_35_9 rfl rfl (fun b1685 b1686 => ?_))
          refine wp_of e47 c47_33 (rw_istore (pc' := 35) (z := H1670 r0 9) (L' := [(4, vI (H1670 r0 9)), (3, vI v1669), (0, .ref r0), (1, vI a1), (2, vI a2)]) rfl rfl rfl ?_)
          have lp1769 : ∀ (n1770 : Nat) (v1772 : Int) (H1773 : wq_H) (P1774 : List (Int × Int)), WT T H1773 → wfr [(35, 15), (38, 999), (39, 999), (36, 999), (40, 999), (41, 999), (37, 999)] T H1670 H1773 → (0 ≤ v1772 ∧ v1772 ≤ 17) → PS T H1773 r0 d k P1774 → (xfn d k P1774 v1669 v1772) → (17 - v1772).toNat = n1770 → wp kt 2 47 35 [(4, vI v1772), (3, vI v1669), (0, .ref r0), (1, vI a1), (2, vI a2)] [] T H1773 (uq_47 r0 a1 a2 d k T H) := by
            intro n1770
            induction n1770 using Nat.strongRecOn with
            | _ n1770 ih1771 =>
              intro v1772 H1773 P1774 w1775 f1776 b1777 h1779 x1780 m1778
              have f1781 := f1679.tr f1776 rfl
              have f1782 := f1673.tr f1776 rfl
              refine wp_of e47 c47_35 (rw_iload (pc' := 37) (z := v1772) rfl rfl ?_)
              refine wp_of e47 c47_37 (rw_aload_n (pc' := 38) (v := .ref r0) rfl rfl rfl ?_)
              have k1783 : H1773 r0 10 = H r0 10 := ((f1776 r0 10 _ g0 rfl).trans (f1673 r0 10 _ g0 rfl))
              refine wp_of e47 c47_38 (xg_I (pc' := 41) lf_8_71 w1775 g0 sh_35 (by decide) (by decide) ty_35_10 rfl rfl (fun b1784 b1785 => ?_))
              refine wp_of e47 c47_41 (rw_icmp_gt (p1 := 89) (p2 := 44) (by decide) rfl ⟨Int.le_trans (by decide) b1777.1, Int.le_trans b1777.2 (by decide)⟩ ⟨Int.le_trans (by decide) b1784, Int.le_trans b1785 (by decide)⟩ (fun c1786 => ?_) (fun c1786 => ?_))
              · refine wp_of e47 c47_89 (rw_iinc (pc' := 92) (z := v1669) (L' := [(3, vI (v1669 + 1)), (4, vI v1772), (0, .ref r0), (1, vI a1), (2, vI a2)]) rfl rfl rfl rfl ?_)
                refine wp_of e47 c47_92 (rw_goto (p1 := 21) (by decide) ?_)
                exact wp_lc (ks := [3, 4, 0, 1, 2]) (wl_c rfl (wl_c rfl (wl_c rfl (wl_c rfl wl_n)))) rfl (by decide) (ih1668 _ (by omega) (v1669 + 1) H1773 P1774 w1775 f1782 ⟨by omega, by omega⟩ h1779 (xfn_o ‹_› (by omega)) (by omega) rfl)
              · refine wp_of e47 c47_44 (rw_iload_n (pc' := 45) (z := v1669) rfl rfl ?_)
                refine wp_of e47 c47_45 (rw_iload_n (pc' := 46) (z := v1669) rfl rfl ?_)
                refine wp_of e47 c47_46 (rw_iload (pc' := 48) (z := v1772) rfl rfl ?_)
                refine wp_of e47 c47_48 (rw_iadd (pc' := 49) rfl ?_)
                refine wp_of e47 c47_49 (xc_S (pc' := 52) (as := [vI v1669, vI (v1669 + v1772)]) (st := []) (lm_8_74) rfl rfl (Nat.le_of_ble_eq_true rfl) rfl (by decide) (u_31 (lo := v1669) (hi := ((v1669 + v1772))) w1775 ⟨b1674.1, b1674.2⟩ ⟨by omega, by omega⟩ (by omega) (by omega) (by omega)) (fun R1787 T1788 H1789 p1790 => ?_))
                obtain ⟨e1791, e1793, z1794, e1792, b1795, p1796⟩ := p1790
                subst e1791
                subst e1792
                subst e1793
                show wp _ _ 47 52 [(4, vI v1772), (3, vI v1669), (0, .ref r0), (1, vI a1), (2, vI a2)] [vI z1794] _ H1773 _
                refine wp_of e47 c47_52 (rw_aload_n (pc' := 53) (v := .ref r0) rfl rfl rfl ?_)
                have k1798 : H1773 r0 12 = H r0 12 := ((f1776 r0 12 _ g0 rfl).trans (f1673 r0 12 _ g0 rfl))
                refine wp_of e47 c47_53 (xg_I (pc' := 56) lf_8_39 w1775 g0 sh_35 (by decide) (by decide) ty_35_12 rfl rfl (fun b1799 b1800 => ?_))
                refine wp_of e47 c47_56 (rw_ior (pc' := 57) rfl ?_)
                obtain ⟨v1801, e1802⟩ : ∃ x : Int, x = wq_or z1794 (H1773 r0 12) := ⟨_, rfl⟩
                rw [← e1802]
                have b1803 : -2147483648 ≤ v1801 ∧ v1801 ≤ 2147483647 := by
                  rw [e1802]
                  exact wI_or _ _
                refine wp_of e47 c47_57 (rw_iload_n (pc' := 58) (z := a1) rfl rfl ?_)
                refine wp_of e47 c47_58 (rw_iand (pc' := 59) rfl ?_)
                obtain ⟨v1804, e1805⟩ : ∃ x : Int, x = wq_and v1801 a1 := ⟨_, rfl⟩
                rw [← e1805]
                have b1806 : 0 ≤ v1804 ∧ v1804 ≤ a1 := by
                  rw [e1805]
                  exact wq_and_b _ (by omega) (by omega)
                refine wp_of e47 c47_59 (rw_istore (pc' := 61) (z := v1804) (L' := [(5, vI v1804), (4, vI v1772), (3, vI v1669), (0, .ref r0), (1, vI a1), (2, vI a2)]) rfl rfl rfl ?_)
                have _s : v1804 = xsl d k v1669 v1772 := xsl_e e1802 e1805 (by omega) (by omega) (by omega)
                refine wp_of e47 c47_61 (rw_iload (pc' := 63) (z := v1804) rfl rfl ?_)
                refine wp_of e47 c47_63 (rw_iload_n (pc' := 64) (z := a2) rfl rfl ?_)
                refine wp_of e47 c47_64 (rw_iand (pc' := 65) rfl ?_)
                obtain ⟨v1807, e1808⟩ : ∃ x : Int, x = wq_and v1804 a2 := ⟨_, rfl⟩
                rw [← e1808]
                have b1809 : 0 ≤ v1807 ∧ v1807 ≤ a2 := by
                  rw [e1808]
                  exact wq_and_b _ (by omega) (by omega)
                refine wp_of e47 c47_65 (rw_if_ne (p1 := 83) (p2 := 68) (by decide) rfl ⟨by omega, by omega⟩ (fun c1810 => ?_) (fun c1810 => ?_))
                · refine wp_of e47 c47_83 (rw_iinc (pc' := 86) (z := v1772) (L' := [(4, vI (v1772 + 1)), (5, vI v1804), (3, vI v1669), (0, .ref r0), (1, vI a1), (2, vI a2)]) rfl rfl rfl rfl ?_)
                  refine wp_of e47 c47_86 (rw_goto (p1 := 35) (by decide) ?_)
                  exact wp_lc (ks := [4, 5, 3, 0, 1, 2]) (wl_c rfl (wl_c rfl (wl_c rfl (wl_c rfl (wl_c rfl wl_n))))) rfl (by decide) (ih1771 _ (by omega) (v1772 + 1) H1773 P1774 w1775 f1776 ⟨by omega, by omega⟩ h1779 (by first | assumption | exact xfn_n ‹_› (by omega) (by rw [← _s, ← p1]; omega)) rfl)
                · have _o : wq_and (xsl d k v1669 v1772) (xmu d k) = 0 := by
                    rw [← _s, ← p1]
                    omega
                  have _r := xfn_room _p.2 ‹xfn d k P1774 v1669 v1772› (by omega) _o
                  have _y := xfn_y ‹xfn d k P1774 v1669 v1772› (by omega) _o
                  have _c : xas d k (v1669, v1772) = xsl d k v1669 v1772 ∧ xwk d k (v1669, v1772) = wq_and (xal d) (wq_xor (xsl d k v1669 v1772) (-1)) := _b (v1669, v1772)
                  refine wp_of e47 c47_68 (rw_aload_n (pc' := 69) (v := .ref r0) rfl rfl rfl ?_)
                  refine wp_of e47 c47_69 (rw_iload_n (pc' := 70) (z := v1669) rfl rfl ?_)
                  refine wp_of e47 c47_70 (rw_iload (pc' := 72) (z := v1772) rfl rfl ?_)
                  refine wp_of e47 c47_72 (rw_iload (pc' := 74) (z := v1804) rfl rfl ?_)
                  refine wp_of e47 c47_74 (rw_iload_n (pc' := 75) (z := a1) rfl rfl ?_)
                  refine wp_of e47 c47_75 (rw_iload (pc' := 77) (z := v1804) rfl rfl ?_)
                  refine wp_of e47 c47_77 (rw_iconst (pc' := 78) rfl ?_)
                  refine wp_of e47 c47_78 (rw_ixor (pc' := 79) rfl ?_)
                  obtain ⟨v1811, e1812⟩ : ∃ x : Int, x = wq_xor v1804 (-1) := ⟨_, rfl⟩
                  rw [← e1812]
                  have b1813 : -2147483648 ≤ v1811 ∧ v1811 ≤ 2147483647 := by
                    rw [e1812]
                    exact wI_xor _ _
                  refine wp_of e47 c47_79 (rw_iand (pc' := 80) rfl ?_)
                  obtain ⟨v1814, e1815⟩ : ∃ x : Int, x = wq_and a1 v1811 := ⟨_, rfl⟩
                  rw [← e1815]
                  have b1816 : 0 ≤ v1814 ∧ v1814 ≤ a1 := by
                    rw [e1815]
                    rw [wq_and_c]; exact wq_and_b _ (by omega) (by omega)
                  have _w : v1814 = xwk d k (v1669, v1772) := by
                    rw [_c.2, ← _s, ← p0, e1815, e1812]
                  refine wp_of e47 c47_80 (xc_V (pc' := 83) (r := r0) (as := [vI v1669, vI v1772, vI v1804, vI v1814]) (st := []) (lm_8_58) rfl rfl (Nat.le_of_ble_eq_true rfl) w1775 g0 sh_35 (by decide) rfl (by decide) (u_48 (d := d) (k := k) (P := P1774) (y1 := v1669) (y2 := v1772) w1775 g0 ⟨Int.le_trans (by decide) b1674.1, b1674.2⟩ ⟨Int.le_trans (by decide) b1777.1, Int.le_trans b1777.2 (by decide)⟩ ⟨by omega, by omega⟩ ⟨by omega, by omega⟩ (by omega) (by omega) (by omega) (by omega) (by omega) h1779) (fun R1817 T1818 H1819 p1820 => ?_))
                  obtain ⟨e1821, w1823, f1824, e1822, p1825⟩ := p1820
                  subst e1821
                  subst e1822
                  have f1827 := f1781.tr f1824 rfl
                  have f1828 := f1782.tr f1824 rfl
                  have f1829 := f1776.tr f1824 rfl
                  show wp _ _ 47 83 [(5, vI v1804), (4, vI v1772), (3, vI v1669), (0, .ref r0), (1, vI a1), (2, vI a2)] [] _ H1819 _
                  refine wp_of e47 c47_83 (rw_iinc (pc' := 86) (z := v1772) (L' := [(4, vI (v1772 + 1)), (5, vI v1804), (3, vI v1669), (0, .ref r0), (1, vI a1), (2, vI a2)]) rfl rfl rfl rfl ?_)
                  refine wp_of e47 c47_86 (rw_goto (p1 := 35) (by decide) ?_)
                  exact wp_lc (ks := [4, 5, 3, 0, 1, 2]) (wl_c rfl (wl_c rfl (wl_c rfl (wl_c rfl (wl_c rfl wl_n))))) rfl (by decide) (ih1771 _ (by omega) (v1772 + 1) H1819 ((P1774 ++ [(v1669, v1772)])) w1823 f1829 ⟨by omega, by omega⟩ p1825 (by first | assumption | exact xfn_n ‹_› (by omega) (by rw [← _s, ← p1]; omega)) rfl)
          exact wp_lc (ks := [4, 3, 0, 1, 2]) (wl_c rfl (wl_c rfl (wl_c rfl (wl_c rfl (wl_c rfl wl_n))))) rfl (by decide) (lp1769 _ (H1670 r0 9) H1670 P1671 w1672 wfr.rf ⟨by omega, by omega⟩ h1676 (xfo_i ‹_› (by omega) (by omega)) rfl)
    exact wp_lc (ks := [3, 0, 1, 2]) (wl_c rfl (wl_c rfl (wl_c rfl (wl_c rfl wl_n)))) rfl (by decide) (lp1666 _ (H r0 7) H ([]) hW wfr.rf ⟨by omega, b1409⟩ h1404 (xfo_0 (by omega) (by omega)) (by omega) rfl)
  · have _a := xas_away (d := d) (k := k) (by omega)
    have _zl : ((([] : List (Int × Int)).length : Nat) : Int) = 0 := rfl
    refine wp_of e47 c47_7 (rw_aload_n (pc' := 8) (v := .ref r0) rfl rfl rfl ?_)
    refine wp_of e47 c47_8 (rw_iconst (pc' := 9) rfl ?_)
    refine wp_of e47 c47_9 (rw_iconst (pc' := 10) rfl ?_)
    refine wp_of e47 c47_10 (rw_iconst (pc' := 11) rfl ?_)
    refine wp_of e47 c47_11 (rw_iconst (pc' := 12) rfl ?_)
    refine wp_of e47 c47_12 (xc_V (pc' := 15) (r := r0) (as := [vI 0, vI 0, vI 0, vI 0]) (st := []) (lm_8_58) rfl rfl (Nat.le_of_ble_eq_true rfl) hW g0 sh_35 (by decide) rfl (by decide) (u_48 (d := d) (k := k) (P := ([])) (y1 := 0) (y2 := 0) hW g0 ⟨by decide, by decide⟩ ⟨by decide, by decide⟩ ⟨by decide, by decide⟩ ⟨by decide, by decide⟩ (by omega) (by omega) (by omega) (by omega) (by omega) h1404) (fun R1830 T1831 H1832 p1833 => ?_))
    obtain ⟨e1834, w1836, f1837, e1835, p1838⟩ := p1833
    subst e1834
    subst e1835
    have f1840 := f0.tr f1837 rfl
    show wp _ _ 47 15 [(0, .ref r0), (1, vI a1), (2, vI a2)] [] _ H1832 _
    exact wp_return e47 c47_15 rfl ⟨rfl, w1836, f1840, rfl, (PS_eq p1838 (by first | exact xsp_away (by omega) | exact xfo_e ‹_› (by omega)))⟩
/-! StrikeAwake$Parish.allHours()I  -/
abbrev uq_45 (r0 : Nat) (T : wq_T) (H : wq_H) : Option Value → wq_T → wq_H → Prop := fun r T' H' => T = T' ∧ H = H' ∧ ∃ z : Int, some (vI z) = r ∧ (0 ≤ z ∧ z ≤ 16777215) ∧ (((z = xhs 0 (H r0 7))))
set_option maxHeartbeats 4000000 in
theorem u_45 {kt : Nat → Option mc_E} {T : wq_T} {H : wq_H} {r0 : Nat} (hW : WT T H) (g0 : T.2.2.2 r0 = some 27) : wpc kt 2 45 [.ref r0] T H (uq_45 r0 T H) := by
  refine wp_enter e45 (Nat.le_of_ble_eq_true rfl) rfl ?_
  show wp _ _ 45 0 [(0, .ref r0)] [] _ H _
  refine wp_of e45 c45_0 (rw_iconst (pc' := 1) rfl ?_)
  refine wp_of e45 c45_1 (rw_aload_n (pc' := 2) (v := .ref r0) rfl rfl rfl ?_)
  refine wp_of e45 c45_2 (xg_I (pc' := 5) lf_7_41 hW g0 sh_27 (by decide) (by decide) ty_27_7 rfl rfl (fun b1014 b1015 => ?_))
  refine wp_of e45 c45_5 (xc_S (pc' := 8) (as := [vI 0, vI (H r0 7)]) (st := []) (lm_7_92) rfl rfl (Nat.le_of_ble_eq_true rfl) rfl (by decide) (u_31 (lo := 0) (hi := ((H r0 7))) hW ⟨by decide, by decide⟩ ⟨b1014, Int.le_trans b1015 (by decide)⟩ (by omega) (by omega) (by omega)) (fun R1016 T1017 H1018 p1019 => ?_))
  obtain ⟨e1020, e1022, z1023, e1021, b1024, p1025⟩ := p1019
  subst e1020
  subst e1021
  subst e1022
  show wp _ _ 45 8 [(0, .ref r0)] [vI z1023] _ H _
  exact wp_ireturn e45 c45_8 rfl ⟨rfl, rfl, z1023, rfl, ⟨b1024.1, b1024.2⟩, (by omega)⟩
/-! StrikeAwake$Parish.hoursStruckUpTo(I)I  -/
abbrev uq_46 (r0 : Nat) (a1 : Int) (f : Nat → Int) (y : Int) (T : wq_T) (H : wq_H) : Option Value → wq_T → wq_H → Prop := fun r T' H' => T = T' ∧ H = H' ∧ ∃ z : Int, some (vI z) = r ∧ (0 ≤ z ∧ z ≤ 16777215) ∧ (((z = xob (fun h => decide (f h > 0 ∧ f h ≤ y + 1)) 24)))
set_option maxHeartbeats 4000000 in
theorem u_46 {kt : Nat → Option mc_E} {T : wq_T} {H : wq_H} {r0 : Nat} {a1 : Int} {f : Nat → Int} {y : Int} (hW : WT T H) (g0 : T.2.2.2 r0 = some 27) (i1 : (-2147483648) ≤ a1 ∧ a1 ≤ 2147483647) (p0 : a1 = y) (p1 : H r0 16 = xcn f 24) (hST_r0 : ST T H r0 f) (hSV_r0 : SV T H r0 f 24) : wpc kt 1 46 [.ref r0, vI a1] T H (uq_46 r0 a1 f y T H) := by
  refine wp_enter e46 (Nat.le_of_ble_eq_true rfl) rfl ?_
  show wp _ _ 46 0 [(0, .ref r0), (1, vI a1)] [] _ H _
  refine wp_of e46 c46_0 (rw_iconst (pc' := 1) rfl ?_)
  refine wp_of e46 c46_1 (rw_istore_n (pc' := 2) (z := 0) (L' := [(2, vI 0), (0, .ref r0), (1, vI a1)]) rfl rfl rfl ?_)
  refine wp_of e46 c46_2 (rw_iconst (pc' := 3) rfl ?_)
  refine wp_of e46 c46_3 (rw_istore_n (pc' := 4) (z := 0) (L' := [(3, vI 0), (2, vI 0), (0, .ref r0), (1, vI a1)]) rfl rfl rfl ?_)
  have lp1358 : ∀ (n1359 : Nat) (v1361 : Int) (v1362 : Int) (u1363 : Nat), (0 ≤ v1361 ∧ v1361 ≤ 24) → (0 ≤ v1362 ∧ v1362 ≤ 16777215) → (u1363 ≤ 24) → (xcn f u1363 = v1361) → (v1362 = xob (fun h => decide (f h > 0 ∧ f h ≤ y + 1)) u1363) → (24 - v1361).toNat = n1359 → wp kt 0 46 4 [(3, vI v1361), (2, vI v1362), (0, .ref r0), (1, vI a1)] [] T H (uq_46 r0 a1 f y T H) := by
    intro n1359
    induction n1359 using Nat.strongRecOn with
    | _ n1359 ih1360 =>
      intro v1361 v1362 u1363 b1366 b1367 x1369 x1370 x1371 m1368
      refine wp_of e46 c46_4 (rw_iload_n (pc' := 5) (z := v1361) rfl rfl ?_)
      refine wp_of e46 c46_5 (rw_aload_n (pc' := 6) (v := .ref r0) rfl rfl rfl ?_)
      refine wp_of e46 c46_6 (xg_I (pc' := 9) lf_7_65 hW g0 sh_27 (by decide) (by decide) ty_27_16 rfl rfl (fun b1372 b1373 => ?_))
      refine wp_of e46 c46_9 (rw_icmp_ge (p1 := 44) (p2 := 12) (by decide) rfl ⟨Int.le_trans (by decide) b1366.1, Int.le_trans b1366.2 (by decide)⟩ ⟨Int.le_trans (by decide) b1372, Int.le_trans b1373 (by decide)⟩ (fun c1374 => ?_) (fun c1374 => ?_))
      · have _z : v1362 = xob (fun h => decide (f h > 0 ∧ f h ≤ y + 1)) 24 := by
          rw [‹v1362 = xob (fun h => decide (f h > 0 ∧ f h ≤ y + 1)) u1363›]
          exact (xob_gap (by omega) (fun j p q => decide_eq_false (by have := xcn_mono (f := f) (m := u1363) j p; have := xcn_lt (f := f) (m := j) (n := 24) q; omega))).symm
        refine wp_of e46 c46_44 (rw_iload_n (pc' := 45) (z := v1362) rfl rfl ?_)
        exact wp_ireturn e46 c46_45 rfl ⟨rfl, rfl, v1362, rfl, ⟨b1367.1, b1367.2⟩, (_z)⟩
      · obtain ⟨h9, _a, _b, _c, _e, _f⟩ := xcn_nx (f := f) (u := u1363) 24 (by omega) (by omega)
        have _g : xob (fun h => decide (f h > 0 ∧ f h ≤ y + 1)) h9 = xob (fun h => decide (f h > 0 ∧ f h ≤ y + 1)) u1363 := xob_gap _a (fun j p q => decide_eq_false (by have := _f j p q; omega))
        have _n : xcn f (h9 + 1) = xcn f h9 + 1 := by
          show xcn f h9 + (if f h9 > 0 then 1 else 0) = _
          rw [if_pos _c]
        refine wp_of e46 c46_12 (rw_aload_n (pc' := 13) (v := .ref r0) rfl rfl rfl ?_)
        refine wp_of e46 c46_13 (xg_R (pc' := 16) lf_7_17 hW g0 sh_27 (by decide) (by decide) ty_27_1 rfl rfl (fun r1375 q1376 g1377 => ?_))
        refine wp_of e46 c46_16 (rw_aload_n (pc' := 17) (v := .ref r0) rfl rfl rfl ?_)
        refine wp_of e46 c46_17 (xg_R (pc' := 20) lf_7_21 hW g0 sh_27 (by decide) (by decide) ty_27_2 rfl rfl (fun r1378 q1379 g1380 => ?_))
        have _v := SV_at hSV_r0 q1379 (h := h9) (by omega) _c
        rw [show xcn f h9 = v1361 by omega] at _v
        refine wp_of e46 c46_20 (rw_iload_n (pc' := 21) (z := v1361) rfl rfl ?_)
        refine wp_of e46 c46_21 (xa_I (so := 0) (pc' := 22) hW g1380 sh_30 (by decide) (ty_30 _) (b1366.1) (by omega) rfl (fun b1381 b1382 => ?_))
        refine wp_of e46 c46_22 (xa_I (so := 0) (pc' := 23) hW g1377 sh_29 (by decide) (ty_29 _) (b1381) (Int.lt_of_le_of_lt b1382 (by decide)) rfl (fun b1383 b1384 => ?_))
        have := ST_at2 hST_r0 q1376 (k := ((H r1378 (v1361.toNat)).toNat)) (h := h9) (by omega) (by omega)
        refine wp_of e46 c46_23 (rw_iload_n (pc' := 24) (z := a1) rfl rfl ?_)
        refine wp_of e46 c46_24 (rw_icmp_gt (p1 := 38) (p2 := 27) (by decide) rfl ⟨b1383, b1384⟩ ⟨i1.1, i1.2⟩ (fun c1385 => ?_) (fun c1385 => ?_))
        · have _q : v1362 = xob (fun h => decide (f h > 0 ∧ f h ≤ y + 1)) (h9 + 1) := xob_pn (by assumption) _g (decide_eq_false (by omega))
          refine wp_of e46 c46_38 (rw_iinc (pc' := 41) (z := v1361) (L' := [(3, vI (v1361 + 1)), (2, vI v1362), (0, .ref r0), (1, vI a1)]) rfl rfl rfl rfl ?_)
          refine wp_of e46 c46_41 (rw_goto (p1 := 4) (by decide) ?_)
          exact wp_lc (ks := [3, 2, 0, 1]) (wl_c rfl (wl_c rfl (wl_c rfl (wl_c rfl wl_n)))) rfl (by decide) (ih1360 _ (by omega) (v1361 + 1) v1362 ((h9 + 1)) ⟨by omega, by omega⟩ ⟨b1367.1, b1367.2⟩ (by omega) (by omega) (_q) rfl)
        · refine wp_of e46 c46_27 (rw_iload_n (pc' := 28) (z := v1362) rfl rfl ?_)
          refine wp_of e46 c46_28 (rw_iconst (pc' := 29) rfl ?_)
          refine wp_of e46 c46_29 (rw_aload_n (pc' := 30) (v := .ref r0) rfl rfl rfl ?_)
          refine wp_of e46 c46_30 (xg_K (pc' := 33) lf_7_21 hW g0 sh_27 (by decide) (by decide) rfl q1379 rfl ?_)
          refine wp_of e46 c46_33 (rw_iload_n (pc' := 34) (z := v1361) rfl rfl ?_)
          refine wp_of e46 c46_34 (xa_I (so := 0) (pc' := 35) hW g1380 sh_30 (by decide) (ty_30 _) (b1366.1) (by omega) rfl (fun b1386 b1387 => ?_))
          refine wp_of e46 c46_35 (rw_ishl (pc' := 36) rfl ?_)
          obtain ⟨v1388, e1389⟩ : ∃ x : Int, x = wq_shl 1 (H r1378 (v1361.toNat)) := ⟨_, rfl⟩
          rw [← e1389]
          have b1390 : 1 ≤ v1388 ∧ v1388 ≤ 8388608 := by
            rw [e1389]
            exact wq_shl1_24 ⟨by omega, by omega⟩
          refine wp_of e46 c46_36 (rw_ior (pc' := 37) rfl ?_)
          obtain ⟨v1391, e1392⟩ : ∃ x : Int, x = wq_or v1362 v1388 := ⟨_, rfl⟩
          rw [← e1392]
          have b1393 : 0 ≤ v1391 ∧ v1391 ≤ 16777215 := by
            rw [e1392]
            exact wq_or_24 ⟨by omega, by omega⟩ ⟨by omega, by omega⟩
          refine wp_of e46 c46_37 (rw_istore_n (pc' := 38) (z := v1391) (L' := [(2, vI v1391), (3, vI v1361), (0, .ref r0), (1, vI a1)]) rfl rfl rfl ?_)
          have _q : v1391 = xob (fun h => decide (f h > 0 ∧ f h ≤ y + 1)) (h9 + 1) := xob_py (by assumption) _g (decide_eq_true ⟨_c, by omega⟩) e1392 e1389 _v
          refine wp_of e46 c46_38 (rw_iinc (pc' := 41) (z := v1361) (L' := [(3, vI (v1361 + 1)), (2, vI v1391), (0, .ref r0), (1, vI a1)]) rfl rfl rfl rfl ?_)
          refine wp_of e46 c46_41 (rw_goto (p1 := 4) (by decide) ?_)
          exact wp_lc (ks := [3, 2, 0, 1]) (wl_c rfl (wl_c rfl (wl_c rfl (wl_c rfl wl_n)))) rfl (by decide) (ih1360 _ (by omega) (v1361 + 1) v1391 ((h9 + 1)) ⟨by omega, by omega⟩ ⟨b1393.1, b1393.2⟩ (by omega) (by omega) (_q) rfl)
  have : xcn f 0 = 0 := rfl
  exact wp_lc (ks := [3, 2, 0, 1]) (wl_c rfl (wl_c rfl (wl_c rfl (wl_c rfl wl_n)))) rfl (by decide) (lp1358 _ 0 0 0 ⟨by decide, by decide⟩ ⟨by decide, by decide⟩ (by omega) (by omega) (rfl) rfl)
/-! StrikeAwake$Parish.settle()V  -/
abbrev uq_44 (r0 : Nat) (d : xD) (T : wq_T) (H : wq_H) : Option Value → wq_T → wq_H → Prop := fun r T' H' => T = T' ∧ WT T H' ∧ wfr [(27, 16), (27, 18), (35, 15), (35, 17), (38, 999), (39, 999), (36, 999), (40, 999), (41, 999), (34, 999), (37, 999), (29, 999), (30, 999), (33, 999)] T H H' ∧ none = r ∧ ((CU T H' r0 (xset d) (xset d) (xlots (xset d)) ∧ CY T H' r0 (d 0 3) (fun _ => 0) 0))
set_option maxHeartbeats 4000000 in
theorem u_44 {kt : Nat → Option mc_E} {T : wq_T} {H : wq_H} {r0 : Nat} {d : xD} (hW : WT T H) (g0 : T.2.2.2 r0 = some 27) (p0 : xdP d) (hDC_r0 : DC T H r0 d) (hDD_r0 : DD T H r0 ) (hDE_r0 : DE T H r0 ) (hCZ_r0 : CZ T H r0 (d 0 3)) : wpc kt 4 44 [.ref r0] T H (uq_44 r0 d T H) := by
  refine wp_enter e44 (Nat.le_of_ble_eq_true rfl) rfl ?_
  have f0 : wfr [(27, 16), (27, 18), (35, 15), (35, 17), (38, 999), (39, 999), (36, 999), (40, 999), (41, 999), (34, 999), (37, 999), (29, 999), (30, 999), (33, 999)] T H H := wfr.rf
  show wp _ _ 44 0 [(0, .ref r0)] [] _ H _
  have u1622 := DC_k hDC_r0
  have b1623 : 0 ≤ H r0 13 ∧ H r0 13 ≤ 4 := hW.box g0 (n := 19) rfl (by decide) rfl
  have b1624 : 0 ≤ H r0 14 ∧ H r0 14 ≤ 6 := hW.box g0 (n := 19) rfl (by decide) rfl
  have b1625 : 0 ≤ H r0 10 ∧ H r0 10 ≤ 6 := hW.box g0 (n := 19) rfl (by decide) rfl
  have h1626 : DQ T H r0 d := hDC_r0.2.1
  have h1627 : ST T H r0 (d 13) := hDC_r0.2.2.1
  have h1628 : SV T H r0 (d 13) 24 := hDC_r0.2.2.2.1
  have h1629 : DA3 T H r0 (d 0 5) (d 12) := hDC_r0.2.2.2.2.1
  have h1630 : DA4 T H r0 (d 0 6) (d 14) := hDC_r0.2.2.2.2.2.1
  have h1631 : DA5 T H r0 (d 0 6) (d 15) := hDC_r0.2.2.2.2.2.2.1
  have h1632 : DA6 T H r0 (d 0 7) (d 16) := hDC_r0.2.2.2.2.2.2.2
  have _xa : xal (xset d) = xal d := rfl
  have _x := @xset_v d
  have _sx := @xsx_e (d 0 8)
  have _s : xsx (xset d 0 8) = xsx (d 0 8) := rfl
  refine wp_of e44 c44_0 (rw_aload_n (pc' := 1) (v := .ref r0) rfl rfl rfl ?_)
  refine wp_of e44 c44_1 (xc_V (pc' := 4) (r := r0) (as := []) (st := []) (lm_7_96) rfl rfl (Nat.le_of_ble_eq_true rfl) hW g0 sh_27 (by decide) rfl (by decide) (u_45  hW g0) (fun R1633 T1634 H1635 p1636 => ?_))
  obtain ⟨e1637, e1639, z1640, e1638, b1641, p1642⟩ := p1636
  subst e1637
  subst e1638
  subst e1639
  show wp _ _ 44 4 [(0, .ref r0)] [vI z1640] _ H _
  refine wp_of e44 c44_4 (rw_istore_n (pc' := 5) (z := z1640) (L' := [(1, vI z1640), (0, .ref r0)]) rfl rfl rfl ?_)
  have _al : z1640 = xal d := by
    unfold xal
    rw [show d 0 0 = H r0 7 by omega]
    omega
  refine wp_of e44 c44_5 (rw_aload_n (pc' := 6) (v := .ref r0) rfl rfl rfl ?_)
  refine wp_of e44 c44_6 (xg_I (pc' := 9) lf_7_41 hW g0 sh_27 (by decide) (by decide) ty_27_7 rfl rfl (fun b1644 b1645 => ?_))
  refine wp_of e44 c44_9 (rw_istore_n (pc' := 10) (z := H r0 7) (L' := [(2, vI (H r0 7)), (1, vI z1640), (0, .ref r0)]) rfl rfl rfl ?_)
  have lp1662 : ∀ (n1663 : Nat) (v1665 : Int) (H1666 : wq_H), WT T H1666 → wfr [(29, 999)] T H H1666 → (0 ≤ v1665 ∧ v1665 ≤ 24) → ST T H1666 r0 (xcu (d 13) (d 0 0) v1665) → (d 0 0 ≤ v1665) → (24 - v1665).toNat = n1663 → wp kt 3 44 10 [(2, vI v1665), (1, vI z1640), (0, .ref r0)] [] T H1666 (uq_44 r0 d T H) := by
    intro n1663
    induction n1663 using Nat.strongRecOn with
    | _ n1663 ih1664 =>
      intro v1665 H1666 w1667 f1668 b1669 h1671 x1672 m1670
      have f1673 := f0.tr f1668 rfl
      refine wp_of e44 c44_10 (rw_iload_n (pc' := 11) (z := v1665) rfl rfl ?_)
      refine wp_of e44 c44_11 (rw_bipush (pc' := 13) (z := 24) rfl (by decide) ?_)
      refine wp_of e44 c44_13 (rw_icmp_ge (p1 := 30) (p2 := 16) (by decide) rfl ⟨Int.le_trans (by decide) b1669.1, Int.le_trans b1669.2 (by decide)⟩ ⟨by decide, by decide⟩ (fun c1674 => ?_) (fun c1674 => ?_))
      · have h1675 : ST T H1666 r0 (xcu (d 13) (d 0 0) 24) := by rw [show (24 : Int) = v1665 by omega]; exact h1671
        refine wp_of e44 c44_30 (rw_aload_n (pc' := 31) (v := .ref r0) rfl rfl rfl ?_)
        refine wp_of e44 c44_31 (xc_V (pc' := 34) (r := r0) (as := []) (st := []) (lm_7_89) rfl rfl (Nat.le_of_ble_eq_true rfl) w1667 g0 sh_27 (by decide) rfl (by decide) (u_41 (f := ((xcu (d 13) (d 0 0) 24))) w1667 g0 h1675) (fun R1676 T1677 H1678 p1679 => ?_))
        obtain ⟨e1680, w1682, f1683, e1681, p1684⟩ := p1679
        subst e1680
        subst e1681
        obtain ⟨a1685, a1686, a1687⟩ := p1684
        have f1688 := f1673.tr f1683 rfl
        show wp _ _ 44 34 [(2, vI v1665), (1, vI z1640), (0, .ref r0)] [] _ H1678 _
        refine wp_of e44 c44_34 (rw_iconst (pc' := 35) rfl ?_)
        refine wp_of e44 c44_35 (rw_istore_n (pc' := 36) (z := 0) (L' := [(2, vI 0), (1, vI z1640), (0, .ref r0)]) rfl rfl rfl ?_)
        have lp1764 : ∀ (n1765 : Nat) (v1767 : Int) (H1768 : wq_H), WT T H1768 → wfr [(33, 999)] T H1678 H1768 → (0 ≤ v1767 ∧ v1767 ≤ 4) → DA5 T H1768 r0 (d 0 6) (xmk (d 15) (xal d) v1767) → (v1767 ≤ d 0 6) → (4 - v1767).toNat = n1765 → wp kt 3 44 36 [(2, vI v1767), (1, vI z1640), (0, .ref r0)] [] T H1768 (uq_44 r0 d T H) := by
          intro n1765
          induction n1765 using Nat.strongRecOn with
          | _ n1765 ih1766 =>
            intro v1767 H1768 w1769 f1770 b1771 h1773 x1774 m1772
            have f1775 := f1688.tr f1770 rfl
            refine wp_of e44 c44_36 (rw_iload_n (pc' := 37) (z := v1767) rfl rfl ?_)
            refine wp_of e44 c44_37 (rw_aload_n (pc' := 38) (v := .ref r0) rfl rfl rfl ?_)
            have k1776 : H1768 r0 13 = H r0 13 := ((f1770 r0 13 _ g0 rfl).trans ((f1683 r0 13 _ g0 rfl).trans (f1668 r0 13 _ g0 rfl)))
            refine wp_of e44 c44_38 (xg_I (pc' := 41) lf_7_59 w1769 g0 sh_27 (by decide) (by decide) ty_27_13 rfl rfl (fun b1777 b1778 => ?_))
            refine wp_of e44 c44_41 (rw_icmp_ge (p1 := 60) (p2 := 44) (by decide) rfl ⟨Int.le_trans (by decide) b1771.1, Int.le_trans b1771.2 (by decide)⟩ ⟨Int.le_trans (by decide) b1777, Int.le_trans b1778 (by decide)⟩ (fun c1779 => ?_) (fun c1779 => ?_))
            · have h1780 : DA5 T H1768 r0 (d 0 6) (xset d 15) := DA_cg h1773 rfl (by rw [show v1767 = d 0 6 by omega]; rfl)
              refine wp_of e44 c44_60 (rw_iconst (pc' := 61) rfl ?_)
              refine wp_of e44 c44_61 (rw_istore_n (pc' := 62) (z := 0) (L' := [(2, vI 0), (1, vI z1640), (0, .ref r0)]) rfl rfl rfl ?_)
              have lp1886 : ∀ (n1887 : Nat) (v1889 : Int) (H1890 : wq_H), WT T H1890 → wfr [(34, 999)] T H1768 H1890 → (0 ≤ v1889 ∧ v1889 ≤ 6) → DA6 T H1890 r0 (d 0 7) (xmk (d 16) (xal d) v1889) → (v1889 ≤ d 0 7) → (6 - v1889).toNat = n1887 → wp kt 3 44 62 [(2, vI v1889), (1, vI z1640), (0, .ref r0)] [] T H1890 (uq_44 r0 d T H) := by
                intro n1887
                induction n1887 using Nat.strongRecOn with
                | _ n1887 ih1888 =>
                  intro v1889 H1890 w1891 f1892 b1893 h1895 x1896 m1894
                  have f1897 := f1775.tr f1892 rfl
                  refine wp_of e44 c44_62 (rw_iload_n (pc' := 63) (z := v1889) rfl rfl ?_)
                  refine wp_of e44 c44_63 (rw_aload_n (pc' := 64) (v := .ref r0) rfl rfl rfl ?_)
                  have k1898 : H1890 r0 14 = H r0 14 := ((f1892 r0 14 _ g0 rfl).trans ((f1770 r0 14 _ g0 rfl).trans ((f1683 r0 14 _ g0 rfl).trans (f1668 r0 14 _ g0 rfl))))
                  refine wp_of e44 c44_64 (xg_I (pc' := 67) lf_7_62 w1891 g0 sh_27 (by decide) (by decide) ty_27_14 rfl rfl (fun b1899 b1900 => ?_))
                  refine wp_of e44 c44_67 (rw_icmp_ge (p1 := 86) (p2 := 70) (by decide) rfl ⟨Int.le_trans (by decide) b1893.1, Int.le_trans b1893.2 (by decide)⟩ ⟨Int.le_trans (by decide) b1899, Int.le_trans b1900 (by decide)⟩ (fun c1901 => ?_) (fun c1901 => ?_))
                  · have k1902 : H1890 r0 16 = H1678 r0 16 := ((f1892 r0 16 _ g0 rfl).trans (f1770 r0 16 _ g0 rfl))
                    have h1903 : DA6 T H1890 r0 (d 0 7) (xset d 16) := DA_cg h1895 rfl (by rw [show v1889 = d 0 7 by omega]; rfl)
                    have h1904 : DQ T H1890 r0 d := (DQ_fr w1769 g0 f1892 rfl (DQ_fr w1682 g0 f1770 rfl (DQ_fr w1667 g0 f1683 rfl (DQ_fr hW g0 f1668 rfl h1626))))
                    have h1905 : DQ T H1890 r0 (xset d) := DQ_cg (fun i h1 h2 => xset_o (by omega)) rfl rfl h1904
                    have h1906 : ST T H1890 r0 ((xcu (d 13) (d 0 0) 24)) := (ST_fr w1769 g0 f1892 rfl (ST_fr w1682 g0 f1770 rfl a1686))
                    have h1907 : ST T H1890 r0 (xset d 13) := h1906
                    have h1908 : SV T H1890 r0 ((xcu (d 13) (d 0 0) 24)) 24 := (SV_fr w1769 g0 f1892 rfl (SV_fr w1682 g0 f1770 rfl a1687))
                    have h1909 : SV T H1890 r0 (xset d 13) 24 := h1908
                    have h1910 : CZ T H1890 r0 (d 0 3) := (CZ_fr w1769 g0 f1892 rfl (CZ_fr w1682 g0 f1770 rfl (CZ_fr w1667 g0 f1683 rfl (CZ_fr hW g0 f1668 rfl hCZ_r0))))
                    have h1911 : CG T H1890 r0 (d 0 3) (fun _ => 0) := CG_z h1910
                    have _c16 : H1890 r0 16 = xcn (xset d 13) 24 := by
                      rw [xset_13]
                      omega
                    refine wp_of e44 c44_86 (rw_aload_n (pc' := 87) (v := .ref r0) rfl rfl rfl ?_)
                    refine wp_of e44 c44_87 (rw_lconst (pc' := 88) (z := 1) rfl rfl ?_)
                    refine wp_of e44 c44_88 (xp_L (pc' := 91) lf_7_71 w1891 g0 sh_27 (by decide) (by decide) ty_27_18 rfl rfl (by decide) (by decide) ⟨by decide, by decide⟩ rfl (fun H1912 e1913 w1914 => ?_))
                    have f1915 := f1897.put' e1913 g0 rfl
                    have k1916 : H1912 r0 18 = 1 := wq_u_s e1913
                    refine wp_of e44 c44_91 (rw_aload_n (pc' := 92) (v := .ref r0) rfl rfl rfl ?_)
                    have k1917 : H1912 r0 10 = H r0 10 := ((wq_u_j e1913 rfl).trans ((f1892 r0 10 _ g0 rfl).trans ((f1770 r0 10 _ g0 rfl).trans ((f1683 r0 10 _ g0 rfl).trans (f1668 r0 10 _ g0 rfl)))))
                    refine wp_of e44 c44_92 (xg_I (pc' := 95) lf_7_50 w1914 g0 sh_27 (by decide) (by decide) ty_27_10 rfl rfl (fun b1918 b1919 => ?_))
                    refine wp_of e44 c44_95 (rw_iconst (pc' := 96) rfl ?_)
                    refine wp_of e44 c44_96 (rw_isub (pc' := 97) rfl ?_)
                    refine wp_of e44 c44_97 (rw_istore_n (pc' := 98) (z := (H1912 r0 10) - 1) (L' := [(2, vI ((H1912 r0 10) - 1)), (1, vI z1640), (0, .ref r0)]) rfl rfl rfl ?_)
                    have lp2148 : ∀ (n2149 : Nat) (v2151 : Int) (H2152 : wq_H), WT T H2152 → wfr [(27, 18), (35, 15), (35, 17), (38, 999), (39, 999), (36, 999), (40, 999), (41, 999), (37, 999)] T H1912 H2152 → ((-1) ≤ v2151 ∧ v2151 ≤ 5) → CS T H2152 r0 (xset d) (v2151 + 1) → CZ T H2152 r0 (v2151 + 1) → (v2151 ≤ d 0 3 - 1) → (H2152 r0 18 = xpr (xset d) (v2151 + 1).toNat ((xset d 0 3).toNat - (v2151 + 1).toNat)) → (v2151 - (-1)).toNat = n2149 → wp kt 3 44 98 [(2, vI v2151), (1, vI z1640), (0, .ref r0)] [] T H2152 (uq_44 r0 d T H) := by
                      intro n2149
                      induction n2149 using Nat.strongRecOn with
                      | _ n2149 ih2150 =>
                        intro v2151 H2152 w2153 f2154 b2155 h2157 h2158 x2159 x2160 m2156
                        have f2161 := f1915.tr f2154 rfl
                        refine wp_of e44 c44_98 (rw_iload_n (pc' := 99) (z := v2151) rfl rfl ?_)
                        refine wp_of e44 c44_99 (rw_if_lt (p1 := 169) (p2 := 102) (by decide) rfl ⟨Int.le_trans (by decide) b2155.1, Int.le_trans b2155.2 (by decide)⟩ (fun c2162 => ?_) (fun c2162 => ?_))
                        · have k2163 : H2152 r0 7 = H r0 7 := ((f2154 r0 7 _ g0 rfl).trans ((wq_u_j e1913 rfl).trans ((f1892 r0 7 _ g0 rfl).trans ((f1770 r0 7 _ g0 rfl).trans ((f1683 r0 7 _ g0 rfl).trans (f1668 r0 7 _ g0 rfl))))))
                          have k2164 : H2152 r0 8 = H r0 8 := ((f2154 r0 8 _ g0 rfl).trans ((wq_u_j e1913 rfl).trans ((f1892 r0 8 _ g0 rfl).trans ((f1770 r0 8 _ g0 rfl).trans ((f1683 r0 8 _ g0 rfl).trans (f1668 r0 8 _ g0 rfl))))))
                          have k2165 : H2152 r0 9 = H r0 9 := ((f2154 r0 9 _ g0 rfl).trans ((wq_u_j e1913 rfl).trans ((f1892 r0 9 _ g0 rfl).trans ((f1770 r0 9 _ g0 rfl).trans ((f1683 r0 9 _ g0 rfl).trans (f1668 r0 9 _ g0 rfl))))))
                          have k2166 : H2152 r0 10 = H1912 r0 10 := (f2154 r0 10 _ g0 rfl)
                          have k2167 : H2152 r0 11 = H r0 11 := ((f2154 r0 11 _ g0 rfl).trans ((wq_u_j e1913 rfl).trans ((f1892 r0 11 _ g0 rfl).trans ((f1770 r0 11 _ g0 rfl).trans ((f1683 r0 11 _ g0 rfl).trans (f1668 r0 11 _ g0 rfl))))))
                          have k2168 : H2152 r0 12 = H r0 12 := ((f2154 r0 12 _ g0 rfl).trans ((wq_u_j e1913 rfl).trans ((f1892 r0 12 _ g0 rfl).trans ((f1770 r0 12 _ g0 rfl).trans ((f1683 r0 12 _ g0 rfl).trans (f1668 r0 12 _ g0 rfl))))))
                          have k2169 : H2152 r0 13 = H1768 r0 13 := ((f2154 r0 13 _ g0 rfl).trans ((wq_u_j e1913 rfl).trans (f1892 r0 13 _ g0 rfl)))
                          have k2170 : H2152 r0 14 = H1890 r0 14 := ((f2154 r0 14 _ g0 rfl).trans (wq_u_j e1913 rfl))
                          have k2171 : H2152 r0 15 = H r0 15 := ((f2154 r0 15 _ g0 rfl).trans ((wq_u_j e1913 rfl).trans ((f1892 r0 15 _ g0 rfl).trans ((f1770 r0 15 _ g0 rfl).trans ((f1683 r0 15 _ g0 rfl).trans (f1668 r0 15 _ g0 rfl))))))
                          have k2172 : H2152 r0 16 = H1890 r0 16 := ((f2154 r0 16 _ g0 rfl).trans (wq_u_j e1913 rfl))
                          have _l := @xlots_e (xset d) v2151 (by omega)
                          have h2173 : DQ T H2152 r0 (xset d) := (DQ_fr w1914 g0 f2154 rfl (DQ_fr w1891 g0 ((wfr.rf (l := [(27, 18)])).put' e1913 g0 rfl) rfl h1905))
                          have h2174 : ST T H2152 r0 (xset d 13) := (ST_fr w1914 g0 f2154 rfl (ST_fr w1891 g0 ((wfr.rf (l := [(27, 18)])).put' e1913 g0 rfl) rfl h1907))
                          have h2175 : SV T H2152 r0 (xset d 13) 24 := (SV_fr w1914 g0 f2154 rfl (SV_fr w1891 g0 ((wfr.rf (l := [(27, 18)])).put' e1913 g0 rfl) rfl h1909))
                          have h2176 : DA3 T H2152 r0 (d 0 5) (d 12) := (DA3_fr w1914 g0 f2154 rfl (DA3_fr w1891 g0 ((wfr.rf (l := [(27, 18)])).put' e1913 g0 rfl) rfl (DA3_fr w1769 g0 f1892 rfl (DA3_fr w1682 g0 f1770 rfl (DA3_fr w1667 g0 f1683 rfl (DA3_fr hW g0 f1668 rfl h1629))))))
                          have h2177 : DA4 T H2152 r0 (d 0 6) (d 14) := (DA4_fr w1914 g0 f2154 rfl (DA4_fr w1891 g0 ((wfr.rf (l := [(27, 18)])).put' e1913 g0 rfl) rfl (DA4_fr w1769 g0 f1892 rfl (DA4_fr w1682 g0 f1770 rfl (DA4_fr w1667 g0 f1683 rfl (DA4_fr hW g0 f1668 rfl h1630))))))
                          have h2178 : DA5 T H2152 r0 (d 0 6) (xset d 15) := (DA5_fr w1914 g0 f2154 rfl (DA5_fr w1891 g0 ((wfr.rf (l := [(27, 18)])).put' e1913 g0 rfl) rfl (DA5_fr w1769 g0 f1892 rfl h1780)))
                          have h2179 : DA6 T H2152 r0 (d 0 7) (xset d 16) := (DA6_fr w1914 g0 f2154 rfl (DA6_fr w1891 g0 ((wfr.rf (l := [(27, 18)])).put' e1913 g0 rfl) rfl h1903))
                          have h2180 : CG T H2152 r0 (d 0 3) (fun _ => 0) := (CG_fr w1914 g0 f2154 rfl (CG_fr w1891 g0 ((wfr.rf (l := [(27, 18)])).put' e1913 g0 rfl) rfl h1911))
                          exact wp_return e44 c44_169 rfl ⟨rfl, w2153, f2161, rfl, ⟨⟨DC_mk ⟨by omega, by omega, by omega, by omega, by omega, by omega, by omega, by omega, by omega, by omega, by omega, by omega, by omega, by omega, by omega, by omega⟩ h2173 h2174 h2175 h2176 h2177 h2178 h2179 ⟨rfl, rfl, rfl, rfl, rfl⟩ ⟨rfl, rfl, rfl⟩, CS_ge h2157 (by omega), by omega⟩, ⟨h2180, (h2158).1⟩⟩⟩
                        · refine wp_of e44 c44_102 (rw_aload_n (pc' := 103) (v := .ref r0) rfl rfl rfl ?_)
                          refine wp_of e44 c44_103 (xg_R (pc' := 106) lf_7_11 w2153 g0 sh_27 (by decide) (by decide) ty_27_0 rfl rfl (fun r2181 q2182 g2183 => ?_))
                          refine wp_of e44 c44_106 (rw_iload_n (pc' := 107) (z := v2151) rfl rfl ?_)
                          refine wp_of e44 c44_107 (xa_R (pc' := 108) (by decide) w2153 g2183 sh_28 (by decide) (ty_28 _) (by omega) (Int.lt_of_le_of_lt b2155.2 (by decide)) rfl (fun r2184 q2185 g2186 => ?_))
                          have h2187 : DQ T H2152 r0 (xset d) := (DQ_fr w1914 g0 f2154 rfl (DQ_fr w1891 g0 ((wfr.rf (l := [(27, 18)])).put' e1913 g0 rfl) rfl h1905))
                          have _f := DQ_at h2187 q2182 q2185 (k := (v2151).toNat) (by omega)
                          have _z := CZ_at h2158 q2182 q2185 (k := (v2151).toNat) (by omega)
                          have h2188 : PX T H2152 r2184 (xset d) (v2151).toNat := ⟨_f, xdP_set p0⟩
                          refine wp_of e44 c44_108 (rw_iload_n (pc' := 109) (z := z1640) rfl rfl ?_)
                          refine wp_of e44 c44_109 (rw_iload_n (pc' := 110) (z := v2151) rfl rfl ?_)
                          refine wp_of e44 c44_110 (rw_aload_n (pc' := 111) (v := .ref r0) rfl rfl rfl ?_)
                          have k2189 : H2152 r0 15 = H r0 15 := ((f2154 r0 15 _ g0 rfl).trans ((wq_u_j e1913 rfl).trans ((f1892 r0 15 _ g0 rfl).trans ((f1770 r0 15 _ g0 rfl).trans ((f1683 r0 15 _ g0 rfl).trans (f1668 r0 15 _ g0 rfl))))))
                          refine wp_of e44 c44_111 (xg_I (pc' := 114) lf_7_37 w2153 g0 sh_27 (by decide) (by decide) ty_27_15 rfl rfl (fun b2190 b2191 => ?_))
                          refine wp_of e44 c44_114 (rw_icmp_ne (p1 := 126) (p2 := 117) (by decide) rfl ⟨Int.le_trans (by decide) b2155.1, Int.le_trans b2155.2 (by decide)⟩ ⟨b2190, b2191⟩ (fun c2192 => ?_) (fun c2192 => ?_))
                          · refine wp_of e44 c44_126 (rw_iconst (pc' := 127) rfl ?_)
                            have _m : (0 : Int) = xmu (xset d) (v2151).toNat := xmu_n (by omega)
                            have h2193 : SQ T H2152 (cP H2152 r2184) := cP_SQ w2153 g2186
                            have w2194 := rt_WT w2153 h2193
                            refine wp_of e44 c44_127 (xc_V (pc' := 130) (r := r2184) (as := [vI z1640, vI 0]) (st := []) (lm_7_103) rfl rfl (Nat.le_of_ble_eq_true rfl) w2153 g2186 sh_35 (by decide) rfl (by decide) (rt_wpc (C := cP H2152 r2184) (u_47 (T := rtT T (cP H2152 r2184)) (d := ((xset d))) (k := ((v2151).toNat)) w2194 (rtT_k (C := cP H2152 r2184) g2186 (rtF_c g2186 (by decide) cP_p)) ⟨by omega, by omega⟩ ⟨by omega, by omega⟩ (by omega) (by omega) (by omega) h2188) (fun _ _ _ p => p.1)) (fun R2195 T2196 H2197 p2198 => ?_))
                            obtain ⟨e2199, -, w2201, f2202, e2200, p2203⟩ := p2198
                            subst e2199
                            subst e2200
                            have o2206 := rt_old f2202 rfl
                            have f2205 := rt_fr f2202 rfl
                            have w2204 := rt_un w2153 w2201 o2206
                            have f2208 := f2161.tr f2205 rfl
                            have f2209 := f2154.tr f2205 rfl
                            show wp _ _ 44 130 [(2, vI v2151), (1, vI z1640), (0, .ref r0)] [] _ H2197 _
                            have h2210 : PS T H2197 r2184 ((xset d)) ((v2151).toNat) (xsp ((xset d)) ((v2151).toNat)) := PS_un p2203
                            have k2211 : H2197 r0 0 = H2152 r0 0 := (f2205 r0 0 _ g0 rfl)
                            have q2212 : H2197 r0 0 = (r2181 : Int) := k2211.trans q2182
                            have h2213 : DD T H2152 r0  := (DD_fr w1914 g0 f2154 rfl (DD_fr w1891 g0 ((wfr.rf (l := [(27, 18)])).put' e1913 g0 rfl) rfl (DD_fr w1769 g0 f1892 rfl (DD_fr w1682 g0 f1770 rfl (DD_fr w1667 g0 f1683 rfl (DD_fr hW g0 f1668 rfl hDD_r0))))))
                            have h2214 : DE T H2152 r0  := (DE_fr w1914 g0 f2154 rfl (DE_fr w1891 g0 ((wfr.rf (l := [(27, 18)])).put' e1913 g0 rfl) rfl (DE_fr w1769 g0 f1892 rfl (DE_fr w1682 g0 f1770 rfl (DE_fr w1667 g0 f1683 rfl (DE_fr hW g0 f1668 rfl hDE_r0))))))
                            have h2215 : CS T H2197 r0 (xset d) (v2151 + 1) := CS_mk w2153 g0 h2213 h2214 q2182 g2183 q2212 (fun j => congrFun (f2205.fn g2183 rfl) j) q2185 g2186 (k := (v2151).toNat) (by omega) (by omega) o2206 (by omega) h2157
                            have h2216 : CZ T H2197 r0 (v2151) := CZ_mk w2153 g0 h2213 h2214 q2182 q2212 (fun j => congrFun (f2205.fn g2183 rfl) j) (f2205 r0 17 _ g0 rfl) q2185 g2186 (k := (v2151).toNat) (by omega) (by omega) o2206 h2158
                            have _n := (h2210).1
                            refine wp_of e44 c44_130 (rw_aload_n (pc' := 131) (v := .ref r0) rfl rfl rfl ?_)
                            refine wp_of e44 c44_131 (xg_K (pc' := 134) lf_7_11 w2204 g0 sh_27 (by decide) (by decide) rfl q2212 rfl ?_)
                            refine wp_of e44 c44_134 (rw_iload_n (pc' := 135) (z := v2151) rfl rfl ?_)
                            have k2217 : H2197 r2181 (v2151.toNat) = H2152 r2181 (v2151.toNat) := (f2205 r2181 (v2151.toNat) _ g2183 rfl)
                            have q2218 : H2197 r2181 (v2151.toNat) = (r2184 : Int) := k2217.trans q2185
                            refine wp_of e44 c44_135 (xa_K (pc' := 136) (by decide) w2204 g2183 sh_28 (by decide) (by omega) (Int.lt_of_le_of_lt b2155.2 (by decide)) q2218 rfl ?_)
                            refine wp_of e44 c44_136 (rw_aload_n (pc' := 137) (v := .ref r0) rfl rfl rfl ?_)
                            have k2219 : H2197 r0 18 = H2152 r0 18 := (f2205 r0 18 _ g0 rfl)
                            refine wp_of e44 c44_137 (xg_L (pc' := 140) lf_7_71 w2204 g0 sh_27 (by decide) (by decide) ty_27_18 rfl rfl (fun b2220 b2221 => ?_))
                            refine wp_of e44 c44_140 (rw_l2i (pc' := 141) rfl ?_)
                            obtain ⟨v2222, e2223⟩ : ∃ x : Int, x = wq_w (H2197 r0 18) := ⟨_, rfl⟩
                            rw [← e2223]
                            have b2224 : -2147483648 ≤ v2222 ∧ v2222 ≤ 2147483647 := by
                              rw [e2223]
                              exact wI_w _
                            have b2225 : (-2147483648 ≤ (H2197 r0 18) ∧ (H2197 r0 18) ≤ 2147483647) → v2222 = (H2197 r0 18) := by
                              rw [e2223]
                              exact fun h => wq_w_id h
                            have _t := @str_m (xset d) v2151 _ _ (by omega) (by omega) e2223
                            have h2226 : DD T H2197 r0  := (DD_fr w2153 g0 f2205 rfl (DD_fr w1914 g0 f2154 rfl (DD_fr w1891 g0 ((wfr.rf (l := [(27, 18)])).put' e1913 g0 rfl) rfl (DD_fr w1769 g0 f1892 rfl (DD_fr w1682 g0 f1770 rfl (DD_fr w1667 g0 f1683 rfl (DD_fr hW g0 f1668 rfl hDD_r0)))))))
                            refine wp_of e44 c44_141 (xp_I (pc' := 144) lf_7_107 w2204 g2186 sh_35 (by decide) (by decide) ty_35_17 rfl rfl (b2224.1) (b2224.2) ⟨b2224.1, b2224.2⟩ rfl (fun H2227 e2228 w2229 => ?_))
                            have f2230 := f2208.put' e2228 g2186 rfl
                            have f2231 := f2209.put' e2228 g2186 rfl
                            have k2232 : H2227 r2184 17 = v2222 := wq_u_s e2228
                            have h2233 : CS T H2227 r0 (xset d) (v2151 + 1) := CS_17 h2226 q2212 g2183 g0 q2218 g2186 (k := (v2151).toNat) (by omega) (by omega) (by omega) e2228 h2215
                            refine wp_of e44 c44_144 (rw_aload_n (pc' := 145) (v := .ref r0) rfl rfl rfl ?_)
                            refine wp_of e44 c44_145 (rw_dup (pc' := 146) rfl rfl ?_)
                            have k2234 : H2227 r0 18 = H2197 r0 18 := (wq_u_t e2228 g2186 g0 rfl 18)
                            refine wp_of e44 c44_146 (xg_L (pc' := 149) lf_7_71 w2229 g0 sh_27 (by decide) (by decide) ty_27_18 rfl rfl (fun b2235 b2236 => ?_))
                            refine wp_of e44 c44_149 (rw_aload_n (pc' := 150) (v := .ref r0) rfl rfl rfl ?_)
                            have k2237 : H2227 r0 0 = H2197 r0 0 := (wq_u_t e2228 g2186 g0 rfl 0)
                            have q2238 : H2227 r0 0 = (r2181 : Int) := k2237.trans q2212
                            refine wp_of e44 c44_150 (xg_K (pc' := 153) lf_7_11 w2229 g0 sh_27 (by decide) (by decide) rfl q2238 rfl ?_)
                            refine wp_of e44 c44_153 (rw_iload_n (pc' := 154) (z := v2151) rfl rfl ?_)
                            have k2239 : H2227 r2181 (v2151.toNat) = H2197 r2181 (v2151.toNat) := (wq_u_t e2228 g2186 g2183 rfl (v2151.toNat))
                            have q2240 : H2227 r2181 (v2151.toNat) = (r2184 : Int) := k2239.trans q2218
                            refine wp_of e44 c44_154 (xa_K (pc' := 155) (by decide) w2229 g2183 sh_28 (by decide) (by omega) (Int.lt_of_le_of_lt b2155.2 (by decide)) q2240 rfl ?_)
                            have k2241 : H2227 r2184 15 = H2197 r2184 15 := (wq_u_j e2228 rfl)
                            refine wp_of e44 c44_155 (xg_I (pc' := 158) lf_7_110 w2229 g2186 sh_35 (by decide) (by decide) ty_35_15 rfl rfl (fun b2242 b2243 => ?_))
                            refine wp_of e44 c44_158 (rw_i2l (pc' := 159) rfl ⟨Int.le_trans (by decide) b2242, Int.le_trans b2243 (by decide)⟩ ?_)
                            refine wp_of e44 c44_159 (rw_lmulw (pc' := 160) rfl ?_)
                            obtain ⟨v2244, e2245⟩ : ∃ x : Int, x = wl_w ((H2227 r0 18) * (H2227 r2184 15)) := ⟨_, rfl⟩
                            rw [← e2245]
                            have b2246 : -9223372036854775808 ≤ v2244 ∧ v2244 ≤ 9223372036854775807 := by
                              rw [e2245]
                              exact wL_w _
                            have b2247 : (-9223372036854775808 ≤ (H2227 r0 18) * (H2227 r2184 15) ∧ (H2227 r0 18) * (H2227 r2184 15) ≤ 9223372036854775807) → v2244 = (H2227 r0 18) * (H2227 r2184 15) := fun h => by rw [e2245]; exact wl_w_id h
                            have _e := @xpr_m (xset d) v2151 _ _ _ (xdP_set p0) (by omega) (by omega) (by omega) (by omega) (by omega) e2245
                            refine wp_of e44 c44_160 (xp_L (pc' := 163) lf_7_71 w2229 g0 sh_27 (by decide) (by decide) ty_27_18 rfl rfl (b2246.1) (b2246.2) ⟨b2246.1, b2246.2⟩ rfl (fun H2248 e2249 w2250 => ?_))
                            have f2251 := f2230.put' e2249 g0 rfl
                            have f2252 := f2231.put' e2249 g0 rfl
                            have k2253 : H2248 r0 18 = v2244 := wq_u_s e2249
                            have k2254 : H2248 r2184 17 = H2227 r2184 17 := (wq_u_t e2249 g0 g2186 rfl 17)
                            have k2255 : H2248 r2181 (v2151.toNat) = H2227 r2181 (v2151.toNat) := (wq_u_t e2249 g0 g2183 rfl (v2151.toNat))
                            have q2256 : H2248 r2181 (v2151.toNat) = (r2184 : Int) := k2255.trans q2240
                            have h2257 : PS T H2248 r2184 ((xset d)) ((v2151).toNat) (xsp ((xset d)) ((v2151).toNat)) := (PS_fr w2229 g2186 ((wfr.rf (l := [(27, 18)])).put' e2249 g0 rfl) rfl (PS_fr w2204 g2186 ((wfr.rf (l := [(35, 17)])).put' e2228 g2186 rfl) rfl h2210))
                            have k2258 : H2248 r0 0 = H2227 r0 0 := (wq_u_j e2249 rfl)
                            have q2259 : H2248 r0 0 = (r2181 : Int) := k2258.trans q2238
                            have h2260 : CS T H2248 r0 (xset d) (v2151 + 1) := (CS_fr w2229 g0 ((wfr.rf (l := [(27, 18)])).put' e2249 g0 rfl) rfl h2233)
                            have h2261 : CS T H2248 r0 (xset d) ((v2151 + (-1)) + 1) := CS_ge (CS_cons (i := v2151) (k := (v2151).toNat) q2259 q2256 g2186 h2257 (by omega) (by omega) h2260) (by omega)
                            have h2262 : CZ T H2248 r0 (v2151) := (CZ_fr w2229 g0 ((wfr.rf (l := [(27, 18)])).put' e2249 g0 rfl) rfl (CZ_fr w2204 g0 ((wfr.rf (l := [(35, 17)])).put' e2228 g2186 rfl) rfl h2216))
                            have h2263 : CZ T H2248 r0 ((v2151 + (-1)) + 1) := CZ_le h2262 (by omega)
                            refine wp_of e44 c44_163 (rw_iinc (pc' := 166) (z := v2151) (L' := [(2, vI (v2151 + (-1))), (1, vI z1640), (0, .ref r0)]) rfl rfl rfl rfl ?_)
                            refine wp_of e44 c44_166 (rw_goto (p1 := 98) (by decide) ?_)
                            exact wp_lc (ks := [2, 1, 0]) (wl_c rfl (wl_c rfl (wl_c rfl wl_n))) rfl (by decide) (ih2150 _ (by omega) (v2151 + (-1)) H2248 w2250 f2252 ⟨by omega, by omega⟩ h2261 h2263 (by omega) (by rw [show v2151 + (-1) + 1 = v2151 by omega]; omega) rfl)
                          · refine wp_of e44 c44_117 (rw_aload_n (pc' := 118) (v := .ref r0) rfl rfl rfl ?_)
                            refine wp_of e44 c44_118 (rw_bipush (pc' := 120) (z := 99) rfl (by decide) ?_)
                            have k2264 : H2152 r0 16 = H1890 r0 16 := ((f2154 r0 16 _ g0 rfl).trans (wq_u_j e1913 rfl))
                            have h2265 : ST T H2152 r0 (xset d 13) := (ST_fr w1914 g0 f2154 rfl (ST_fr w1891 g0 ((wfr.rf (l := [(27, 18)])).put' e1913 g0 rfl) rfl h1907))
                            have h2266 : SV T H2152 r0 (xset d 13) 24 := (SV_fr w1914 g0 f2154 rfl (SV_fr w1891 g0 ((wfr.rf (l := [(27, 18)])).put' e1913 g0 rfl) rfl h1909))
                            refine wp_of e44 c44_120 (xc_V (pc' := 123) (r := r0) (as := [vI 99]) (st := [vI z1640, .ref r2184]) (lm_7_99) rfl rfl (Nat.le_of_ble_eq_true rfl) w2153 g0 sh_27 (by decide) rfl (by decide) (u_46 (f := ((xset d 13))) (y := 99) w2153 g0 ⟨by decide, by decide⟩ (by omega) (by omega) h2265 h2266) (fun R2267 T2268 H2269 p2270 => ?_))
                            obtain ⟨e2271, e2273, z2274, e2272, b2275, p2276⟩ := p2270
                            subst e2271
                            subst e2272
                            subst e2273
                            show wp _ _ 44 123 [(2, vI v2151), (1, vI z1640), (0, .ref r0)] [vI z2274, vI z1640, .ref r2184] _ H2152 _
                            refine wp_of e44 c44_123 (rw_goto (p1 := 127) (by decide) ?_)
                            have _m : z2274 = xmu (xset d) (v2151).toNat := xmu_y (by omega) (ST_100 h2265) (by assumption)
                            have h2278 : SQ T H2152 (cP H2152 r2184) := cP_SQ w2153 g2186
                            have w2279 := rt_WT w2153 h2278
                            refine wp_of e44 c44_127 (xc_V (pc' := 130) (r := r2184) (as := [vI z1640, vI z2274]) (st := []) (lm_7_103) rfl rfl (Nat.le_of_ble_eq_true rfl) w2153 g2186 sh_35 (by decide) rfl (by decide) (rt_wpc (C := cP H2152 r2184) (u_47 (T := rtT T (cP H2152 r2184)) (d := ((xset d))) (k := ((v2151).toNat)) w2279 (rtT_k (C := cP H2152 r2184) g2186 (rtF_c g2186 (by decide) cP_p)) ⟨by omega, by omega⟩ ⟨by omega, by omega⟩ (by omega) (by omega) (by omega) h2188) (fun _ _ _ p => p.1)) (fun R2280 T2281 H2282 p2283 => ?_))
                            obtain ⟨e2284, -, w2286, f2287, e2285, p2288⟩ := p2283
                            subst e2284
                            subst e2285
                            have o2291 := rt_old f2287 rfl
                            have f2290 := rt_fr f2287 rfl
                            have w2289 := rt_un w2153 w2286 o2291
                            have f2293 := f2161.tr f2290 rfl
                            have f2294 := f2154.tr f2290 rfl
                            show wp _ _ 44 130 [(2, vI v2151), (1, vI z1640), (0, .ref r0)] [] _ H2282 _
                            have h2295 : PS T H2282 r2184 ((xset d)) ((v2151).toNat) (xsp ((xset d)) ((v2151).toNat)) := PS_un p2288
                            have k2296 : H2282 r0 0 = H2152 r0 0 := (f2290 r0 0 _ g0 rfl)
                            have q2297 : H2282 r0 0 = (r2181 : Int) := k2296.trans q2182
                            have h2298 : DD T H2152 r0  := (DD_fr w1914 g0 f2154 rfl (DD_fr w1891 g0 ((wfr.rf (l := [(27, 18)])).put' e1913 g0 rfl) rfl (DD_fr w1769 g0 f1892 rfl (DD_fr w1682 g0 f1770 rfl (DD_fr w1667 g0 f1683 rfl (DD_fr hW g0 f1668 rfl hDD_r0))))))
                            have h2299 : DE T H2152 r0  := (DE_fr w1914 g0 f2154 rfl (DE_fr w1891 g0 ((wfr.rf (l := [(27, 18)])).put' e1913 g0 rfl) rfl (DE_fr w1769 g0 f1892 rfl (DE_fr w1682 g0 f1770 rfl (DE_fr w1667 g0 f1683 rfl (DE_fr hW g0 f1668 rfl hDE_r0))))))
                            have h2300 : CS T H2282 r0 (xset d) (v2151 + 1) := CS_mk w2153 g0 h2298 h2299 q2182 g2183 q2297 (fun j => congrFun (f2290.fn g2183 rfl) j) q2185 g2186 (k := (v2151).toNat) (by omega) (by omega) o2291 (by omega) h2157
                            have h2301 : CZ T H2282 r0 (v2151) := CZ_mk w2153 g0 h2298 h2299 q2182 q2297 (fun j => congrFun (f2290.fn g2183 rfl) j) (f2290 r0 17 _ g0 rfl) q2185 g2186 (k := (v2151).toNat) (by omega) (by omega) o2291 h2158
                            have _n := (h2295).1
                            refine wp_of e44 c44_130 (rw_aload_n (pc' := 131) (v := .ref r0) rfl rfl rfl ?_)
                            refine wp_of e44 c44_131 (xg_K (pc' := 134) lf_7_11 w2289 g0 sh_27 (by decide) (by decide) rfl q2297 rfl ?_)
                            refine wp_of e44 c44_134 (rw_iload_n (pc' := 135) (z := v2151) rfl rfl ?_)
                            have k2302 : H2282 r2181 (v2151.toNat) = H2152 r2181 (v2151.toNat) := (f2290 r2181 (v2151.toNat) _ g2183 rfl)
                            have q2303 : H2282 r2181 (v2151.toNat) = (r2184 : Int) := k2302.trans q2185
                            refine wp_of e44 c44_135 (xa_K (pc' := 136) (by decide) w2289 g2183 sh_28 (by decide) (by omega) (Int.lt_of_le_of_lt b2155.2 (by decide)) q2303 rfl ?_)
                            refine wp_of e44 c44_136 (rw_aload_n (pc' := 137) (v := .ref r0) rfl rfl rfl ?_)
                            have k2304 : H2282 r0 18 = H2152 r0 18 := (f2290 r0 18 _ g0 rfl)
                            refine wp_of e44 c44_137 (xg_L (pc' := 140) lf_7_71 w2289 g0 sh_27 (by decide) (by decide) ty_27_18 rfl rfl (fun b2305 b2306 => ?_))
                            refine wp_of e44 c44_140 (rw_l2i (pc' := 141) rfl ?_)
                            obtain ⟨v2307, e2308⟩ : ∃ x : Int, x = wq_w (H2282 r0 18) := ⟨_, rfl⟩
                            rw [← e2308]
                            have b2309 : -2147483648 ≤ v2307 ∧ v2307 ≤ 2147483647 := by
                              rw [e2308]
                              exact wI_w _
                            have b2310 : (-2147483648 ≤ (H2282 r0 18) ∧ (H2282 r0 18) ≤ 2147483647) → v2307 = (H2282 r0 18) := by
                              rw [e2308]
                              exact fun h => wq_w_id h
                            have _t := @str_m (xset d) v2151 _ _ (by omega) (by omega) e2308
                            have h2311 : DD T H2282 r0  := (DD_fr w2153 g0 f2290 rfl (DD_fr w1914 g0 f2154 rfl (DD_fr w1891 g0 ((wfr.rf (l := [(27, 18)])).put' e1913 g0 rfl) rfl (DD_fr w1769 g0 f1892 rfl (DD_fr w1682 g0 f1770 rfl (DD_fr w1667 g0 f1683 rfl (DD_fr hW g0 f1668 rfl hDD_r0)))))))
                            refine wp_of e44 c44_141 (xp_I (pc' := 144) lf_7_107 w2289 g2186 sh_35 (by decide) (by decide) ty_35_17 rfl rfl (b2309.1) (b2309.2) ⟨b2309.1, b2309.2⟩ rfl (fun H2312 e2313 w2314 => ?_))
                            have f2315 := f2293.put' e2313 g2186 rfl
                            have f2316 := f2294.put' e2313 g2186 rfl
                            have k2317 : H2312 r2184 17 = v2307 := wq_u_s e2313
                            have h2318 : CS T H2312 r0 (xset d) (v2151 + 1) := CS_17 h2311 q2297 g2183 g0 q2303 g2186 (k := (v2151).toNat) (by omega) (by omega) (by omega) e2313 h2300
                            refine wp_of e44 c44_144 (rw_aload_n (pc' := 145) (v := .ref r0) rfl rfl rfl ?_)
                            refine wp_of e44 c44_145 (rw_dup (pc' := 146) rfl rfl ?_)
                            have k2319 : H2312 r0 18 = H2282 r0 18 := (wq_u_t e2313 g2186 g0 rfl 18)
                            refine wp_of e44 c44_146 (xg_L (pc' := 149) lf_7_71 w2314 g0 sh_27 (by decide) (by decide) ty_27_18 rfl rfl (fun b2320 b2321 => ?_))
                            refine wp_of e44 c44_149 (rw_aload_n (pc' := 150) (v := .ref r0) rfl rfl rfl ?_)
                            have k2322 : H2312 r0 0 = H2282 r0 0 := (wq_u_t e2313 g2186 g0 rfl 0)
                            have q2323 : H2312 r0 0 = (r2181 : Int) := k2322.trans q2297
                            refine wp_of e44 c44_150 (xg_K (pc' := 153) lf_7_11 w2314 g0 sh_27 (by decide) (by decide) rfl q2323 rfl ?_)
                            refine wp_of e44 c44_153 (rw_iload_n (pc' := 154) (z := v2151) rfl rfl ?_)
                            have k2324 : H2312 r2181 (v2151.toNat) = H2282 r2181 (v2151.toNat) := (wq_u_t e2313 g2186 g2183 rfl (v2151.toNat))
                            have q2325 : H2312 r2181 (v2151.toNat) = (r2184 : Int) := k2324.trans q2303
                            refine wp_of e44 c44_154 (xa_K (pc' := 155) (by decide) w2314 g2183 sh_28 (by decide) (by omega) (Int.lt_of_le_of_lt b2155.2 (by decide)) q2325 rfl ?_)
                            have k2326 : H2312 r2184 15 = H2282 r2184 15 := (wq_u_j e2313 rfl)
                            refine wp_of e44 c44_155 (xg_I (pc' := 158) lf_7_110 w2314 g2186 sh_35 (by decide) (by decide) ty_35_15 rfl rfl (fun b2327 b2328 => ?_))
                            refine wp_of e44 c44_158 (rw_i2l (pc' := 159) rfl ⟨Int.le_trans (by decide) b2327, Int.le_trans b2328 (by decide)⟩ ?_)
                            refine wp_of e44 c44_159 (rw_lmulw (pc' := 160) rfl ?_)
                            obtain ⟨v2329, e2330⟩ : ∃ x : Int, x = wl_w ((H2312 r0 18) * (H2312 r2184 15)) := ⟨_, rfl⟩
                            rw [← e2330]
                            have b2331 : -9223372036854775808 ≤ v2329 ∧ v2329 ≤ 9223372036854775807 := by
                              rw [e2330]
                              exact wL_w _
                            have b2332 : (-9223372036854775808 ≤ (H2312 r0 18) * (H2312 r2184 15) ∧ (H2312 r0 18) * (H2312 r2184 15) ≤ 9223372036854775807) → v2329 = (H2312 r0 18) * (H2312 r2184 15) := fun h => by rw [e2330]; exact wl_w_id h
                            have _e := @xpr_m (xset d) v2151 _ _ _ (xdP_set p0) (by omega) (by omega) (by omega) (by omega) (by omega) e2330
                            refine wp_of e44 c44_160 (xp_L (pc' := 163) lf_7_71 w2314 g0 sh_27 (by decide) (by decide) ty_27_18 rfl rfl (b2331.1) (b2331.2) ⟨b2331.1, b2331.2⟩ rfl (fun H2333 e2334 w2335 => ?_))
                            have f2336 := f2315.put' e2334 g0 rfl
                            have f2337 := f2316.put' e2334 g0 rfl
                            have k2338 : H2333 r0 18 = v2329 := wq_u_s e2334
                            have k2339 : H2333 r2184 17 = H2312 r2184 17 := (wq_u_t e2334 g0 g2186 rfl 17)
                            have k2340 : H2333 r2181 (v2151.toNat) = H2312 r2181 (v2151.toNat) := (wq_u_t e2334 g0 g2183 rfl (v2151.toNat))
                            have q2341 : H2333 r2181 (v2151.toNat) = (r2184 : Int) := k2340.trans q2325
                            have h2342 : PS T H2333 r2184 ((xset d)) ((v2151).toNat) (xsp ((xset d)) ((v2151).toNat)) := (PS_fr w2314 g2186 ((wfr.rf (l := [(27, 18)])).put' e2334 g0 rfl) rfl (PS_fr w2289 g2186 ((wfr.rf (l := [(35, 17)])).put' e2313 g2186 rfl) rfl h2295))
                            have k2343 : H2333 r0 0 = H2312 r0 0 := (wq_u_j e2334 rfl)
                            have q2344 : H2333 r0 0 = (r2181 : Int) := k2343.trans q2323
                            have h2345 : CS T H2333 r0 (xset d) (v2151 + 1) := (CS_fr w2314 g0 ((wfr.rf (l := [(27, 18)])).put' e2334 g0 rfl) rfl h2318)
                            have h2346 : CS T H2333 r0 (xset d) ((v2151 + (-1)) + 1) := CS_ge (CS_cons (i := v2151) (k := (v2151).toNat) q2344 q2341 g2186 h2342 (by omega) (by omega) h2345) (by omega)
                            have h2347 : CZ T H2333 r0 (v2151) := (CZ_fr w2314 g0 ((wfr.rf (l := [(27, 18)])).put' e2334 g0 rfl) rfl (CZ_fr w2289 g0 ((wfr.rf (l := [(35, 17)])).put' e2313 g2186 rfl) rfl h2301))
                            have h2348 : CZ T H2333 r0 ((v2151 + (-1)) + 1) := CZ_le h2347 (by omega)
                            refine wp_of e44 c44_163 (rw_iinc (pc' := 166) (z := v2151) (L' := [(2, vI (v2151 + (-1))), (1, vI z1640), (0, .ref r0)]) rfl rfl rfl rfl ?_)
                            refine wp_of e44 c44_166 (rw_goto (p1 := 98) (by decide) ?_)
                            exact wp_lc (ks := [2, 1, 0]) (wl_c rfl (wl_c rfl (wl_c rfl wl_n))) rfl (by decide) (ih2150 _ (by omega) (v2151 + (-1)) H2333 w2335 f2337 ⟨by omega, by omega⟩ h2346 h2348 (by omega) (by rw [show v2151 + (-1) + 1 = v2151 by omega]; omega) rfl)
                    have _w := @xpr_z (xset d) (((H1912 r0 10) - 1) + 1).toNat (by omega)
                    have h2349 : CS T H1912 r0 (xset d) (((H1912 r0 10) - 1) + 1) := CS_0 (xdP_set p0) (by omega)
                    have h2350 : CZ T H1912 r0 (d 0 3) := (CZ_fr w1891 g0 ((wfr.rf (l := [(27, 18)])).put' e1913 g0 rfl) rfl h1910)
                    have h2351 : CZ T H1912 r0 (((H1912 r0 10) - 1) + 1) := CZ_le h2350 (by omega)
                    exact wp_lc (ks := [2, 1, 0]) (wl_c rfl (wl_c rfl (wl_c rfl wl_n))) rfl (by decide) (lp2148 _ ((H1912 r0 10) - 1) H1912 w1914 wfr.rf ⟨by omega, by omega⟩ h2349 h2351 (by omega) (by omega) rfl)
                  · refine wp_of e44 c44_70 (rw_aload_n (pc' := 71) (v := .ref r0) rfl rfl rfl ?_)
                    refine wp_of e44 c44_71 (xg_R (pc' := 74) lf_7_33 w1891 g0 sh_27 (by decide) (by decide) ty_27_6 rfl rfl (fun r2352 q2353 g2354 => ?_))
                    refine wp_of e44 c44_74 (rw_iload_n (pc' := 75) (z := v1889) rfl rfl ?_)
                    refine wp_of e44 c44_75 (rw_dup2 (pc' := 76) rfl rfl rfl ?_)
                    refine wp_of e44 c44_76 (xa_I (so := 0) (pc' := 77) w1891 g2354 sh_34 (by decide) (ty_34 _) (b1893.1) (by omega) rfl (fun b2355 b2356 => ?_))
                    have _d := DA_at h1895 q2353 (k := (v1889.toNat)) (by omega)
                    refine wp_of e44 c44_77 (rw_iload_n (pc' := 78) (z := z1640) rfl rfl ?_)
                    refine wp_of e44 c44_78 (rw_iand (pc' := 79) rfl ?_)
                    obtain ⟨v2357, e2358⟩ : ∃ x : Int, x = wq_and (H1890 r2352 (v1889.toNat)) z1640 := ⟨_, rfl⟩
                    rw [← e2358]
                    have b2359 : 0 ≤ v2357 ∧ v2357 ≤ z1640 := by
                      rw [e2358]
                      exact wq_and_b _ (by omega) (by omega)
                    refine wp_of e44 c44_79 (xs_I (pc' := 80) w1891 g2354 (by decide) sh_34 (by decide) (ty_34 _) (by omega) (by omega) ⟨by omega, by omega⟩ (b1893.1) (by omega) rfl (fun H2360 e2361 w2362 => ?_))
                    have f2363 := f1897.put' e2361 g2354 rfl
                    have f2364 := f1892.put' e2361 g2354 rfl
                    have h2365 : DA6 T H2360 r0 (d 0 7) (xmk (d 16) (xal d) (v1889 + 1)) := DAo_set h1895 q2353 g0 g2354 (by decide) e2361 (xmk_k (by omega) e2358 _d _al) (xmk_c (by omega)).2.1
                    refine wp_of e44 c44_80 (rw_iinc (pc' := 83) (z := v1889) (L' := [(2, vI (v1889 + 1)), (1, vI z1640), (0, .ref r0)]) rfl rfl rfl rfl ?_)
                    refine wp_of e44 c44_83 (rw_goto (p1 := 62) (by decide) ?_)
                    exact wp_lc (ks := [2, 1, 0]) (wl_c rfl (wl_c rfl (wl_c rfl wl_n))) rfl (by decide) (ih1888 _ (by omega) (v1889 + 1) H2360 w2362 f2364 ⟨by omega, by omega⟩ h2365 (by omega) rfl)
              have h2366 : DA6 T H1768 r0 (d 0 7) (d 16) := (DA6_fr w1682 g0 f1770 rfl (DA6_fr w1667 g0 f1683 rfl (DA6_fr hW g0 f1668 rfl h1632)))
              have h2367 : DA6 T H1768 r0 (d 0 7) (xmk (d 16) (xal d) 0) := by rw [xmk_0]; exact h2366
              exact wp_lc (ks := [2, 1, 0]) (wl_c rfl (wl_c rfl (wl_c rfl wl_n))) rfl (by decide) (lp1886 _ 0 H1768 w1769 wfr.rf ⟨by decide, by decide⟩ h2367 (by omega) rfl)
            · refine wp_of e44 c44_44 (rw_aload_n (pc' := 45) (v := .ref r0) rfl rfl rfl ?_)
              refine wp_of e44 c44_45 (xg_R (pc' := 48) lf_7_30 w1769 g0 sh_27 (by decide) (by decide) ty_27_5 rfl rfl (fun r2368 q2369 g2370 => ?_))
              refine wp_of e44 c44_48 (rw_iload_n (pc' := 49) (z := v1767) rfl rfl ?_)
              refine wp_of e44 c44_49 (rw_dup2 (pc' := 50) rfl rfl rfl ?_)
              refine wp_of e44 c44_50 (xa_I (so := 0) (pc' := 51) w1769 g2370 sh_33 (by decide) (ty_33 _) (b1771.1) (by omega) rfl (fun b2371 b2372 => ?_))
              have _d := DA_at h1773 q2369 (k := (v1767.toNat)) (by omega)
              refine wp_of e44 c44_51 (rw_iload_n (pc' := 52) (z := z1640) rfl rfl ?_)
              refine wp_of e44 c44_52 (rw_iand (pc' := 53) rfl ?_)
              obtain ⟨v2373, e2374⟩ : ∃ x : Int, x = wq_and (H1768 r2368 (v1767.toNat)) z1640 := ⟨_, rfl⟩
              rw [← e2374]
              have b2375 : 0 ≤ v2373 ∧ v2373 ≤ z1640 := by
                rw [e2374]
                exact wq_and_b _ (by omega) (by omega)
              refine wp_of e44 c44_53 (xs_I (pc' := 54) w1769 g2370 (by decide) sh_33 (by decide) (ty_33 _) (by omega) (by omega) ⟨by omega, by omega⟩ (b1771.1) (by omega) rfl (fun H2376 e2377 w2378 => ?_))
              have f2379 := f1775.put' e2377 g2370 rfl
              have f2380 := f1770.put' e2377 g2370 rfl
              have h2381 : DA5 T H2376 r0 (d 0 6) (xmk (d 15) (xal d) (v1767 + 1)) := DAo_set h1773 q2369 g0 g2370 (by decide) e2377 (xmk_k (by omega) e2374 _d _al) (xmk_c (by omega)).2.1
              refine wp_of e44 c44_54 (rw_iinc (pc' := 57) (z := v1767) (L' := [(2, vI (v1767 + 1)), (1, vI z1640), (0, .ref r0)]) rfl rfl rfl rfl ?_)
              refine wp_of e44 c44_57 (rw_goto (p1 := 36) (by decide) ?_)
              exact wp_lc (ks := [2, 1, 0]) (wl_c rfl (wl_c rfl (wl_c rfl wl_n))) rfl (by decide) (ih1766 _ (by omega) (v1767 + 1) H2376 w2378 f2380 ⟨by omega, by omega⟩ h2381 (by omega) rfl)
        have h2382 : DA5 T H1678 r0 (d 0 6) (d 15) := (DA5_fr w1667 g0 f1683 rfl (DA5_fr hW g0 f1668 rfl h1631))
        have h2383 : DA5 T H1678 r0 (d 0 6) (xmk (d 15) (xal d) 0) := by rw [xmk_0]; exact h2382
        exact wp_lc (ks := [2, 1, 0]) (wl_c rfl (wl_c rfl (wl_c rfl wl_n))) rfl (by decide) (lp1764 _ 0 H1678 w1682 wfr.rf ⟨by decide, by decide⟩ h2383 (by omega) rfl)
      · refine wp_of e44 c44_16 (rw_aload_n (pc' := 17) (v := .ref r0) rfl rfl rfl ?_)
        refine wp_of e44 c44_17 (xg_R (pc' := 20) lf_7_17 w1667 g0 sh_27 (by decide) (by decide) ty_27_1 rfl rfl (fun r2384 q2385 g2386 => ?_))
        refine wp_of e44 c44_20 (rw_iload_n (pc' := 21) (z := v1665) rfl rfl ?_)
        refine wp_of e44 c44_21 (rw_bipush (pc' := 23) (z := -2) rfl (by decide) ?_)
        refine wp_of e44 c44_23 (xs_I (pc' := 24) w1667 g2386 (by decide) sh_29 (by decide) (ty_29 _) (by decide) (by decide) ⟨by decide, by decide⟩ (b1669.1) (by omega) rfl (fun H2387 e2388 w2389 => ?_))
        have f2390 := f1673.put' e2388 g2386 rfl
        have f2391 := f1668.put' e2388 g2386 rfl
        have h2392 : ST T H2387 r0 (xcu (d 13) (d 0 0) (v1665 + 1)) := ST_put (w := 0) h1671 q2385 g0 g2386 e2388 (Or.inr ⟨rfl, rfl⟩) (xcu_c (by omega) (by omega)).1 (xcu_c (by omega) (by omega)).2
        refine wp_of e44 c44_24 (rw_iinc (pc' := 27) (z := v1665) (L' := [(2, vI (v1665 + 1)), (1, vI z1640), (0, .ref r0)]) rfl rfl rfl rfl ?_)
        refine wp_of e44 c44_27 (rw_goto (p1 := 10) (by decide) ?_)
        exact wp_lc (ks := [2, 1, 0]) (wl_c rfl (wl_c rfl (wl_c rfl wl_n))) rfl (by decide) (ih1664 _ (by omega) (v1665 + 1) H2387 w2389 f2391 ⟨by omega, by omega⟩ h2392 (by omega) rfl)
  have h2393 : ST T H r0 (xcu (d 13) (d 0 0) (H r0 7)) := by rw [show (H r0 7) = d 0 0 by omega, xcu_0]; exact h1627
  exact wp_lc (ks := [2, 1, 0]) (wl_c rfl (wl_c rfl (wl_c rfl wl_n))) rfl (by decide) (lp1662 _ (H r0 7) H hW wfr.rf ⟨b1644, b1645⟩ h2393 (by omega) rfl)
/-! StrikeAwake.parish(I)I  -/
abbrev uq_11 (r0 : Nat) (a1 : Int) (tp : Nat) (rd : Nat) (cu : Nat) (dr : Nat) (B : Nat → Int) (y : Int) (eU : xD) (dU : xD) (nU : Int) (nY : Int) (gY : Nat → Int) (cY : Int) (C : Nat → Bool) (T : wq_T) (H : wq_H) : Option Value → wq_T → wq_H → Prop := fun r T' H' => T = T' ∧ WT T H' ∧ wfr [(12, 9), (27, 7), (27, 8), (27, 9), (27, 10), (27, 11), (27, 12), (27, 13), (27, 14), (27, 15), (27, 16), (27, 17), (27, 18), (35, 6), (35, 7), (35, 8), (35, 9), (35, 10), (35, 11), (35, 12), (35, 13), (35, 14), (35, 15), (35, 16), (35, 17), (3, 1), (3, 2), (3, 3), (3, 4), (1, 6), (1, 7), (1, 8), (1, 9), (1, 10), (1, 11), (1, 12), (4, 0), (4, 1), (4, 2), (4, 3), (4, 4), (4, 5), (4, 6), (38, 999), (39, 999), (36, 999), (31, 999), (40, 999), (41, 999), (34, 999), (37, 999), (29, 999), (30, 999), (33, 999), (32, 999)] T H H' ∧ ∃ z : Int, some (vI z) = r ∧ ((-2147483648) ≤ z ∧ z ≤ 2147483647) ∧ (((z = -1) ∧ (a1 < 0 ∨ H r0 9 < a1) ∧ (H' r0 9 = H r0 9) ∧ (H' r0 10 = 2) ∧ (H' r0 6 = (cu : Int)) ∧ (H' r0 7 = (dr : Int)) ∧ (H' r0 8 = H r0 8) ∧ (H' r0 11 = H r0 11) ∧ CU T H' cu eU dU nU ∧ CY T H' cu nY gY cY ∧ SP T H' r0 C) ∨ ((z = -1) ∧ (0 ≤ a1 ∧ a1 ≤ H r0 9) ∧ (H' r0 9 = 0) ∧ ((xparse B y).1.1 ≠ 0) ∧ (H' r0 10 = 4) ∧ (H' r0 11 = (xparse B y).1.1) ∧ (H' r0 12 = (xparse B y).1.2.1) ∧ (H' r0 6 = (cu : Int)) ∧ (H' r0 7 = (dr : Int)) ∧ (H' r0 8 = H r0 8) ∧ CU T H' cu eU dU nU ∧ CY T H' cu nY gY cY ∧ SP T H' r0 C) ∨ ((0 ≤ z ∧ z ≤ 6) ∧ (0 ≤ a1 ∧ a1 ≤ H r0 9) ∧ (H' r0 9 = 0) ∧ ((xparse B y).1.1 = 0) ∧ (z = (xparse B y).2 0 3) ∧ (H' r0 10 = 0) ∧ (H' r0 6 = (dr : Int)) ∧ (H' r0 7 = (cu : Int)) ∧ (H' r0 8 = 1) ∧ (H' r0 11 = 0) ∧ CU T H' dr (xset (xparse B y).2) (xset (xparse B y).2) (xlots (xset (xparse B y).2)) ∧ CY T H' dr ((xparse B y).2 0 3) (fun _ => 0) 0 ∧ SP T H' r0 (fun a => !(C a))))
set_option maxHeartbeats 4000000 in
theorem u_11 {kt : Nat → Option mc_E} {T : wq_T} {H : wq_H} {r0 : Nat} {a1 : Int} {tp : Nat} {rd : Nat} {cu : Nat} {dr : Nat} {B : Nat → Int} {y : Int} {eU : xD} {dU : xD} {nU : Int} {nY : Int} {gY : Nat → Int} {cY : Int} {C : Nat → Bool} (hW : WT T H) (g0 : T.2.2.2 r0 = some 1) (i1 : (-2147483648) ≤ a1 ∧ a1 ≤ 2147483647) (qtp : H r0 0 = (tp : Int)) (gtp : T.2.2.2 tp = some 2) (qrd : H r0 1 = (rd : Int)) (grd : T.2.2.2 rd = some 3) (qcu : H r0 6 = (cu : Int)) (gcu : T.2.2.2 cu = some 27) (qdr : H r0 7 = (dr : Int)) (gdr : T.2.2.2 dr = some 27) (p0 : a1 = y) (p1 : C cu = true) (p2 : C dr = false) (p3 : dU 0 3 ≤ 6) (p4 : nY ≤ 6) (hTP_tp : TP T H tp B) (hDD_dr : DD T H dr ) (hDE_dr : DE T H dr ) (hCU_cu : CU T H cu eU dU nU) (hCY_cu : CY T H cu nY gY cY) (hSP_r0 : SP T H r0 C) : wpc kt 8 11 [.ref r0, vI a1] T H (uq_11 r0 a1 tp rd cu dr B y eU dU nU nY gY cY C T H) := by
  refine wp_enter e11 (Nat.le_of_ble_eq_true rfl) rfl ?_
  have f0 : wfr [(12, 9), (27, 7), (27, 8), (27, 9), (27, 10), (27, 11), (27, 12), (27, 13), (27, 14), (27, 15), (27, 16), (27, 17), (27, 18), (35, 6), (35, 7), (35, 8), (35, 9), (35, 10), (35, 11), (35, 12), (35, 13), (35, 14), (35, 15), (35, 16), (35, 17), (3, 1), (3, 2), (3, 3), (3, 4), (1, 6), (1, 7), (1, 8), (1, 9), (1, 10), (1, 11), (1, 12), (4, 0), (4, 1), (4, 2), (4, 3), (4, 4), (4, 5), (4, 6), (38, 999), (39, 999), (36, 999), (31, 999), (40, 999), (41, 999), (34, 999), (37, 999), (29, 999), (30, 999), (33, 999), (32, 999)] T H H := wfr.rf
  show wp _ _ 11 0 [(0, .ref r0), (1, vI a1)] [] _ H _
  have u1194 := CU_k hCU_cu
  have b1195 : 0 ≤ H r0 9 ∧ H r0 9 ≤ 900 := hW.box g0 (n := 13) rfl (by decide) rfl
  have b1196 : 0 ≤ H r0 8 ∧ H r0 8 ≤ 1 := hW.box g0 (n := 13) rfl (by decide) rfl
  have b1197 : (-2147483648) ≤ H r0 11 ∧ H r0 11 ≤ 2147483647 := hW.box g0 (n := 13) rfl (by decide) rfl
  have _y1 : (xparse B a1).1.1 = (xparse B y).1.1 := by rw [p0]
  have _y2 : (xparse B a1).1.2.1 = (xparse B y).1.2.1 := by rw [p0]
  have _y3 : (xparse B a1).2 0 3 = (xparse B y).2 0 3 := by rw [p0]
  have pC1 := p1
  have pC2 := p2
  have pC3 := p3
  have pC4 := p4
  refine wp_of e11 c11_0 (rw_iload_n (pc' := 1) (z := a1) rfl rfl ?_)
  refine wp_of e11 c11_1 (rw_if_lt (p1 := 12) (p2 := 4) (by decide) rfl ⟨i1.1, i1.2⟩ (fun c1198 => ?_) (fun c1198 => ?_))
  · refine wp_of e11 c11_12 (rw_aload_n (pc' := 13) (v := .ref r0) rfl rfl rfl ?_)
    refine wp_of e11 c11_13 (rw_iconst (pc' := 14) rfl ?_)
    refine wp_of e11 c11_14 (xc_V (pc' := 17) (r := r0) (as := [vI 2]) (st := []) (lm_0_70) rfl rfl (Nat.le_of_ble_eq_true rfl) hW g0 sh_1 (by decide) rfl (by decide) (u_12  hW g0 ⟨by decide, by decide⟩) (fun R1199 T1200 H1201 p1202 => ?_))
    obtain ⟨e1203, w1205, f1206, z1207, e1204, b1208, p1209⟩ := p1202
    subst e1203
    subst e1204
    obtain ⟨a1210, a1211⟩ := p1209
    have f1212 := f0.tr f1206 rfl
    show wp _ _ 11 17 [(0, .ref r0), (1, vI a1)] [vI z1207] _ H1201 _
    have k1213 : H1201 r0 6 = H r0 6 := (f1206 r0 6 _ g0 rfl)
    have q1214 : H1201 r0 6 = (cu : Int) := k1213.trans qcu
    have k1215 : H1201 r0 7 = H r0 7 := (f1206 r0 7 _ g0 rfl)
    have q1216 : H1201 r0 7 = (dr : Int) := k1215.trans qdr
    have k1217 : H1201 r0 8 = H r0 8 := (f1206 r0 8 _ g0 rfl)
    have k1218 : H1201 r0 9 = H r0 9 := (f1206 r0 9 _ g0 rfl)
    have k1219 : H1201 r0 11 = H r0 11 := (f1206 r0 11 _ g0 rfl)
    have h1220 : CU T H1201 cu eU dU nU := (CU_fr hW gcu f1206 rfl hCU_cu)
    have h1221 : CY T H1201 cu nY gY cY := (CY_fr hW gcu f1206 rfl hCY_cu)
    have h1222 : SP T H1201 r0 C := (SP_fr hW g0 f1206 rfl hSP_r0)
    exact wp_ireturn e11 c11_17 rfl ⟨rfl, w1205, f1212, z1207, rfl, ⟨b1208.1, b1208.2⟩, (Or.inl ⟨by omega, by omega, by omega, by omega, by omega, by omega, by omega, by omega, h1220, h1221, h1222⟩)⟩
  · refine wp_of e11 c11_4 (rw_iload_n (pc' := 5) (z := a1) rfl rfl ?_)
    refine wp_of e11 c11_5 (rw_aload_n (pc' := 6) (v := .ref r0) rfl rfl rfl ?_)
    refine wp_of e11 c11_6 (xg_I (pc' := 9) lf_0_62 hW g0 sh_1 (by decide) (by decide) ty_1_9 rfl rfl (fun b1223 b1224 => ?_))
    refine wp_of e11 c11_9 (rw_icmp_le (p1 := 18) (p2 := 12) (by decide) rfl ⟨i1.1, i1.2⟩ ⟨Int.le_trans (by decide) b1223, Int.le_trans b1224 (by decide)⟩ (fun c1225 => ?_) (fun c1225 => ?_))
    · refine wp_of e11 c11_18 (rw_aload_n (pc' := 19) (v := .ref r0) rfl rfl rfl ?_)
      refine wp_of e11 c11_19 (rw_iconst (pc' := 20) rfl ?_)
      refine wp_of e11 c11_20 (xp_I (pc' := 23) lf_0_62 hW g0 sh_1 (by decide) (by decide) ty_1_9 rfl rfl (by decide) (by decide) ⟨by decide, by decide⟩ rfl (fun H1226 e1227 w1228 => ?_))
      have f1229 := f0.put' e1227 g0 rfl
      have k1230 : H1226 r0 9 = 0 := wq_u_s e1227
      refine wp_of e11 c11_23 (rw_aload_n (pc' := 24) (v := .ref r0) rfl rfl rfl ?_)
      have k1231 : H1226 r0 1 = H r0 1 := (wq_u_j e1227 rfl)
      have q1232 : H1226 r0 1 = (rd : Int) := k1231.trans qrd
      refine wp_of e11 c11_24 (xg_K (pc' := 27) lf_0_16 w1228 g0 sh_1 (by decide) (by decide) rfl q1232 rfl ?_)
      refine wp_of e11 c11_27 (rw_aload_n (pc' := 28) (v := .ref r0) rfl rfl rfl ?_)
      have k1233 : H1226 r0 0 = H r0 0 := (wq_u_j e1227 rfl)
      have q1234 : H1226 r0 0 = (tp : Int) := k1233.trans qtp
      refine wp_of e11 c11_28 (xg_K (pc' := 31) lf_0_9 w1228 g0 sh_1 (by decide) (by decide) rfl q1234 rfl ?_)
      refine wp_of e11 c11_31 (rw_iload_n (pc' := 32) (z := a1) rfl rfl ?_)
      refine wp_of e11 c11_32 (rw_aload_n (pc' := 33) (v := .ref r0) rfl rfl rfl ?_)
      have k1235 : H1226 r0 7 = H r0 7 := (wq_u_j e1227 rfl)
      have q1236 : H1226 r0 7 = (dr : Int) := k1235.trans qdr
      refine wp_of e11 c11_33 (xg_K (pc' := 36) lf_0_55 w1228 g0 sh_1 (by decide) (by decide) rfl q1236 rfl ?_)
      have h1238 : SP T H1226 r0 C := (SP_fr hW g0 ((wfr.rf (l := [(1, 9)])).put' e1227 g0 rfl) rfl hSP_r0)
      have h1237 : SQ T H1226 (C) := SP.sq h1238
      have w1239 := rt_WT w1228 h1237
      obtain ⟨r1240, q1241, g1242⟩ := w1228.ref grd (t' := 4) (n := 5) (j := 0) (p := 0) (q := 0) rfl (by decide) rfl
      have h1243 : TP T H1226 tp B := (TP_fr hW gtp ((wfr.rf (l := [(1, 9)])).put' e1227 g0 rfl) rfl hTP_tp)
      have h1244 : DD T H1226 dr  := (DD_fr hW gdr ((wfr.rf (l := [(1, 9)])).put' e1227 g0 rfl) rfl hDD_dr)
      refine wp_of e11 c11_36 (xc_V (pc' := 39) (r := rd) (as := [.ref tp, vI a1, .ref dr]) (st := []) (lm_0_74) rfl rfl (Nat.le_of_ble_eq_true rfl) w1228 grd sh_3 (by decide) rfl (by decide) (rt_wpc (C := C) (u_13 (T := rtT T (C)) (B := B) w1239 (rtT_k (C := C) grd (rtF_o grd (by decide) (by decide))) (rtT_k (C := C) gtp (rtF_o gtp (by decide) (by decide))) ⟨by omega, by omega⟩ (rtT_k (C := C) gdr (rtF_c gdr (by decide) pC2)) q1241 (rtT_k (C := C) g1242 (rtF_o g1242 (by decide) (by decide))) h1243 (DD_rt gdr h1238 pC2 h1244)) (fun _ _ _ p => p.1)) (fun R1245 T1246 H1247 p1248 => ?_))
      obtain ⟨e1249, -, w1251, f1252, z1257, e1250, b1258, p1253⟩ := p1248
      subst e1249
      subst e1250
      have o1256 := rt_old f1252 rfl
      have f1255 := rt_fr f1252 rfl
      have w1254 := rt_un w1228 w1251 o1256
      rcases p1253 with ⟨a1259, a1260, a1261, a1262, a1263⟩ | ⟨a1264, a1265, a1266, a1267⟩
      · have f1268 := f1229.tr f1255 rfl
        show wp _ _ 11 39 [(0, .ref r0), (1, vI a1)] [vI z1257] _ H1247 _
        have h1269 : DC T H1247 dr ((xparse B a1).2) := DC_un a1262
        have u1270 := DC_k h1269
        have h1271 : CZ T H1247 dr ((xparse B a1).2 0 3) := CZ_un a1263
        have h1272 : CU T H1226 cu eU dU nU := (CU_fr hW gcu ((wfr.rf (l := [(1, 9)])).put' e1227 g0 rfl) rfl hCU_cu)
        have h1273 : CU T H1247 cu eU dU nU := CU_fz w1228 gcu h1238 pC1 o1256 pC3 h1272
        have h1274 : CY T H1226 cu nY gY cY := (CY_fr hW gcu ((wfr.rf (l := [(1, 9)])).put' e1227 g0 rfl) rfl hCY_cu)
        have h1275 : CY T H1247 cu nY gY cY := CY_fz w1228 gcu h1238 pC1 o1256 pC4 h1274
        refine wp_of e11 c11_39 (rw_istore_n (pc' := 40) (z := z1257) (L' := [(2, vI z1257), (0, .ref r0), (1, vI a1)]) rfl rfl rfl ?_)
        refine wp_of e11 c11_40 (rw_aload_n (pc' := 41) (v := .ref r0) rfl rfl rfl ?_)
        refine wp_of e11 c11_41 (rw_aload_n (pc' := 42) (v := .ref r0) rfl rfl rfl ?_)
        have k1276 : H1247 r0 1 = H1226 r0 1 := (f1255 r0 1 _ g0 rfl)
        have q1277 : H1247 r0 1 = (rd : Int) := k1276.trans q1232
        refine wp_of e11 c11_42 (xg_K (pc' := 45) lf_0_16 w1254 g0 sh_1 (by decide) (by decide) rfl q1277 rfl ?_)
        refine wp_of e11 c11_45 (xg_I (pc' := 48) lf_0_78 w1254 grd sh_3 (by decide) (by decide) ty_3_3 rfl rfl (fun b1278 b1279 => ?_))
        refine wp_of e11 c11_48 (xp_I (pc' := 51) lf_0_81 w1254 g0 sh_1 (by decide) (by decide) ty_1_11 rfl rfl (b1278) (b1279) ⟨b1278, b1279⟩ rfl (fun H1280 e1281 w1282 => ?_))
        have f1283 := f1268.put' e1281 g0 rfl
        have k1284 : H1280 r0 11 = H1247 rd 3 := wq_u_s e1281
        refine wp_of e11 c11_51 (rw_aload_n (pc' := 52) (v := .ref r0) rfl rfl rfl ?_)
        refine wp_of e11 c11_52 (rw_aload_n (pc' := 53) (v := .ref r0) rfl rfl rfl ?_)
        have k1285 : H1280 r0 1 = H1247 r0 1 := (wq_u_j e1281 rfl)
        have q1286 : H1280 r0 1 = (rd : Int) := k1285.trans q1277
        refine wp_of e11 c11_53 (xg_K (pc' := 56) lf_0_16 w1282 g0 sh_1 (by decide) (by decide) rfl q1286 rfl ?_)
        refine wp_of e11 c11_56 (xg_I (pc' := 59) lf_0_84 w1282 grd sh_3 (by decide) (by decide) ty_3_4 rfl rfl (fun b1287 b1288 => ?_))
        refine wp_of e11 c11_59 (xp_I (pc' := 62) lf_0_87 w1282 g0 sh_1 (by decide) (by decide) ty_1_12 rfl rfl (b1287) (b1288) ⟨b1287, b1288⟩ rfl (fun H1289 e1290 w1291 => ?_))
        have f1292 := f1283.put' e1290 g0 rfl
        have k1293 : H1289 r0 12 = H1280 rd 4 := wq_u_s e1290
        refine wp_of e11 c11_62 (rw_iload_n (pc' := 63) (z := z1257) rfl rfl ?_)
        refine wp_of e11 c11_63 (rw_if_ne (p1 := 72) (p2 := 66) (by decide) rfl ⟨by omega, by omega⟩ (fun c1294 => ?_) (fun c1294 => ?_))
        · refine wp_of e11 c11_72 (rw_aload_n (pc' := 73) (v := .ref r0) rfl rfl rfl ?_)
          have k1295 : H1289 r0 7 = H1226 r0 7 := ((wq_u_j e1290 rfl).trans ((wq_u_j e1281 rfl).trans (f1255 r0 7 _ g0 rfl)))
          have q1296 : H1289 r0 7 = (dr : Int) := k1295.trans q1236
          refine wp_of e11 c11_73 (xg_K (pc' := 76) lf_0_55 w1291 g0 sh_1 (by decide) (by decide) rfl q1296 rfl ?_)
          have k1297 : H1289 dr 13 = H1247 dr 13 := ((wq_u_t e1290 g0 gdr rfl 13).trans (wq_u_t e1281 g0 gdr rfl 13))
          have k1298 : H1289 dr 14 = H1247 dr 14 := ((wq_u_t e1290 g0 gdr rfl 14).trans (wq_u_t e1281 g0 gdr rfl 14))
          have k1299 : H1289 dr 10 = H1247 dr 10 := ((wq_u_t e1290 g0 gdr rfl 10).trans (wq_u_t e1281 g0 gdr rfl 10))
          have h1300 : DC T H1289 dr ((xparse B a1).2) := (DC_fr w1282 gdr ((wfr.rf (l := [(1, 12)])).put' e1290 g0 rfl) rfl (DC_fr w1254 gdr ((wfr.rf (l := [(1, 11)])).put' e1281 g0 rfl) rfl h1269))
          have h1301 : DD T H1289 dr  := (DD_fr w1282 gdr ((wfr.rf (l := [(1, 12)])).put' e1290 g0 rfl) rfl (DD_fr w1254 gdr ((wfr.rf (l := [(1, 11)])).put' e1281 g0 rfl) rfl (DD_fr w1228 gdr f1255 rfl h1244)))
          have h1302 : DE T H1289 dr  := (DE_fr w1282 gdr ((wfr.rf (l := [(1, 12)])).put' e1290 g0 rfl) rfl (DE_fr w1254 gdr ((wfr.rf (l := [(1, 11)])).put' e1281 g0 rfl) rfl (DE_fr w1228 gdr f1255 rfl (DE_fr hW gdr ((wfr.rf (l := [(1, 9)])).put' e1227 g0 rfl) rfl hDE_dr))))
          have h1303 : CZ T H1289 dr ((xparse B a1).2 0 3) := (CZ_fr w1282 gdr ((wfr.rf (l := [(1, 12)])).put' e1290 g0 rfl) rfl (CZ_fr w1254 gdr ((wfr.rf (l := [(1, 11)])).put' e1281 g0 rfl) rfl h1271))
          refine wp_of e11 c11_76 (xc_V (pc' := 79) (r := dr) (as := []) (st := []) (lm_0_90) rfl rfl (Nat.le_of_ble_eq_true rfl) w1291 gdr sh_27 (by decide) rfl (by decide) (u_44 (d := ((xparse B a1).2)) w1291 gdr (xdP_parse (by omega)) h1300 h1301 h1302 h1303) (fun R1304 T1305 H1306 p1307 => ?_))
          obtain ⟨e1308, w1310, f1311, e1309, p1312⟩ := p1307
          subst e1308
          subst e1309
          obtain ⟨a1313, a1314⟩ := p1312
          have f1315 := f1292.tr f1311 rfl
          show wp _ _ 11 79 [(2, vI z1257), (0, .ref r0), (1, vI a1)] [] _ H1306 _
          have u1316 := CU_k a1313
          have _xv := @xset_v (xparse B a1).2
          refine wp_of e11 c11_79 (rw_aload_n (pc' := 80) (v := .ref r0) rfl rfl rfl ?_)
          have k1317 : H1306 r0 6 = H r0 6 := ((f1311 r0 6 _ g0 rfl).trans ((wq_u_j e1290 rfl).trans ((wq_u_j e1281 rfl).trans ((f1255 r0 6 _ g0 rfl).trans (wq_u_j e1227 rfl)))))
          have q1318 : H1306 r0 6 = (cu : Int) := k1317.trans qcu
          refine wp_of e11 c11_80 (xg_K (pc' := 83) lf_0_51 w1310 g0 sh_1 (by decide) (by decide) rfl q1318 rfl ?_)
          refine wp_of e11 c11_83 (rw_astore_n (pc' := 84) (v := .ref cu) (L' := [(3, .ref cu), (2, vI z1257), (0, .ref r0), (1, vI a1)]) rfl rfl rfl rfl ?_)
          refine wp_of e11 c11_84 (rw_aload_n (pc' := 85) (v := .ref r0) rfl rfl rfl ?_)
          refine wp_of e11 c11_85 (rw_aload_n (pc' := 86) (v := .ref r0) rfl rfl rfl ?_)
          have k1319 : H1306 r0 7 = H1289 r0 7 := (f1311 r0 7 _ g0 rfl)
          have q1320 : H1306 r0 7 = (dr : Int) := k1319.trans q1296
          refine wp_of e11 c11_86 (xg_K (pc' := 89) lf_0_55 w1310 g0 sh_1 (by decide) (by decide) rfl q1320 rfl ?_)
          refine wp_of e11 c11_89 (xp_R (pc' := 92) lf_0_51 w1310 g0 sh_1 (by decide) (by decide) rfl rfl (wok_2 ty_1_6 gdr) rfl (fun H1321 e1322 w1323 => ?_))
          have f1324 := f1315.put' e1322 g0 rfl
          have q1325 : H1321 r0 6 = (dr : Int) := wq_u_s e1322
          refine wp_of e11 c11_92 (rw_aload_n (pc' := 93) (v := .ref r0) rfl rfl rfl ?_)
          refine wp_of e11 c11_93 (rw_aload_n (pc' := 94) (v := .ref cu) rfl rfl rfl ?_)
          refine wp_of e11 c11_94 (xp_R (pc' := 97) lf_0_55 w1323 g0 sh_1 (by decide) (by decide) rfl rfl (wok_2 ty_1_7 gcu) rfl (fun H1326 e1327 w1328 => ?_))
          have f1329 := f1324.put' e1327 g0 rfl
          have q1330 : H1326 r0 7 = (cu : Int) := wq_u_s e1327
          refine wp_of e11 c11_97 (rw_aload_n (pc' := 98) (v := .ref r0) rfl rfl rfl ?_)
          refine wp_of e11 c11_98 (rw_iconst (pc' := 99) rfl ?_)
          refine wp_of e11 c11_99 (xp_Z (pc' := 102) lf_0_58 w1328 g0 sh_1 (by decide) (by decide) ty_1_8 rfl rfl (by decide) (by decide) rfl (fun H1331 e1332 w1333 => ?_))
          have f1334 := f1329.put' e1332 g0 rfl
          have k1335 : H1331 r0 8 = 1 := wq_u_s e1332
          refine wp_of e11 c11_102 (rw_aload_n (pc' := 103) (v := .ref r0) rfl rfl rfl ?_)
          refine wp_of e11 c11_103 (xg_R (pc' := 106) lf_0_30 w1333 g0 sh_1 (by decide) (by decide) ty_1_3 rfl rfl (fun r1336 q1337 g1338 => ?_))
          refine wp_of e11 c11_106 (xc_V (pc' := 109) (r := r1336) (as := []) (st := []) (lm_0_93) rfl rfl (Nat.le_of_ble_eq_true rfl) w1333 g1338 sh_12 (by decide) rfl (by decide) (s_50 w1333 g1338) (fun R1339 T1340 H1341 p1342 => ?_))
          obtain ⟨e1343, w1345, f1346, e1344⟩ := p1342
          subst e1343
          subst e1344
          have f1347 := f1334.tr f1346 rfl
          show wp _ _ 11 109 [(3, .ref cu), (2, vI z1257), (0, .ref r0), (1, vI a1)] [] _ H1341 _
          refine wp_of e11 c11_109 (rw_aload_n (pc' := 110) (v := .ref r0) rfl rfl rfl ?_)
          refine wp_of e11 c11_110 (rw_aload_n (pc' := 111) (v := .ref r0) rfl rfl rfl ?_)
          have k1348 : H1341 r0 6 = H1321 r0 6 := ((f1346 r0 6 _ g0 rfl).trans ((wq_u_j e1332 rfl).trans (wq_u_j e1327 rfl)))
          have q1349 : H1341 r0 6 = (dr : Int) := k1348.trans q1325
          refine wp_of e11 c11_111 (xg_K (pc' := 114) lf_0_51 w1345 g0 sh_1 (by decide) (by decide) rfl q1349 rfl ?_)
          have k1350 : H1341 dr 10 = H1306 dr 10 := ((f1346 dr 10 _ gdr rfl).trans ((wq_u_t e1332 g0 gdr rfl 10).trans ((wq_u_t e1327 g0 gdr rfl 10).trans (wq_u_t e1322 g0 gdr rfl 10))))
          refine wp_of e11 c11_114 (xg_I (pc' := 117) lf_0_96 w1345 gdr sh_27 (by decide) (by decide) ty_27_10 rfl rfl (fun b1351 b1352 => ?_))
          refine wp_of e11 c11_117 (xc_V (pc' := 120) (r := r0) (as := [vI (H1341 dr 10)]) (st := []) (lm_0_99) rfl rfl (Nat.le_of_ble_eq_true rfl) w1345 g0 sh_1 (by decide) rfl (by decide) (u_51  w1345 g0 ⟨Int.le_trans (by decide) b1351, Int.le_trans b1352 (by decide)⟩) (fun R1353 T1354 H1355 p1356 => ?_))
          obtain ⟨e1357, w1359, f1360, z1361, e1358, b1362, p1363⟩ := p1356
          subst e1357
          subst e1358
          obtain ⟨a1364, a1365⟩ := p1363
          have f1366 := f1347.tr f1360 rfl
          show wp _ _ 11 120 [(3, .ref cu), (2, vI z1257), (0, .ref r0), (1, vI a1)] [vI z1361] _ H1355 _
          have k1367 : H1355 r0 6 = H1341 r0 6 := (f1360 r0 6 _ g0 rfl)
          have q1368 : H1355 r0 6 = (dr : Int) := k1367.trans q1349
          have k1369 : H1355 r0 7 = H1326 r0 7 := ((f1360 r0 7 _ g0 rfl).trans ((f1346 r0 7 _ g0 rfl).trans (wq_u_j e1332 rfl)))
          have q1370 : H1355 r0 7 = (cu : Int) := k1369.trans q1330
          have k1371 : H1355 r0 8 = H1331 r0 8 := ((f1360 r0 8 _ g0 rfl).trans (f1346 r0 8 _ g0 rfl))
          have k1372 : H1355 r0 9 = H1226 r0 9 := ((f1360 r0 9 _ g0 rfl).trans ((f1346 r0 9 _ g0 rfl).trans ((wq_u_j e1332 rfl).trans ((wq_u_j e1327 rfl).trans ((wq_u_j e1322 rfl).trans ((f1311 r0 9 _ g0 rfl).trans ((wq_u_j e1290 rfl).trans ((wq_u_j e1281 rfl).trans (f1255 r0 9 _ g0 rfl)))))))))
          have k1373 : H1355 r0 11 = H1280 r0 11 := ((f1360 r0 11 _ g0 rfl).trans ((f1346 r0 11 _ g0 rfl).trans ((wq_u_j e1332 rfl).trans ((wq_u_j e1327 rfl).trans ((wq_u_j e1322 rfl).trans ((f1311 r0 11 _ g0 rfl).trans (wq_u_j e1290 rfl)))))))
          have k1374 : H1355 r0 12 = H1289 r0 12 := ((f1360 r0 12 _ g0 rfl).trans ((f1346 r0 12 _ g0 rfl).trans ((wq_u_j e1332 rfl).trans ((wq_u_j e1327 rfl).trans ((wq_u_j e1322 rfl).trans (f1311 r0 12 _ g0 rfl))))))
          have h1375 : CU T H1355 dr (xset ((xparse B a1).2)) (xset ((xparse B a1).2)) (xlots (xset ((xparse B a1).2))) := (CU_fr w1345 gdr f1360 rfl (CU_fr w1333 gdr f1346 rfl (CU_fr w1328 gdr ((wfr.rf (l := [(1, 8)])).put' e1332 g0 rfl) rfl (CU_fr w1323 gdr ((wfr.rf (l := [(1, 7)])).put' e1327 g0 rfl) rfl (CU_fr w1310 gdr ((wfr.rf (l := [(1, 6)])).put' e1322 g0 rfl) rfl a1313)))))
          have h1376 : CY T H1355 dr (((xparse B a1).2) 0 3) (fun _ => 0) 0 := (CY_fr w1345 gdr f1360 rfl (CY_fr w1333 gdr f1346 rfl (CY_fr w1328 gdr ((wfr.rf (l := [(1, 8)])).put' e1332 g0 rfl) rfl (CY_fr w1323 gdr ((wfr.rf (l := [(1, 7)])).put' e1327 g0 rfl) rfl (CY_fr w1310 gdr ((wfr.rf (l := [(1, 6)])).put' e1322 g0 rfl) rfl a1314)))))
          have h1377 : SP T H1355 r0 C := (SP_fr w1345 g0 f1360 rfl (SP_fr w1333 g0 f1346 rfl (SP_fr w1328 g0 ((wfr.rf (l := [(1, 8)])).put' e1332 g0 rfl) rfl (SP_fr w1323 g0 ((wfr.rf (l := [(1, 7)])).put' e1327 g0 rfl) rfl (SP_fr w1310 g0 ((wfr.rf (l := [(1, 6)])).put' e1322 g0 rfl) rfl (SP_fr w1291 g0 f1311 rfl (SP_fr w1282 g0 ((wfr.rf (l := [(1, 12)])).put' e1290 g0 rfl) rfl (SP_fr w1254 g0 ((wfr.rf (l := [(1, 11)])).put' e1281 g0 rfl) rfl (SP_fr w1228 g0 f1255 rfl h1238)))))))))
          exact wp_ireturn e11 c11_120 rfl ⟨rfl, w1359, f1366, z1361, rfl, ⟨b1362.1, b1362.2⟩, (Or.inr (Or.inr ⟨by omega, by omega, by omega, by omega, by omega, by omega, by omega, by omega, by omega, by omega, by rw [← p0]; exact h1375, by rw [← p0]; exact h1376, SP_not h1377⟩))⟩
        · exfalso
          omega
      · have f1378 := f1229.tr f1255 rfl
        show wp _ _ 11 39 [(0, .ref r0), (1, vI a1)] [vI z1257] _ H1247 _
        have h1379 : CU T H1226 cu eU dU nU := (CU_fr hW gcu ((wfr.rf (l := [(1, 9)])).put' e1227 g0 rfl) rfl hCU_cu)
        have h1380 : CU T H1247 cu eU dU nU := CU_fz w1228 gcu h1238 pC1 o1256 pC3 h1379
        have h1381 : CY T H1226 cu nY gY cY := (CY_fr hW gcu ((wfr.rf (l := [(1, 9)])).put' e1227 g0 rfl) rfl hCY_cu)
        have h1382 : CY T H1247 cu nY gY cY := CY_fz w1228 gcu h1238 pC1 o1256 pC4 h1381
        refine wp_of e11 c11_39 (rw_istore_n (pc' := 40) (z := z1257) (L' := [(2, vI z1257), (0, .ref r0), (1, vI a1)]) rfl rfl rfl ?_)
        refine wp_of e11 c11_40 (rw_aload_n (pc' := 41) (v := .ref r0) rfl rfl rfl ?_)
        refine wp_of e11 c11_41 (rw_aload_n (pc' := 42) (v := .ref r0) rfl rfl rfl ?_)
        have k1383 : H1247 r0 1 = H1226 r0 1 := (f1255 r0 1 _ g0 rfl)
        have q1384 : H1247 r0 1 = (rd : Int) := k1383.trans q1232
        refine wp_of e11 c11_42 (xg_K (pc' := 45) lf_0_16 w1254 g0 sh_1 (by decide) (by decide) rfl q1384 rfl ?_)
        refine wp_of e11 c11_45 (xg_I (pc' := 48) lf_0_78 w1254 grd sh_3 (by decide) (by decide) ty_3_3 rfl rfl (fun b1385 b1386 => ?_))
        refine wp_of e11 c11_48 (xp_I (pc' := 51) lf_0_81 w1254 g0 sh_1 (by decide) (by decide) ty_1_11 rfl rfl (b1385) (b1386) ⟨b1385, b1386⟩ rfl (fun H1387 e1388 w1389 => ?_))
        have f1390 := f1378.put' e1388 g0 rfl
        have k1391 : H1387 r0 11 = H1247 rd 3 := wq_u_s e1388
        refine wp_of e11 c11_51 (rw_aload_n (pc' := 52) (v := .ref r0) rfl rfl rfl ?_)
        refine wp_of e11 c11_52 (rw_aload_n (pc' := 53) (v := .ref r0) rfl rfl rfl ?_)
        have k1392 : H1387 r0 1 = H1247 r0 1 := (wq_u_j e1388 rfl)
        have q1393 : H1387 r0 1 = (rd : Int) := k1392.trans q1384
        refine wp_of e11 c11_53 (xg_K (pc' := 56) lf_0_16 w1389 g0 sh_1 (by decide) (by decide) rfl q1393 rfl ?_)
        have k1394 : H1387 rd 4 = H1247 rd 4 := (wq_u_t e1388 g0 grd rfl 4)
        refine wp_of e11 c11_56 (xg_I (pc' := 59) lf_0_84 w1389 grd sh_3 (by decide) (by decide) ty_3_4 rfl rfl (fun b1395 b1396 => ?_))
        refine wp_of e11 c11_59 (xp_I (pc' := 62) lf_0_87 w1389 g0 sh_1 (by decide) (by decide) ty_1_12 rfl rfl (b1395) (b1396) ⟨b1395, b1396⟩ rfl (fun H1397 e1398 w1399 => ?_))
        have f1400 := f1390.put' e1398 g0 rfl
        have k1401 : H1397 r0 12 = H1387 rd 4 := wq_u_s e1398
        refine wp_of e11 c11_62 (rw_iload_n (pc' := 63) (z := z1257) rfl rfl ?_)
        refine wp_of e11 c11_63 (rw_if_ne (p1 := 72) (p2 := 66) (by decide) rfl ⟨by omega, by omega⟩ (fun c1402 => ?_) (fun c1402 => ?_))
        · exfalso
          omega
        · refine wp_of e11 c11_66 (rw_aload_n (pc' := 67) (v := .ref r0) rfl rfl rfl ?_)
          refine wp_of e11 c11_67 (rw_iconst (pc' := 68) rfl ?_)
          refine wp_of e11 c11_68 (xc_V (pc' := 71) (r := r0) (as := [vI 4]) (st := []) (lm_0_70) rfl rfl (Nat.le_of_ble_eq_true rfl) w1399 g0 sh_1 (by decide) rfl (by decide) (u_12  w1399 g0 ⟨by decide, by decide⟩) (fun R1403 T1404 H1405 p1406 => ?_))
          obtain ⟨e1407, w1409, f1410, z1411, e1408, b1412, p1413⟩ := p1406
          subst e1407
          subst e1408
          obtain ⟨a1414, a1415⟩ := p1413
          have f1416 := f1400.tr f1410 rfl
          show wp _ _ 11 71 [(2, vI z1257), (0, .ref r0), (1, vI a1)] [vI z1411] _ H1405 _
          have k1417 : H1405 r0 6 = H r0 6 := ((f1410 r0 6 _ g0 rfl).trans ((wq_u_j e1398 rfl).trans ((wq_u_j e1388 rfl).trans ((f1255 r0 6 _ g0 rfl).trans (wq_u_j e1227 rfl)))))
          have q1418 : H1405 r0 6 = (cu : Int) := k1417.trans qcu
          have k1419 : H1405 r0 7 = H1226 r0 7 := ((f1410 r0 7 _ g0 rfl).trans ((wq_u_j e1398 rfl).trans ((wq_u_j e1388 rfl).trans (f1255 r0 7 _ g0 rfl))))
          have q1420 : H1405 r0 7 = (dr : Int) := k1419.trans q1236
          have k1421 : H1405 r0 8 = H r0 8 := ((f1410 r0 8 _ g0 rfl).trans ((wq_u_j e1398 rfl).trans ((wq_u_j e1388 rfl).trans ((f1255 r0 8 _ g0 rfl).trans (wq_u_j e1227 rfl)))))
          have k1422 : H1405 r0 9 = H1226 r0 9 := ((f1410 r0 9 _ g0 rfl).trans ((wq_u_j e1398 rfl).trans ((wq_u_j e1388 rfl).trans (f1255 r0 9 _ g0 rfl))))
          have k1423 : H1405 r0 11 = H1387 r0 11 := ((f1410 r0 11 _ g0 rfl).trans (wq_u_j e1398 rfl))
          have k1424 : H1405 r0 12 = H1397 r0 12 := (f1410 r0 12 _ g0 rfl)
          have h1425 : CU T H1405 cu eU dU nU := (CU_fr w1399 gcu f1410 rfl (CU_fr w1389 gcu ((wfr.rf (l := [(1, 12)])).put' e1398 g0 rfl) rfl (CU_fr w1254 gcu ((wfr.rf (l := [(1, 11)])).put' e1388 g0 rfl) rfl h1380)))
          have h1426 : CY T H1405 cu nY gY cY := (CY_fr w1399 gcu f1410 rfl (CY_fr w1389 gcu ((wfr.rf (l := [(1, 12)])).put' e1398 g0 rfl) rfl (CY_fr w1254 gcu ((wfr.rf (l := [(1, 11)])).put' e1388 g0 rfl) rfl h1382)))
          have h1427 : SP T H1405 r0 C := (SP_fr w1399 g0 f1410 rfl (SP_fr w1389 g0 ((wfr.rf (l := [(1, 12)])).put' e1398 g0 rfl) rfl (SP_fr w1254 g0 ((wfr.rf (l := [(1, 11)])).put' e1388 g0 rfl) rfl (SP_fr w1228 g0 f1255 rfl h1238))))
          exact wp_ireturn e11 c11_71 rfl ⟨rfl, w1409, f1416, z1411, rfl, ⟨b1412.1, b1412.2⟩, (Or.inr (Or.inl ⟨by omega, by omega, by omega, by omega, by omega, by omega, by omega, by omega, by omega, by omega, h1425, h1426, h1427⟩))⟩
    · refine wp_of e11 c11_12 (rw_aload_n (pc' := 13) (v := .ref r0) rfl rfl rfl ?_)
      refine wp_of e11 c11_13 (rw_iconst (pc' := 14) rfl ?_)
      refine wp_of e11 c11_14 (xc_V (pc' := 17) (r := r0) (as := [vI 2]) (st := []) (lm_0_70) rfl rfl (Nat.le_of_ble_eq_true rfl) hW g0 sh_1 (by decide) rfl (by decide) (u_12  hW g0 ⟨by decide, by decide⟩) (fun R1428 T1429 H1430 p1431 => ?_))
      obtain ⟨e1432, w1434, f1435, z1436, e1433, b1437, p1438⟩ := p1431
      subst e1432
      subst e1433
      obtain ⟨a1439, a1440⟩ := p1438
      have f1441 := f0.tr f1435 rfl
      show wp _ _ 11 17 [(0, .ref r0), (1, vI a1)] [vI z1436] _ H1430 _
      have k1442 : H1430 r0 6 = H r0 6 := (f1435 r0 6 _ g0 rfl)
      have q1443 : H1430 r0 6 = (cu : Int) := k1442.trans qcu
      have k1444 : H1430 r0 7 = H r0 7 := (f1435 r0 7 _ g0 rfl)
      have q1445 : H1430 r0 7 = (dr : Int) := k1444.trans qdr
      have k1446 : H1430 r0 8 = H r0 8 := (f1435 r0 8 _ g0 rfl)
      have k1447 : H1430 r0 9 = H r0 9 := (f1435 r0 9 _ g0 rfl)
      have k1448 : H1430 r0 11 = H r0 11 := (f1435 r0 11 _ g0 rfl)
      have h1449 : CU T H1430 cu eU dU nU := (CU_fr hW gcu f1435 rfl hCU_cu)
      have h1450 : CY T H1430 cu nY gY cY := (CY_fr hW gcu f1435 rfl hCY_cu)
      have h1451 : SP T H1430 r0 C := (SP_fr hW g0 f1435 rfl hSP_r0)
      exact wp_ireturn e11 c11_17 rfl ⟨rfl, w1434, f1441, z1436, rfl, ⟨b1437.1, b1437.2⟩, (Or.inl ⟨by omega, by omega, by omega, by omega, by omega, by omega, by omega, by omega, h1449, h1450, h1451⟩)⟩
/-! StrikeAwake.deny(I)Z  -/
abbrev uq_63 (r0 : Nat) (a1 : Int) (T : wq_T) (H : wq_H) : Option Value → wq_T → wq_H → Prop := fun r T' H' => T = T' ∧ WT T H' ∧ wfr [(1, 10)] T H H' ∧ ∃ z : Int, some (vI z) = r ∧ (0 ≤ z ∧ z ≤ 1) ∧ (((z = 0) ∧ (H' r0 10 = a1)))
set_option maxHeartbeats 4000000 in
theorem u_63 {kt : Nat → Option mc_E} {T : wq_T} {H : wq_H} {r0 : Nat} {a1 : Int} (hW : WT T H) (g0 : T.2.2.2 r0 = some 1) (i1 : (-2147483648) ≤ a1 ∧ a1 ≤ 2147483647) : wpc kt 1 63 [.ref r0, vI a1] T H (uq_63 r0 a1 T H) := by
  refine wp_enter e63 (Nat.le_of_ble_eq_true rfl) rfl ?_
  have f0 : wfr [(1, 10)] T H H := wfr.rf
  show wp _ _ 63 0 [(0, .ref r0), (1, vI a1)] [] _ H _
  refine wp_of e63 c63_0 (rw_aload_n (pc' := 1) (v := .ref r0) rfl rfl rfl ?_)
  refine wp_of e63 c63_1 (rw_iload_n (pc' := 2) (z := a1) rfl rfl ?_)
  refine wp_of e63 c63_2 (xp_I (pc' := 5) lf_0_102 hW g0 sh_1 (by decide) (by decide) ty_1_10 rfl rfl (i1.1) (i1.2) ⟨i1.1, i1.2⟩ rfl (fun H1006 e1007 w1008 => ?_))
  have f1009 := f0.put' e1007 g0 rfl
  have k1010 : H1006 r0 10 = a1 := wq_u_s e1007
  refine wp_of e63 c63_5 (rw_iconst (pc' := 6) rfl ?_)
  exact wp_zreturn e63 c63_6 rfl (by omega) ⟨rfl, w1008, f1009, 0, rfl, ⟨by decide, by decide⟩, ⟨by omega, by omega⟩⟩
/-! StrikeAwake.grant()Z  -/
abbrev uq_64 (r0 : Nat) (T : wq_T) (H : wq_H) : Option Value → wq_T → wq_H → Prop := fun r T' H' => T = T' ∧ WT T H' ∧ wfr [(1, 10)] T H H' ∧ ∃ z : Int, some (vI z) = r ∧ (0 ≤ z ∧ z ≤ 1) ∧ (((z = 1) ∧ (H' r0 10 = 0)))
set_option maxHeartbeats 4000000 in
theorem u_64 {kt : Nat → Option mc_E} {T : wq_T} {H : wq_H} {r0 : Nat} (hW : WT T H) (g0 : T.2.2.2 r0 = some 1) : wpc kt 1 64 [.ref r0] T H (uq_64 r0 T H) := by
  refine wp_enter e64 (Nat.le_of_ble_eq_true rfl) rfl ?_
  have f0 : wfr [(1, 10)] T H H := wfr.rf
  show wp _ _ 64 0 [(0, .ref r0)] [] _ H _
  refine wp_of e64 c64_0 (rw_aload_n (pc' := 1) (v := .ref r0) rfl rfl rfl ?_)
  refine wp_of e64 c64_1 (rw_iconst (pc' := 2) rfl ?_)
  refine wp_of e64 c64_2 (xp_I (pc' := 5) lf_0_102 hW g0 sh_1 (by decide) (by decide) ty_1_10 rfl rfl (by decide) (by decide) ⟨by decide, by decide⟩ rfl (fun H1006 e1007 w1008 => ?_))
  have f1009 := f0.put' e1007 g0 rfl
  have k1010 : H1006 r0 10 = 0 := wq_u_s e1007
  refine wp_of e64 c64_5 (rw_iconst (pc' := 6) rfl ?_)
  exact wp_zreturn e64 c64_6 rfl (by omega) ⟨rfl, w1008, f1009, 1, rfl, ⟨by decide, by decide⟩, ⟨by omega, by omega⟩⟩
/-! StrikeAwake.isHour(I)Z  -/
abbrev uq_60 (r0 : Nat) (a1 : Int) (cu : Nat) (T : wq_T) (H : wq_H) : Option Value → wq_T → wq_H → Prop := fun r T' H' => T = T' ∧ H = H' ∧ ∃ z : Int, some (vI z) = r ∧ (0 ≤ z ∧ z ≤ 1) ∧ (((z = 1) ∧ (0 ≤ a1 ∧ a1 < H cu 7)) ∨ ((z = 0) ∧ (a1 < 0 ∨ H cu 7 ≤ a1)))
set_option maxHeartbeats 4000000 in
theorem u_60 {kt : Nat → Option mc_E} {T : wq_T} {H : wq_H} {r0 : Nat} {a1 : Int} {cu : Nat} (hW : WT T H) (g0 : T.2.2.2 r0 = some 1) (i1 : (-2147483648) ≤ a1 ∧ a1 ≤ 2147483647) (qcu : H r0 6 = (cu : Int)) (gcu : T.2.2.2 cu = some 27) : wpc kt 1 60 [.ref r0, vI a1] T H (uq_60 r0 a1 cu T H) := by
  refine wp_enter e60 (Nat.le_of_ble_eq_true rfl) rfl ?_
  show wp _ _ 60 0 [(0, .ref r0), (1, vI a1)] [] _ H _
  refine wp_of e60 c60_0 (rw_iload_n (pc' := 1) (z := a1) rfl rfl ?_)
  refine wp_of e60 c60_1 (rw_if_lt (p1 := 19) (p2 := 4) (by decide) rfl ⟨i1.1, i1.2⟩ (fun c1005 => ?_) (fun c1005 => ?_))
  · refine wp_of e60 c60_19 (rw_iconst (pc' := 20) rfl ?_)
    exact wp_zreturn e60 c60_20 rfl (by omega) ⟨rfl, rfl, 0, rfl, ⟨by decide, by decide⟩, (Or.inr ⟨by omega, by omega⟩)⟩
  · refine wp_of e60 c60_4 (rw_iload_n (pc' := 5) (z := a1) rfl rfl ?_)
    refine wp_of e60 c60_5 (rw_aload_n (pc' := 6) (v := .ref r0) rfl rfl rfl ?_)
    refine wp_of e60 c60_6 (xg_K (pc' := 9) lf_0_51 hW g0 sh_1 (by decide) (by decide) rfl qcu rfl ?_)
    refine wp_of e60 c60_9 (xg_I (pc' := 12) lf_0_339 hW gcu sh_27 (by decide) (by decide) ty_27_7 rfl rfl (fun b1006 b1007 => ?_))
    refine wp_of e60 c60_12 (rw_icmp_ge (p1 := 19) (p2 := 15) (by decide) rfl ⟨i1.1, i1.2⟩ ⟨Int.le_trans (by decide) b1006, Int.le_trans b1007 (by decide)⟩ (fun c1008 => ?_) (fun c1008 => ?_))
    · refine wp_of e60 c60_19 (rw_iconst (pc' := 20) rfl ?_)
      exact wp_zreturn e60 c60_20 rfl (by omega) ⟨rfl, rfl, 0, rfl, ⟨by decide, by decide⟩, (Or.inr ⟨by omega, by omega⟩)⟩
    · refine wp_of e60 c60_15 (rw_iconst (pc' := 16) rfl ?_)
      refine wp_of e60 c60_16 (rw_goto (p1 := 20) (by decide) ?_)
      exact wp_zreturn e60 c60_20 rfl (by omega) ⟨rfl, rfl, 1, rfl, ⟨by decide, by decide⟩, (Or.inl ⟨by omega, by omega⟩)⟩
