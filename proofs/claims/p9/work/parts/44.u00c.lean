/-! StrikeAwake$Tokens.begin([BI)V  -/
abbrev uq_15 (r0 : Nat) (r1 : Nat) (a2 : Int) (B : Nat → Int) (T : wq_T) (H : wq_H) : Option Value → wq_T → wq_H → Prop := fun r T' H' => T = T' ∧ WT T H' ∧ wfr [(4, 0), (4, 1), (4, 2), (4, 3), (4, 4), (4, 5), (4, 6)] T H H' ∧ none = r ∧ (((H' r0 0 = (r1 : Int)) ∧ TC T H' r0 B a2 (xG 32 32 B a2 0)))
set_option maxHeartbeats 4000000 in
theorem u_15 {kt : Nat → Option mc_E} {T : wq_T} {H : wq_H} {r0 : Nat} {r1 : Nat} {a2 : Int} {B : Nat → Int} (hW : WT T H) (g0 : T.2.2.2 r0 = some 4) (g1 : T.2.2.2 r1 = some 2) (i2 : 0 ≤ a2 ∧ a2 ≤ 900) (hTP_r1 : TP T H r1 B) : wpc kt 2 15 [.ref r0, .ref r1, vI a2] T H (uq_15 r0 r1 a2 B T H) := by
  refine wp_enter e15 (Nat.le_of_ble_eq_true rfl) rfl ?_
  have f0 : wfr [(4, 0), (4, 1), (4, 2), (4, 3), (4, 4), (4, 5), (4, 6)] T H H := wfr.rf
  show wp _ _ 15 0 [(0, .ref r0), (1, .ref r1), (2, vI a2)] [] _ H _
  refine wp_of e15 c15_0 (rw_aload_n (pc' := 1) (v := .ref r0) rfl rfl rfl ?_)
  refine wp_of e15 c15_1 (rw_aload_n (pc' := 2) (v := .ref r1) rfl rfl rfl ?_)
  refine wp_of e15 c15_2 (xp_R (pc' := 5) lf_2_7 hW g0 sh_4 (by decide) (by decide) rfl rfl (wok_4 ty_4_0 g1) rfl (fun H1032 e1033 w1034 => ?_))
  have f1035 := f0.put' e1033 g0 rfl
  have q1036 : H1032 r0 0 = (r1 : Int) := wq_u_s e1033
  refine wp_of e15 c15_5 (rw_aload_n (pc' := 6) (v := .ref r0) rfl rfl rfl ?_)
  refine wp_of e15 c15_6 (rw_iload_n (pc' := 7) (z := a2) rfl rfl ?_)
  refine wp_of e15 c15_7 (rw_aload_n (pc' := 8) (v := .ref r1) rfl rfl rfl ?_)
  refine wp_of e15 c15_8 (xa_N (pc' := 9) (n := 900) w1034 g1 sh_2 (by decide) rfl ?_)
  refine wp_of e15 c15_9 (rw_math2 (pc' := 12) (z := min a2 900) rfl rfl ⟨by omega, by omega⟩ ⟨by omega, by omega⟩ (Or.inl ⟨rfl, rfl⟩) (Nat.le_of_ble_eq_true rfl) rfl ?_)
  obtain ⟨v1037, e1038⟩ : ∃ x : Int, x = min a2 900 := ⟨_, rfl⟩
  rw [← e1038]
  have b1039 : v1037 = a2 ∨ v1037 = 900 := by
    rw [e1038]
    omega
  have b1040 : v1037 ≤ a2 ∧ v1037 ≤ 900 := by
    rw [e1038]
    omega
  refine wp_of e15 c15_12 (xp_I (pc' := 15) lf_2_19 w1034 g0 sh_4 (by decide) (by decide) ty_4_1 rfl rfl (by omega) (by omega) ⟨by omega, by omega⟩ rfl (fun H1041 e1042 w1043 => ?_))
  have f1044 := f1035.put' e1042 g0 rfl
  have k1045 : H1041 r0 1 = v1037 := wq_u_s e1042
  refine wp_of e15 c15_15 (rw_aload_n (pc' := 16) (v := .ref r0) rfl rfl rfl ?_)
  refine wp_of e15 c15_16 (rw_iconst (pc' := 17) rfl ?_)
  refine wp_of e15 c15_17 (xp_I (pc' := 20) lf_2_23 w1043 g0 sh_4 (by decide) (by decide) ty_4_2 rfl rfl (by decide) (by decide) ⟨by decide, by decide⟩ rfl (fun H1046 e1047 w1048 => ?_))
  have f1049 := f1044.put' e1047 g0 rfl
  have k1050 : H1046 r0 2 = 0 := wq_u_s e1047
  refine wp_of e15 c15_20 (rw_aload_n (pc' := 21) (v := .ref r0) rfl rfl rfl ?_)
  have k1051 : H1046 r0 0 = H1032 r0 0 := ((wq_u_j e1047 rfl).trans (wq_u_j e1042 rfl))
  have q1052 : H1046 r0 0 = (r1 : Int) := k1051.trans q1036
  have k1053 : H1046 r0 1 = H1041 r0 1 := (wq_u_j e1047 rfl)
  have h1054 : TP T H1046 r1 B := (TP_fr w1043 g1 ((wfr.rf (l := [(4, 2)])).put' e1047 g0 rfl) rfl (TP_fr w1034 g1 ((wfr.rf (l := [(4, 1)])).put' e1042 g0 rfl) rfl (TP_fr hW g1 ((wfr.rf (l := [(4, 0)])).put' e1033 g0 rfl) rfl hTP_r1)))
  refine wp_of e15 c15_21 (xc_V (pc' := 24) (r := r0) (as := []) (st := []) (lm_2_26) rfl rfl (Nat.le_of_ble_eq_true rfl) w1048 g0 sh_4 (by decide) rfl (by decide) (u_16 (B := B) (n := a2) (a := 0) (q := (xG 32 32 B a2 0)) w1048 g0 q1052 g1 (by omega) (by omega) (by omega) (rfl) h1054) (fun R1055 T1056 H1057 p1058 => ?_))
  obtain ⟨e1059, w1061, f1062, e1060, p1063⟩ := p1058
  subst e1059
  subst e1060
  have f1065 := f1049.tr f1062 rfl
  show wp _ _ 15 24 [(0, .ref r0), (1, .ref r1), (2, vI a2)] [] _ H1057 _
  have u1066 := TC_k p1063
  have k1067 : H1057 r0 0 = H1046 r0 0 := (f1062 r0 0 _ g0 rfl)
  have q1068 : H1057 r0 0 = (r1 : Int) := k1067.trans q1052
  exact wp_return e15 c15_24 rfl ⟨rfl, w1061, f1065, rfl, ⟨q1068, p1063⟩⟩
/-! StrikeAwake$Tokens.isWord(Ljava/lang/String;)Z  -/
abbrev uq_19 (r0 : Nat) (s1 : Nat) (kk : Int) (T : wq_T) (H : wq_H) : Option Value → wq_T → wq_H → Prop := fun r T' H' => T = T' ∧ H = H' ∧ ∃ z : Int, some (vI z) = r ∧ (0 ≤ z ∧ z ≤ 1) ∧ (((z = 1) ∧ (H r0 3 = 1 ∧ H r0 6 = kk)) ∨ ((z = 0) ∧ (H r0 3 ≠ 1 ∨ H r0 6 ≠ kk)))
set_option maxHeartbeats 4000000 in
theorem u_19 {kt : Nat → Option mc_E} {T : wq_T} {H : wq_H} {r0 : Nat} {s1 : Nat} {t1 : List Int32} {kk : Int} (hW : WT T H) (g0 : T.2.2.2 r0 = some 4) (h1 : mc_find mc_sb s1 = some t1) (p0 : wkw t1 t1.length = kk) : wpc kt 1 19 [.ref r0, .ref s1] T H (uq_19 r0 s1 kk T H) := by
  refine wp_enter e19 (Nat.le_of_ble_eq_true rfl) rfl ?_
  show wp _ _ 19 0 [(0, .ref r0), (1, .ref s1)] [] _ H _
  refine wp_of e19 c19_0 (rw_aload_n (pc' := 1) (v := .ref r0) rfl rfl rfl ?_)
  refine wp_of e19 c19_1 (xg_I (pc' := 4) lf_2_41 hW g0 sh_4 (by decide) (by decide) ty_4_3 rfl rfl (fun b1105 b1106 => ?_))
  refine wp_of e19 c19_4 (rw_iconst (pc' := 5) rfl ?_)
  refine wp_of e19 c19_5 (rw_icmp_eq (p1 := 10) (p2 := 8) (by decide) rfl ⟨Int.le_trans (by decide) b1105, Int.le_trans b1106 (by decide)⟩ ⟨by decide, by decide⟩ (fun c1107 => ?_) (fun c1107 => ?_))
  · refine wp_of e19 c19_10 (rw_lconst (pc' := 11) (z := 0) rfl rfl ?_)
    refine wp_of e19 c19_11 (rw_lstore_n (pc' := 12) (z := 0) (L' := [(2, vL 0), (0, .ref r0), (1, .ref s1)]) rfl rfl rfl ?_)
    refine wp_of e19 c19_12 (rw_iconst (pc' := 13) rfl ?_)
    refine wp_of e19 c19_13 (rw_istore (pc' := 15) (z := 0) (L' := [(4, vI 0), (2, vL 0), (0, .ref r0), (1, .ref s1)]) rfl rfl rfl ?_)
    have lp1192 : ∀ (n1193 : Nat) (v1195 : Int) (v1196 : Int), (0 ≤ v1195 ∧ v1195 ≤ 63) → ((-9223372036854775808) ≤ v1196 ∧ v1196 ≤ 9223372036854775807) → (v1196 = wkw t1 (v1195).toNat) → (v1195 ≤ (t1.length : Int)) → (63 - v1195).toNat = n1193 → wp kt 0 19 15 [(4, vI v1195), (2, vL v1196), (0, .ref r0), (1, .ref s1)] [] T H (uq_19 r0 s1 kk T H) := by
      intro n1193
      induction n1193 using Nat.strongRecOn with
      | _ n1193 ih1194 =>
        intro v1195 v1196 b1199 b1200 x1201 x1202 m1203
        refine wp_of e19 c19_15 (rw_iload (pc' := 17) (z := v1195) rfl rfl ?_)
        refine wp_of e19 c19_17 (rw_aload_n (pc' := 18) (v := .ref s1) rfl rfl rfl ?_)
        refine wp_of e19 c19_18 (rw_slen (pc' := 21) rfl rfl rfl h1 (Nat.le_of_ble_eq_true rfl) rfl ?_)
        have k1204 := (mc_sb_k h1).2.1
        show wp _ _ 19 21 [(4, vI v1195), (2, vL v1196), (0, .ref r0), (1, .ref s1)] [vI ((t1.length : Int)), vI v1195] _ H _
        refine wp_of e19 c19_21 (rw_icmp_ge (p1 := 49) (p2 := 24) (by decide) rfl ⟨Int.le_trans (by decide) b1199.1, Int.le_trans b1199.2 (by decide)⟩ ⟨by omega, by omega⟩ (fun c1205 => ?_) (fun c1205 => ?_))
        · have : wkw t1 (v1195).toNat = kk := by
            rw [show (v1195).toNat = t1.length by omega]
            exact p0
          refine wp_of e19 c19_49 (rw_lload_n (pc' := 50) (z := v1196) rfl rfl ?_)
          refine wp_of e19 c19_50 (rw_aload_n (pc' := 51) (v := .ref r0) rfl rfl rfl ?_)
          refine wp_of e19 c19_51 (xg_L (pc' := 54) lf_2_32 hW g0 sh_4 (by decide) (by decide) ty_4_6 rfl rfl (fun b1206 b1207 => ?_))
          refine wp_of e19 c19_54 (rw_lcmp (pc' := 55) rfl ⟨b1200.1, b1200.2⟩ ⟨b1206, b1207⟩ ?_)
          have b1208 := wq_cmp_b v1196 (H r0 6)
          refine wp_of e19 c19_55 (rw_if_ne (p1 := 62) (p2 := 58) (by decide) rfl ⟨by omega, by omega⟩ (fun c1209 => ?_) (fun c1209 => ?_))
          · refine wp_of e19 c19_62 (rw_iconst (pc' := 63) rfl ?_)
            exact wp_zreturn e19 c19_63 rfl (by omega) ⟨rfl, rfl, 0, rfl, ⟨by decide, by decide⟩, (Or.inr ⟨by omega, by omega⟩)⟩
          · refine wp_of e19 c19_58 (rw_iconst (pc' := 59) rfl ?_)
            refine wp_of e19 c19_59 (rw_goto (p1 := 63) (by decide) ?_)
            exact wp_zreturn e19 c19_63 rfl (by omega) ⟨rfl, rfl, 1, rfl, ⟨by decide, by decide⟩, (Or.inl ⟨by omega, by omega⟩)⟩
        · refine wp_of e19 c19_24 (rw_lload_n (pc' := 25) (z := v1196) rfl rfl ?_)
          refine wp_of e19 c19_25 (rw_ldc2 (pc' := 28) (z := 32) rfl rfl rfl ?_)
          refine wp_of e19 c19_28 (rw_lmulw (pc' := 29) rfl ?_)
          obtain ⟨v1210, e1211⟩ : ∃ x : Int, x = wl_w (v1196 * 32) := ⟨_, rfl⟩
          rw [← e1211]
          have b1212 : -9223372036854775808 ≤ v1210 ∧ v1210 ≤ 9223372036854775807 := by
            rw [e1211]
            exact wL_w _
          have b1213 : (-9223372036854775808 ≤ v1196 * 32 ∧ v1196 * 32 ≤ 9223372036854775807) → v1210 = v1196 * 32 := fun h => by rw [e1211]; exact wl_w_id h
          refine wp_of e19 c19_29 (rw_aload_n (pc' := 30) (v := .ref s1) rfl rfl rfl ?_)
          refine wp_of e19 c19_30 (rw_iload (pc' := 32) (z := v1195) rfl rfl ?_)
          refine wp_of e19 c19_32 (rw_schr (pc' := 35) rfl rfl rfl h1 (by omega) (by omega) (Nat.le_of_ble_eq_true rfl) rfl ?_)
          obtain ⟨v1214, e1215⟩ : ∃ x : Int, x = (t1.getD (v1195).toNat 0).toInt := ⟨_, rfl⟩
          rw [← e1215]
          have b1216 : -2147483648 ≤ v1214 ∧ v1214 ≤ 2147483647 := by
            rw [e1215]
            exact wI_of _
          refine wp_of e19 c19_35 (rw_bipush (pc' := 37) (z := 97) rfl (by decide) ?_)
          refine wp_of e19 c19_37 (rw_isubw (pc' := 38) rfl ?_)
          obtain ⟨v1217, e1218⟩ : ∃ x : Int, x = wq_w (v1214 - 97) := ⟨_, rfl⟩
          rw [← e1218]
          have b1219 : -2147483648 ≤ v1217 ∧ v1217 ≤ 2147483647 := by
            rw [e1218]
            exact wI_w _
          have b1220 : (-2147483648 ≤ v1214 - 97 ∧ v1214 - 97 ≤ 2147483647) → v1217 = v1214 - 97 := fun h => by rw [e1218]; exact wq_w_id h
          refine wp_of e19 c19_38 (rw_iconst (pc' := 39) rfl ?_)
          refine wp_of e19 c19_39 (rw_iaddw (pc' := 40) rfl ?_)
          obtain ⟨v1221, e1222⟩ : ∃ x : Int, x = wq_w (v1217 + 1) := ⟨_, rfl⟩
          rw [← e1222]
          have b1223 : -2147483648 ≤ v1221 ∧ v1221 ≤ 2147483647 := by
            rw [e1222]
            exact wI_w _
          have b1224 : (-2147483648 ≤ v1217 + 1 ∧ v1217 + 1 ≤ 2147483647) → v1221 = v1217 + 1 := fun h => by rw [e1222]; exact wq_w_id h
          refine wp_of e19 c19_40 (rw_i2l (pc' := 41) rfl ⟨b1223.1, b1223.2⟩ ?_)
          refine wp_of e19 c19_41 (rw_laddw (pc' := 42) rfl ?_)
          obtain ⟨v1225, e1226⟩ : ∃ x : Int, x = wl_w (v1210 + v1221) := ⟨_, rfl⟩
          rw [← e1226]
          have b1227 : -9223372036854775808 ≤ v1225 ∧ v1225 ≤ 9223372036854775807 := by
            rw [e1226]
            exact wL_w _
          have b1228 : (-9223372036854775808 ≤ v1210 + v1221 ∧ v1210 + v1221 ≤ 9223372036854775807) → v1225 = v1210 + v1221 := fun h => by rw [e1226]; exact wl_w_id h
          refine wp_of e19 c19_42 (rw_lstore_n (pc' := 43) (z := v1225) (L' := [(2, vL v1225), (4, vI v1195), (0, .ref r0), (1, .ref s1)]) rfl rfl rfl ?_)
          refine wp_of e19 c19_43 (rw_iinc (pc' := 46) (z := v1195) (L' := [(4, vI (v1195 + 1)), (2, vL v1225), (0, .ref r0), (1, .ref s1)]) rfl rfl rfl rfl ?_)
          refine wp_of e19 c19_46 (rw_goto (p1 := 15) (by decide) ?_)
          have : wkw t1 (v1195 + 1).toNat = v1225 := by
            subst_vars
            exact wkw_s (by omega)
          exact wp_lc (ks := [4, 2, 0, 1]) (wl_c rfl (wl_c rfl (wl_c rfl (wl_c rfl wl_n)))) rfl (by decide) (ih1194 _ (by omega) (v1195 + 1) v1225 ⟨by omega, by omega⟩ ⟨b1227.1, b1227.2⟩ (by omega) (by omega) rfl)
    have : wkw t1 (0 : Int).toNat = 0 := rfl
    exact wp_lc (ks := [4, 2, 0, 1]) (wl_c rfl (wl_c rfl (wl_c rfl (wl_c rfl wl_n)))) rfl (by decide) (lp1192 _ 0 0 ⟨by decide, by decide⟩ ⟨by decide, by decide⟩ (by omega) (by omega) rfl)
  · refine wp_of e19 c19_8 (rw_iconst (pc' := 9) rfl ?_)
    exact wp_zreturn e19 c19_9 rfl (by omega) ⟨rfl, rfl, 0, rfl, ⟨by decide, by decide⟩, (Or.inr ⟨by omega, by omega⟩)⟩
/-! StrikeAwake$Tokens.isWord(Ljava/lang/String;)Z t -/
abbrev uq_19_t (r0 : Nat) (s1 : Nat) (B : Nat → Int) (n : Int) (q : Int) (kk : Int) (T : wq_T) (H : wq_H) : Option Value → wq_T → wq_H → Prop := fun r T' H' => T = T' ∧ H = H' ∧ ∃ z : Int, some (vI z) = r ∧ (0 ≤ z ∧ z ≤ 1) ∧ (((z = 1) ∧ (xw B n q kk = 0)) ∨ ((z = 0) ∧ (xw B n q kk = 1)))
set_option maxHeartbeats 4000000 in
theorem u_19_t {kt : Nat → Option mc_E} {T : wq_T} {H : wq_H} {r0 : Nat} {s1 : Nat} {t1 : List Int32} {B : Nat → Int} {n : Int} {q : Int} {kk : Int} (hW : WT T H) (g0 : T.2.2.2 r0 = some 4) (h1 : mc_find mc_sb s1 = some t1) (p0 : wkw t1 t1.length = kk) (hTC_r0 : TC T H r0 B n q) : wpc kt 1 19 [.ref r0, .ref s1] T H (uq_19_t r0 s1 B n q kk T H) := by
  refine wp_enter e19 (Nat.le_of_ble_eq_true rfl) rfl ?_
  show wp _ _ 19 0 [(0, .ref r0), (1, .ref s1)] [] _ H _
  have u1105 := TC_k hTC_r0
  have _i := TC_i hTC_r0
  have _w := @xw_b B n q kk
  refine wp_of e19 c19_0 (rw_aload_n (pc' := 1) (v := .ref r0) rfl rfl rfl ?_)
  refine wp_of e19 c19_1 (xg_I (pc' := 4) lf_2_41 hW g0 sh_4 (by decide) (by decide) ty_4_3 rfl rfl (fun b1106 b1107 => ?_))
  refine wp_of e19 c19_4 (rw_iconst (pc' := 5) rfl ?_)
  refine wp_of e19 c19_5 (rw_icmp_eq (p1 := 10) (p2 := 8) (by decide) rfl ⟨Int.le_trans (by decide) b1106, Int.le_trans b1107 (by decide)⟩ ⟨by decide, by decide⟩ (fun c1108 => ?_) (fun c1108 => ?_))
  · refine wp_of e19 c19_10 (rw_lconst (pc' := 11) (z := 0) rfl rfl ?_)
    refine wp_of e19 c19_11 (rw_lstore_n (pc' := 12) (z := 0) (L' := [(2, vL 0), (0, .ref r0), (1, .ref s1)]) rfl rfl rfl ?_)
    refine wp_of e19 c19_12 (rw_iconst (pc' := 13) rfl ?_)
    refine wp_of e19 c19_13 (rw_istore (pc' := 15) (z := 0) (L' := [(4, vI 0), (2, vL 0), (0, .ref r0), (1, .ref s1)]) rfl rfl rfl ?_)
    have lp1193 : ∀ (n1194 : Nat) (v1196 : Int) (v1197 : Int), (0 ≤ v1196 ∧ v1196 ≤ 63) → ((-9223372036854775808) ≤ v1197 ∧ v1197 ≤ 9223372036854775807) → (v1197 = wkw t1 (v1196).toNat) → (v1196 ≤ (t1.length : Int)) → (63 - v1196).toNat = n1194 → wp kt 0 19 15 [(4, vI v1196), (2, vL v1197), (0, .ref r0), (1, .ref s1)] [] T H (uq_19_t r0 s1 B n q kk T H) := by
      intro n1194
      induction n1194 using Nat.strongRecOn with
      | _ n1194 ih1195 =>
        intro v1196 v1197 b1200 b1201 x1202 x1203 m1204
        refine wp_of e19 c19_15 (rw_iload (pc' := 17) (z := v1196) rfl rfl ?_)
        refine wp_of e19 c19_17 (rw_aload_n (pc' := 18) (v := .ref s1) rfl rfl rfl ?_)
        refine wp_of e19 c19_18 (rw_slen (pc' := 21) rfl rfl rfl h1 (Nat.le_of_ble_eq_true rfl) rfl ?_)
        have k1205 := (mc_sb_k h1).2.1
        show wp _ _ 19 21 [(4, vI v1196), (2, vL v1197), (0, .ref r0), (1, .ref s1)] [vI ((t1.length : Int)), vI v1196] _ H _
        refine wp_of e19 c19_21 (rw_icmp_ge (p1 := 49) (p2 := 24) (by decide) rfl ⟨Int.le_trans (by decide) b1200.1, Int.le_trans b1200.2 (by decide)⟩ ⟨by omega, by omega⟩ (fun c1206 => ?_) (fun c1206 => ?_))
        · have : wkw t1 (v1196).toNat = kk := by
            rw [show (v1196).toNat = t1.length by omega]
            exact p0
          refine wp_of e19 c19_49 (rw_lload_n (pc' := 50) (z := v1197) rfl rfl ?_)
          refine wp_of e19 c19_50 (rw_aload_n (pc' := 51) (v := .ref r0) rfl rfl rfl ?_)
          refine wp_of e19 c19_51 (xg_L (pc' := 54) lf_2_32 hW g0 sh_4 (by decide) (by decide) ty_4_6 rfl rfl (fun b1207 b1208 => ?_))
          refine wp_of e19 c19_54 (rw_lcmp (pc' := 55) rfl ⟨b1201.1, b1201.2⟩ ⟨b1207, b1208⟩ ?_)
          have b1209 := wq_cmp_b v1197 (H r0 6)
          refine wp_of e19 c19_55 (rw_if_ne (p1 := 62) (p2 := 58) (by decide) rfl ⟨by omega, by omega⟩ (fun c1210 => ?_) (fun c1210 => ?_))
          · refine wp_of e19 c19_62 (rw_iconst (pc' := 63) rfl ?_)
            exact wp_zreturn e19 c19_63 rfl (by omega) ⟨rfl, rfl, 0, rfl, ⟨by decide, by decide⟩, (Or.inr ⟨by omega, by omega⟩)⟩
          · refine wp_of e19 c19_58 (rw_iconst (pc' := 59) rfl ?_)
            refine wp_of e19 c19_59 (rw_goto (p1 := 63) (by decide) ?_)
            exact wp_zreturn e19 c19_63 rfl (by omega) ⟨rfl, rfl, 1, rfl, ⟨by decide, by decide⟩, (Or.inl ⟨by omega, by omega⟩)⟩
        · refine wp_of e19 c19_24 (rw_lload_n (pc' := 25) (z := v1197) rfl rfl ?_)
          refine wp_of e19 c19_25 (rw_ldc2 (pc' := 28) (z := 32) rfl rfl rfl ?_)
          refine wp_of e19 c19_28 (rw_lmulw (pc' := 29) rfl ?_)
          obtain ⟨v1211, e1212⟩ : ∃ x : Int, x = wl_w (v1197 * 32) := ⟨_, rfl⟩
          rw [← e1212]
          have b1213 : -9223372036854775808 ≤ v1211 ∧ v1211 ≤ 9223372036854775807 := by
            rw [e1212]
            exact wL_w _
          have b1214 : (-9223372036854775808 ≤ v1197 * 32 ∧ v1197 * 32 ≤ 9223372036854775807) → v1211 = v1197 * 32 := fun h => by rw [e1212]; exact wl_w_id h
          refine wp_of e19 c19_29 (rw_aload_n (pc' := 30) (v := .ref s1) rfl rfl rfl ?_)
          refine wp_of e19 c19_30 (rw_iload (pc' := 32) (z := v1196) rfl rfl ?_)
          refine wp_of e19 c19_32 (rw_schr (pc' := 35) rfl rfl rfl h1 (by omega) (by omega) (Nat.le_of_ble_eq_true rfl) rfl ?_)
          obtain ⟨v1215, e1216⟩ : ∃ x : Int, x = (t1.getD (v1196).toNat 0).toInt := ⟨_, rfl⟩
          rw [← e1216]
          have b1217 : -2147483648 ≤ v1215 ∧ v1215 ≤ 2147483647 := by
            rw [e1216]
            exact wI_of _
          refine wp_of e19 c19_35 (rw_bipush (pc' := 37) (z := 97) rfl (by decide) ?_)
          refine wp_of e19 c19_37 (rw_isubw (pc' := 38) rfl ?_)
          obtain ⟨v1218, e1219⟩ : ∃ x : Int, x = wq_w (v1215 - 97) := ⟨_, rfl⟩
          rw [← e1219]
          have b1220 : -2147483648 ≤ v1218 ∧ v1218 ≤ 2147483647 := by
            rw [e1219]
            exact wI_w _
          have b1221 : (-2147483648 ≤ v1215 - 97 ∧ v1215 - 97 ≤ 2147483647) → v1218 = v1215 - 97 := fun h => by rw [e1219]; exact wq_w_id h
          refine wp_of e19 c19_38 (rw_iconst (pc' := 39) rfl ?_)
          refine wp_of e19 c19_39 (rw_iaddw (pc' := 40) rfl ?_)
          obtain ⟨v1222, e1223⟩ : ∃ x : Int, x = wq_w (v1218 + 1) := ⟨_, rfl⟩
          rw [← e1223]
          have b1224 : -2147483648 ≤ v1222 ∧ v1222 ≤ 2147483647 := by
            rw [e1223]
            exact wI_w _
          have b1225 : (-2147483648 ≤ v1218 + 1 ∧ v1218 + 1 ≤ 2147483647) → v1222 = v1218 + 1 := fun h => by rw [e1223]; exact wq_w_id h
          refine wp_of e19 c19_40 (rw_i2l (pc' := 41) rfl ⟨b1224.1, b1224.2⟩ ?_)
          refine wp_of e19 c19_41 (rw_laddw (pc' := 42) rfl ?_)
          obtain ⟨v1226, e1227⟩ : ∃ x : Int, x = wl_w (v1211 + v1222) := ⟨_, rfl⟩
          rw [← e1227]
          have b1228 : -9223372036854775808 ≤ v1226 ∧ v1226 ≤ 9223372036854775807 := by
            rw [e1227]
            exact wL_w _
          have b1229 : (-9223372036854775808 ≤ v1211 + v1222 ∧ v1211 + v1222 ≤ 9223372036854775807) → v1226 = v1211 + v1222 := fun h => by rw [e1227]; exact wl_w_id h
          refine wp_of e19 c19_42 (rw_lstore_n (pc' := 43) (z := v1226) (L' := [(2, vL v1226), (4, vI v1196), (0, .ref r0), (1, .ref s1)]) rfl rfl rfl ?_)
          refine wp_of e19 c19_43 (rw_iinc (pc' := 46) (z := v1196) (L' := [(4, vI (v1196 + 1)), (2, vL v1226), (0, .ref r0), (1, .ref s1)]) rfl rfl rfl rfl ?_)
          refine wp_of e19 c19_46 (rw_goto (p1 := 15) (by decide) ?_)
          have : wkw t1 (v1196 + 1).toNat = v1226 := by
            subst_vars
            exact wkw_s (by omega)
          exact wp_lc (ks := [4, 2, 0, 1]) (wl_c rfl (wl_c rfl (wl_c rfl (wl_c rfl wl_n)))) rfl (by decide) (ih1195 _ (by omega) (v1196 + 1) v1226 ⟨by omega, by omega⟩ ⟨b1228.1, b1228.2⟩ (by omega) (by omega) rfl)
    have : wkw t1 (0 : Int).toNat = 0 := rfl
    exact wp_lc (ks := [4, 2, 0, 1]) (wl_c rfl (wl_c rfl (wl_c rfl (wl_c rfl wl_n)))) rfl (by decide) (lp1193 _ 0 0 ⟨by decide, by decide⟩ ⟨by decide, by decide⟩ (by omega) (by omega) rfl)
  · refine wp_of e19 c19_8 (rw_iconst (pc' := 9) rfl ?_)
    exact wp_zreturn e19 c19_9 rfl (by omega) ⟨rfl, rfl, 0, rfl, ⟨by decide, by decide⟩, (Or.inr ⟨by omega, by omega⟩)⟩
/-! StrikeAwake$Reader.fail(I)Z  -/
abbrev uq_20 (r0 : Nat) (a1 : Int) (tk : Nat) (T : wq_T) (H : wq_H) : Option Value → wq_T → wq_H → Prop := fun r T' H' => T = T' ∧ WT T H' ∧ wfr [(3, 3), (3, 4)] T H H' ∧ ∃ z : Int, some (vI z) = r ∧ (0 ≤ z ∧ z ≤ 1) ∧ (((z = 0) ∧ (H' r0 3 = a1) ∧ (H' r0 4 = H tk 4)))
set_option maxHeartbeats 4000000 in
theorem u_20 {kt : Nat → Option mc_E} {T : wq_T} {H : wq_H} {r0 : Nat} {a1 : Int} {tk : Nat} (hW : WT T H) (g0 : T.2.2.2 r0 = some 3) (i1 : (-2147483648) ≤ a1 ∧ a1 ≤ 2147483647) (qtk : H r0 0 = (tk : Int)) (gtk : T.2.2.2 tk = some 4) : wpc kt 1 20 [.ref r0, vI a1] T H (uq_20 r0 a1 tk T H) := by
  refine wp_enter e20 (Nat.le_of_ble_eq_true rfl) rfl ?_
  have f0 : wfr [(3, 3), (3, 4)] T H H := wfr.rf
  show wp _ _ 20 0 [(0, .ref r0), (1, vI a1)] [] _ H _
  refine wp_of e20 c20_0 (rw_aload_n (pc' := 1) (v := .ref r0) rfl rfl rfl ?_)
  refine wp_of e20 c20_1 (rw_iload_n (pc' := 2) (z := a1) rfl rfl ?_)
  refine wp_of e20 c20_2 (xp_I (pc' := 5) lf_1_18 hW g0 sh_3 (by decide) (by decide) ty_3_3 rfl rfl (i1.1) (i1.2) ⟨i1.1, i1.2⟩ rfl (fun H1016 e1017 w1018 => ?_))
  have f1019 := f0.put' e1017 g0 rfl
  have k1020 : H1016 r0 3 = a1 := wq_u_s e1017
  refine wp_of e20 c20_5 (rw_aload_n (pc' := 6) (v := .ref r0) rfl rfl rfl ?_)
  refine wp_of e20 c20_6 (rw_aload_n (pc' := 7) (v := .ref r0) rfl rfl rfl ?_)
  have k1021 : H1016 r0 0 = H r0 0 := (wq_u_j e1017 rfl)
  have q1022 : H1016 r0 0 = (tk : Int) := k1021.trans qtk
  refine wp_of e20 c20_7 (xg_K (pc' := 10) lf_1_12 w1018 g0 sh_3 (by decide) (by decide) rfl q1022 rfl ?_)
  have k1023 : H1016 tk 4 = H tk 4 := (wq_u_t e1017 g0 gtk rfl 4)
  refine wp_of e20 c20_10 (xg_I (pc' := 13) lf_1_257 w1018 gtk sh_4 (by decide) (by decide) ty_4_4 rfl rfl (fun b1024 b1025 => ?_))
  refine wp_of e20 c20_13 (xp_I (pc' := 16) lf_1_22 w1018 g0 sh_3 (by decide) (by decide) ty_3_4 rfl rfl (Int.le_trans (by decide) b1024) (Int.le_trans b1025 (by decide)) ⟨Int.le_trans (by decide) b1024, Int.le_trans b1025 (by decide)⟩ rfl (fun H1026 e1027 w1028 => ?_))
  have f1029 := f1019.put' e1027 g0 rfl
  have k1030 : H1026 r0 4 = H1016 tk 4 := wq_u_s e1027
  refine wp_of e20 c20_16 (rw_iconst (pc' := 17) rfl ?_)
  have k1031 : H1026 r0 3 = H1016 r0 3 := (wq_u_j e1027 rfl)
  exact wp_zreturn e20 c20_17 rfl (by omega) ⟨rfl, w1028, f1029, 0, rfl, ⟨by decide, by decide⟩, ⟨by omega, by omega, by omega⟩⟩
