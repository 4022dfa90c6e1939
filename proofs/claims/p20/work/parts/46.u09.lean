/-! StrikeAwakeModel.offIn([II)I l -/
abbrev uq_234_l (r0 : Nat) (r1 : Nat) (a2 : Int) (pp : Nat) (e : xD) (d : xD) (g : Nat → Int) (T : wq_T) (H : wq_H) : Option Value → wq_T → wq_H → Prop := fun r T' H' => T = T' ∧ H = H' ∧ ∃ z : Int, some (vI z) = r ∧ (0 ≤ z ∧ z ≤ 2) ∧ (((z = xvo (e 13 (a2).toNat - 1) ((xdue d g (a2).toNat : Nat) : Int) (d 0 1))))
set_option maxHeartbeats 4000000 in
theorem u_234_l {kt : Nat → Option mc_E} {T : wq_T} {H : wq_H} {r0 : Nat} {r1 : Nat} {a2 : Int} {pp : Nat} {e : xD} {d : xD} {g : Nat → Int} (hW : WT T H) (g0 : T.2.2.2 r0 = some 42) (g1 : T.2.2.2 r1 = some 51) (i2 : 0 ≤ a2 ∧ a2 ≤ 23) (qpp : H r0 3 = (pp : Int)) (gpp : T.2.2.2 pp = some 54) (p0 : XW d) (p1 : SL d g) (p2 : ∀ h : Nat, h < 24 → 0 ≤ e 13 h ∧ e 13 h ≤ 100) (hRB_r0 : RB T H r0 e d) (hRR_r1 : RR T H r1 (d 0 3) g) : wpc kt 3 234 [.ref r0, .ref r1, vI a2] T H (uq_234_l r0 r1 a2 pp e d g T H) := by
  refine wp_enter e234 (Nat.le_of_ble_eq_true rfl) rfl ?_
  show wp _ _ 234 0 [(0, .ref r0), (1, .ref r1), (2, vI a2)] [] _ H _
  have _xc := p0.2.1
  unfold XC at _xc
  have _n3 : H r0 3 ≠ -1 := by omega
  have _k := RP_k (RB_at hRB_r0 qpp)
  have _ar := RB_ar hRB_r0 (by omega)
  have _pk := _ar.1
  have h1045 : MN20 T H r0 24 (e 13) := _ar.2.2.1
  refine wp_of e234 c234_0 (rw_aload_n (pc' := 1) (v := .ref r0) rfl rfl rfl ?_)
  refine wp_of e234 c234_1 (xg_R (pc' := 4) lf_9_17 hW g0 sh_42 (by decide) (by decide) ty_42_20 rfl rfl (fun r1046 q1047 g1048 => ?_))
  refine wp_of e234 c234_4 (rw_iload_n (pc' := 5) (z := a2) rfl rfl ?_)
  refine wp_of e234 c234_5 (xa_I (so := 0) (pc' := 6) hW g1048 sh_44 (by decide) (ty_44 _) (i2.1) (Int.lt_of_le_of_lt i2.2 (by decide)) rfl (fun b1049 b1050 => ?_))
  have := DA_at h1045 q1047 (k := (a2.toNat)) (by omega)
  have _eb := p2 (a2.toNat) (by omega)
  refine wp_of e234 c234_6 (rw_iconst (pc' := 7) rfl ?_)
  refine wp_of e234 c234_7 (rw_isubw (pc' := 8) rfl ?_)
  obtain ⟨v1051, e1052⟩ : ∃ x : Int, x = wq_w ((H r1046 (a2.toNat)) - 1) := ⟨_, rfl⟩
  rw [← e1052]
  have b1053 : -2147483648 ≤ v1051 ∧ v1051 ≤ 2147483647 := by
    rw [e1052]
    exact wI_w _
  have b1054 : (-2147483648 ≤ (H r1046 (a2.toNat)) - 1 ∧ (H r1046 (a2.toNat)) - 1 ≤ 2147483647) → v1051 = (H r1046 (a2.toNat)) - 1 := fun h => by rw [e1052]; exact wq_w_id h
  refine wp_of e234 c234_8 (rw_aload_n (pc' := 9) (v := .ref r0) rfl rfl rfl ?_)
  refine wp_of e234 c234_9 (rw_aload_n (pc' := 10) (v := .ref r1) rfl rfl rfl ?_)
  refine wp_of e234 c234_10 (rw_iload_n (pc' := 11) (z := a2) rfl rfl ?_)
  refine wp_of e234 c234_11 (xc_V (pc' := 14) (r := r0) (as := [.ref r1, vI a2]) (st := [vI v1051]) (lm_9_386) rfl rfl (Nat.le_of_ble_eq_true rfl) hW g0 sh_42 (by decide) rfl (by decide) (u_228_l (e := e) (d := d) (g := g) hW g0 g1 ⟨i2.1, i2.2⟩ qpp gpp (by assumption) (by assumption) hRB_r0 hRR_r1) (fun R1055 T1056 H1057 p1058 => ?_))
  obtain ⟨e1059, e1061, z1062, e1060, b1063, p1064⟩ := p1058
  subst e1059
  subst e1060
  subst e1061
  show wp _ _ 234 14 [(0, .ref r0), (1, .ref r1), (2, vI a2)] [vI z1062, vI v1051] _ H _
  refine wp_of e234 c234_14 (rw_isubw (pc' := 15) rfl ?_)
  obtain ⟨v1066, e1067⟩ : ∃ x : Int, x = wq_w (v1051 - z1062) := ⟨_, rfl⟩
  rw [← e1067]
  have b1068 : -2147483648 ≤ v1066 ∧ v1066 ≤ 2147483647 := by
    rw [e1067]
    exact wI_w _
  have b1069 : (-2147483648 ≤ v1051 - z1062 ∧ v1051 - z1062 ≤ 2147483647) → v1066 = v1051 - z1062 := fun h => by rw [e1067]; exact wq_w_id h
  refine wp_of e234 c234_15 (rw_istore_n (pc' := 16) (z := v1066) (L' := [(3, vI v1066), (0, .ref r0), (1, .ref r1), (2, vI a2)]) rfl rfl rfl ?_)
  refine wp_of e234 c234_16 (rw_iload_n (pc' := 17) (z := v1066) rfl rfl ?_)
  refine wp_of e234 c234_17 (rw_iconst (pc' := 18) rfl ?_)
  refine wp_of e234 c234_18 (rw_aload_n (pc' := 19) (v := .ref r0) rfl rfl rfl ?_)
  refine wp_of e234 c234_19 (xg_K (pc' := 22) lf_9_337 hW g0 sh_42 (by decide) (by decide) rfl qpp rfl ?_)
  refine wp_of e234 c234_22 (xg_I (pc' := 25) lf_9_222 hW gpp sh_54 (by decide) (by decide) ty_54_1 rfl rfl (fun b1070 b1071 => ?_))
  refine wp_of e234 c234_25 (xc_S (pc' := 28) (as := [vI v1066, vI 0, vI (H pp 1)]) (st := []) (lm_9_125) rfl rfl (Nat.le_of_ble_eq_true rfl) rfl (by decide) (u_186  hW ⟨b1068.1, b1068.2⟩ ⟨by decide, by decide⟩ ⟨b1070, b1071⟩) (fun R1072 T1073 H1074 p1075 => ?_))
  obtain ⟨e1076, e1078, z1079, e1077, b1080, p1081⟩ := p1075
  subst e1076
  subst e1077
  subst e1078
  rcases p1081 with ⟨a1082, a1083⟩ | ⟨a1084, a1085⟩
  · show wp _ _ 234 28 [(3, vI v1066), (0, .ref r0), (1, .ref r1), (2, vI a2)] [vI z1079] _ H _
    refine wp_of e234 c234_28 (rw_if_eq (p1 := 33) (p2 := 31) (by decide) rfl ⟨Int.le_trans (by decide) b1080.1, Int.le_trans b1080.2 (by decide)⟩ (fun c1086 => ?_) (fun c1086 => ?_))
    · exfalso
      omega
    · refine wp_of e234 c234_31 (rw_iconst (pc' := 32) rfl ?_)
      have _z : (0 : Int) = xvo (e 13 (a2).toNat - 1) ((xdue d g (a2).toNat : Nat) : Int) (d 0 1) := by
        unfold xvo
        repeat first | rw [if_pos (by omega -splitDisjunctions)] | rw [if_neg (by omega -splitDisjunctions)] | rw [if_pos (by omega)] | rw [if_neg (by omega)]
        first | done | rfl | (exfalso; omega)
      exact wp_ireturn e234 c234_32 rfl ⟨rfl, rfl, 0, rfl, ⟨by decide, by decide⟩, (_z)⟩
  · show wp _ _ 234 28 [(3, vI v1066), (0, .ref r0), (1, .ref r1), (2, vI a2)] [vI z1079] _ H _
    refine wp_of e234 c234_28 (rw_if_eq (p1 := 33) (p2 := 31) (by decide) rfl ⟨Int.le_trans (by decide) b1080.1, Int.le_trans b1080.2 (by decide)⟩ (fun c1087 => ?_) (fun c1087 => ?_))
    · refine wp_of e234 c234_33 (rw_iload_n (pc' := 34) (z := v1066) rfl rfl ?_)
      refine wp_of e234 c234_34 (rw_iconst (pc' := 35) rfl ?_)
      refine wp_of e234 c234_35 (rw_icmp_eq (p1 := 51) (p2 := 38) (by decide) rfl ⟨b1068.1, b1068.2⟩ ⟨by decide, by decide⟩ (fun c1088 => ?_) (fun c1088 => ?_))
      · refine wp_of e234 c234_51 (rw_iconst (pc' := 52) rfl ?_)
        refine wp_of e234 c234_52 (rw_goto (p1 := 56) (by decide) ?_)
        have _z : (1 : Int) = xvo (e 13 (a2).toNat - 1) ((xdue d g (a2).toNat : Nat) : Int) (d 0 1) := by
          unfold xvo
          repeat first | rw [if_pos (by omega -splitDisjunctions)] | rw [if_neg (by omega -splitDisjunctions)] | rw [if_pos (by omega)] | rw [if_neg (by omega)]
          first | done | rfl | (exfalso; omega)
        exact wp_ireturn e234 c234_56 rfl ⟨rfl, rfl, 1, rfl, ⟨by decide, by decide⟩, (_z)⟩
      · refine wp_of e234 c234_38 (rw_iload_n (pc' := 39) (z := v1066) rfl rfl ?_)
        refine wp_of e234 c234_39 (rw_aload_n (pc' := 40) (v := .ref r0) rfl rfl rfl ?_)
        refine wp_of e234 c234_40 (xg_K (pc' := 43) lf_9_337 hW g0 sh_42 (by decide) (by decide) rfl qpp rfl ?_)
        refine wp_of e234 c234_43 (xg_I (pc' := 46) lf_9_222 hW gpp sh_54 (by decide) (by decide) ty_54_1 rfl rfl (fun b1089 b1090 => ?_))
        refine wp_of e234 c234_46 (rw_iconst (pc' := 47) rfl ?_)
        refine wp_of e234 c234_47 (rw_iaddw (pc' := 48) rfl ?_)
        obtain ⟨v1091, e1092⟩ : ∃ x : Int, x = wq_w ((H pp 1) + 1) := ⟨_, rfl⟩
        rw [← e1092]
        have b1093 : -2147483648 ≤ v1091 ∧ v1091 ≤ 2147483647 := by
          rw [e1092]
          exact wI_w _
        have b1094 : (-2147483648 ≤ (H pp 1) + 1 ∧ (H pp 1) + 1 ≤ 2147483647) → v1091 = (H pp 1) + 1 := fun h => by rw [e1092]; exact wq_w_id h
        refine wp_of e234 c234_48 (rw_icmp_ne (p1 := 55) (p2 := 51) (by decide) rfl ⟨b1068.1, b1068.2⟩ ⟨b1093.1, b1093.2⟩ (fun c1095 => ?_) (fun c1095 => ?_))
        · refine wp_of e234 c234_55 (rw_iconst (pc' := 56) rfl ?_)
          have _z : (2 : Int) = xvo (e 13 (a2).toNat - 1) ((xdue d g (a2).toNat : Nat) : Int) (d 0 1) := by
            unfold xvo
            repeat first | rw [if_pos (by omega -splitDisjunctions)] | rw [if_neg (by omega -splitDisjunctions)] | rw [if_pos (by omega)] | rw [if_neg (by omega)]
            first | done | rfl | (exfalso; omega)
          exact wp_ireturn e234 c234_56 rfl ⟨rfl, rfl, 2, rfl, ⟨by decide, by decide⟩, (_z)⟩
        · refine wp_of e234 c234_51 (rw_iconst (pc' := 52) rfl ?_)
          refine wp_of e234 c234_52 (rw_goto (p1 := 56) (by decide) ?_)
          have _z : (1 : Int) = xvo (e 13 (a2).toNat - 1) ((xdue d g (a2).toNat : Nat) : Int) (d 0 1) := by
            unfold xvo
            repeat first | rw [if_pos (by omega -splitDisjunctions)] | rw [if_neg (by omega -splitDisjunctions)] | rw [if_pos (by omega)] | rw [if_neg (by omega)]
            first | done | rfl | (exfalso; omega)
          exact wp_ireturn e234 c234_56 rfl ⟨rfl, rfl, 1, rfl, ⟨by decide, by decide⟩, (_z)⟩
    · exfalso
      omega
/-! StrikeAwakeModel.bothAsleep([I)I l -/
abbrev uq_235_l (r0 : Nat) (r1 : Nat) (pp : Nat) (e : xD) (d : xD) (g : Nat → Int) (T : wq_T) (H : wq_H) : Option Value → wq_T → wq_H → Prop := fun r T' H' => T = T' ∧ H = H' ∧ ∃ z : Int, some (vI z) = r ∧ (0 ≤ z ∧ z ≤ 16777215) ∧ (((z = xqu d g (d 0 3).toNat)))
set_option maxHeartbeats 4000000 in
theorem u_235_l {kt : Nat → Option mc_E} {T : wq_T} {H : wq_H} {r0 : Nat} {r1 : Nat} {pp : Nat} {e : xD} {d : xD} {g : Nat → Int} (hW : WT T H) (g0 : T.2.2.2 r0 = some 42) (g1 : T.2.2.2 r1 = some 51) (qpp : H r0 3 = (pp : Int)) (gpp : T.2.2.2 pp = some 54) (p0 : XW d) (p1 : SL d g) (p2 : XN d) (hRB_r0 : RB T H r0 e d) (hRR_r1 : RR T H r1 (d 0 3) g) : wpc kt 1 235 [.ref r0, .ref r1] T H (uq_235_l r0 r1 pp e d g T H) := by
  refine wp_enter e235 (Nat.le_of_ble_eq_true rfl) rfl ?_
  show wp _ _ 235 0 [(0, .ref r0), (1, .ref r1)] [] _ H _
  have b1176 : 0 ≤ H pp 4 ∧ H pp 4 ≤ 3 := hW.box gpp (n := 27) rfl (by decide) rfl
  have h1177 : MA18 T H pp (d 10) := RP_18 (RB_at hRB_r0 qpp)
  have h1178 : MA19 T H pp (d 11) := RP_19 (RB_at hRB_r0 qpp)
  have _xc := p0.2.1
  unfold XC at _xc
  have _n3 : H r0 3 ≠ -1 := by omega
  have _k := RP_k (RB_at hRB_r0 qpp)
  have _ar := RB_ar hRB_r0 (by omega)
  have _pk := _ar.1
  have h1179 : LB24 T H r0 (xas d) (xsq d) := _ar.2.2.2.2.2.2.1
  refine wp_of e235 c235_0 (rw_iconst (pc' := 1) rfl ?_)
  refine wp_of e235 c235_1 (rw_istore_n (pc' := 2) (z := 0) (L' := [(2, vI 0), (0, .ref r0), (1, .ref r1)]) rfl rfl rfl ?_)
  refine wp_of e235 c235_2 (rw_iconst (pc' := 3) rfl ?_)
  refine wp_of e235 c235_3 (rw_istore_n (pc' := 4) (z := 0) (L' := [(3, vI 0), (2, vI 0), (0, .ref r0), (1, .ref r1)]) rfl rfl rfl ?_)
  have lp1320 : ∀ (n1321 : Nat) (v1323 : Int) (v1324 : Int), (0 ≤ v1323 ∧ v1323 ≤ 3) → (0 ≤ v1324 ∧ v1324 ≤ 16777215) → (v1323 ≤ d 0 4) → (v1324 = xpq d g (v1323).toNat) → (3 - v1323).toNat = n1321 → wp kt 0 235 4 [(3, vI v1323), (2, vI v1324), (0, .ref r0), (1, .ref r1)] [] T H (uq_235_l r0 r1 pp e d g T H) := by
    intro n1321
    induction n1321 using Nat.strongRecOn with
    | _ n1321 ih1322 =>
      intro v1323 v1324 b1327 b1328 x1329 x1331 m1330
      refine wp_of e235 c235_4 (rw_iload_n (pc' := 5) (z := v1323) rfl rfl ?_)
      refine wp_of e235 c235_5 (rw_aload_n (pc' := 6) (v := .ref r0) rfl rfl rfl ?_)
      refine wp_of e235 c235_6 (xg_K (pc' := 9) lf_9_337 hW g0 sh_42 (by decide) (by decide) rfl qpp rfl ?_)
      refine wp_of e235 c235_9 (xg_I (pc' := 12) lf_9_276 hW gpp sh_54 (by decide) (by decide) ty_54_4 rfl rfl (fun b1332 b1333 => ?_))
      refine wp_of e235 c235_12 (rw_icmp_ge (p1 := 83) (p2 := 15) (by decide) rfl ⟨Int.le_trans (by decide) b1327.1, Int.le_trans b1327.2 (by decide)⟩ ⟨Int.le_trans (by decide) b1332, Int.le_trans b1333 (by decide)⟩ (fun c1334 => ?_) (fun c1334 => ?_))
      · refine wp_of e235 c235_83 (rw_iload_n (pc' := 84) (z := v1324) rfl rfl ?_)
        exact wp_ireturn e235 c235_84 rfl ⟨rfl, rfl, v1324, rfl, ⟨b1328.1, b1328.2⟩, (by rw [xqu_xpq p2 (by omega), show (d 0 4).toNat = (v1323).toNat by omega]; assumption)⟩
      · have _nn := p2 (v1323).toNat (by omega)
        refine wp_of e235 c235_15 (rw_iload_n (pc' := 16) (z := v1324) rfl rfl ?_)
        refine wp_of e235 c235_16 (rw_aload_n (pc' := 17) (v := .ref r0) rfl rfl rfl ?_)
        refine wp_of e235 c235_17 (xg_R (pc' := 20) lf_9_30 hW g0 sh_42 (by decide) (by decide) ty_42_24 rfl rfl (fun r1335 q1336 g1337 => ?_))
        refine wp_of e235 c235_20 (rw_bipush (pc' := 22) (z := 40) rfl (by decide) ?_)
        refine wp_of e235 c235_22 (rw_aload_n (pc' := 23) (v := .ref r0) rfl rfl rfl ?_)
        refine wp_of e235 c235_23 (xg_K (pc' := 26) lf_9_337 hW g0 sh_42 (by decide) (by decide) rfl qpp rfl ?_)
        refine wp_of e235 c235_26 (xg_R (pc' := 29) lf_9_282 hW gpp sh_54 (by decide) (by decide) ty_54_18 rfl rfl (fun r1338 q1339 g1340 => ?_))
        refine wp_of e235 c235_29 (rw_iload_n (pc' := 30) (z := v1323) rfl rfl ?_)
        refine wp_of e235 c235_30 (xa_I (so := 0) (pc' := 31) hW g1340 sh_64 (by decide) (ty_64 _) (b1327.1) (by omega) rfl (fun b1341 b1342 => ?_))
        have := MA_at h1177 q1339 (k := (v1323.toNat)) (by omega)
        have _s := p1 (d 10 (v1323).toNat).toNat (by omega)
        have _xp : xas d (d 10 (v1323).toNat).toNat ((xsp d (d 10 (v1323).toNat).toNat).getD (g (d 10 (v1323).toNat).toNat).toNat (0, 0)) = xsb d g (d 10 (v1323).toNat).toNat := rfl
        refine wp_of e235 c235_31 (rw_imul (pc' := 32) rfl ?_)
        refine wp_of e235 c235_32 (rw_aload_n (pc' := 33) (v := .ref r1) rfl rfl rfl ?_)
        refine wp_of e235 c235_33 (rw_aload_n (pc' := 34) (v := .ref r0) rfl rfl rfl ?_)
        refine wp_of e235 c235_34 (xg_K (pc' := 37) lf_9_337 hW g0 sh_42 (by decide) (by decide) rfl qpp rfl ?_)
        refine wp_of e235 c235_37 (xg_K (pc' := 40) lf_9_282 hW gpp sh_54 (by decide) (by decide) rfl q1339 rfl ?_)
        refine wp_of e235 c235_40 (rw_iload_n (pc' := 41) (z := v1323) rfl rfl ?_)
        refine wp_of e235 c235_41 (xa_I (so := 0) (pc' := 42) hW g1340 sh_64 (by decide) (ty_64 _) (b1327.1) (by omega) rfl (fun b1343 b1344 => ?_))
        have := MA_at h1177 q1339 (k := (v1323.toNat)) (by omega)
        refine wp_of e235 c235_42 (xa_I (so := 0) (pc' := 43) hW g1 sh_51 (by decide) (ty_51 _) (b1343) (Int.lt_of_le_of_lt b1344 (by decide)) rfl (fun b1345 b1346 => ?_))
        have := RR_at hRR_r1 (k := ((H r1338 (v1323.toNat)).toNat)) (by omega)
        refine wp_of e235 c235_43 (rw_iadd (pc' := 44) rfl ?_)
        have _ge : g ((H r1338 (v1323.toNat)).toNat) = g (d 10 (v1323).toNat).toNat := congrArg g (by omega)
        have _lx := LB_x h1179 q1336 (k := (d 10 (v1323).toNat).toNat) (i := (g (d 10 (v1323).toNat).toNat).toNat) (s := (((40 * (H r1338 (v1323.toNat))) + (H r1 ((H r1338 (v1323.toNat)).toNat))).toNat)) (by omega) (by omega) (by omega) _pk (by omega)
        refine wp_of e235 c235_44 (xa_I (so := 0) (pc' := 45) hW g1337 sh_48 (by decide) (ty_48 _) (by omega) (by omega) rfl (fun b1347 b1348 => ?_))
        refine wp_of e235 c235_45 (rw_aload_n (pc' := 46) (v := .ref r0) rfl rfl rfl ?_)
        refine wp_of e235 c235_46 (xg_K (pc' := 49) lf_9_30 hW g0 sh_42 (by decide) (by decide) rfl q1336 rfl ?_)
        refine wp_of e235 c235_49 (rw_bipush (pc' := 51) (z := 40) rfl (by decide) ?_)
        refine wp_of e235 c235_51 (rw_aload_n (pc' := 52) (v := .ref r0) rfl rfl rfl ?_)
        refine wp_of e235 c235_52 (xg_K (pc' := 55) lf_9_337 hW g0 sh_42 (by decide) (by decide) rfl qpp rfl ?_)
        refine wp_of e235 c235_55 (xg_R (pc' := 58) lf_9_285 hW gpp sh_54 (by decide) (by decide) ty_54_19 rfl rfl (fun r1349 q1350 g1351 => ?_))
        refine wp_of e235 c235_58 (rw_iload_n (pc' := 59) (z := v1323) rfl rfl ?_)
        refine wp_of e235 c235_59 (xa_I (so := 0) (pc' := 60) hW g1351 sh_65 (by decide) (ty_65 _) (b1327.1) (by omega) rfl (fun b1352 b1353 => ?_))
        have := MA_at h1178 q1350 (k := (v1323.toNat)) (by omega)
        have _s := p1 (d 11 (v1323).toNat).toNat (by omega)
        have _xp : xas d (d 11 (v1323).toNat).toNat ((xsp d (d 11 (v1323).toNat).toNat).getD (g (d 11 (v1323).toNat).toNat).toNat (0, 0)) = xsb d g (d 11 (v1323).toNat).toNat := rfl
        refine wp_of e235 c235_60 (rw_imul (pc' := 61) rfl ?_)
        refine wp_of e235 c235_61 (rw_aload_n (pc' := 62) (v := .ref r1) rfl rfl rfl ?_)
        refine wp_of e235 c235_62 (rw_aload_n (pc' := 63) (v := .ref r0) rfl rfl rfl ?_)
        refine wp_of e235 c235_63 (xg_K (pc' := 66) lf_9_337 hW g0 sh_42 (by decide) (by decide) rfl qpp rfl ?_)
        refine wp_of e235 c235_66 (xg_K (pc' := 69) lf_9_285 hW gpp sh_54 (by decide) (by decide) rfl q1350 rfl ?_)
        refine wp_of e235 c235_69 (rw_iload_n (pc' := 70) (z := v1323) rfl rfl ?_)
        refine wp_of e235 c235_70 (xa_I (so := 0) (pc' := 71) hW g1351 sh_65 (by decide) (ty_65 _) (b1327.1) (by omega) rfl (fun b1354 b1355 => ?_))
        have := MA_at h1178 q1350 (k := (v1323.toNat)) (by omega)
        refine wp_of e235 c235_71 (xa_I (so := 0) (pc' := 72) hW g1 sh_51 (by decide) (ty_51 _) (b1354) (Int.lt_of_le_of_lt b1355 (by decide)) rfl (fun b1356 b1357 => ?_))
        have := RR_at hRR_r1 (k := ((H r1349 (v1323.toNat)).toNat)) (by omega)
        refine wp_of e235 c235_72 (rw_iadd (pc' := 73) rfl ?_)
        have _ge : g ((H r1349 (v1323.toNat)).toNat) = g (d 11 (v1323).toNat).toNat := congrArg g (by omega)
        have _lx := LB_x h1179 q1336 (k := (d 11 (v1323).toNat).toNat) (i := (g (d 11 (v1323).toNat).toNat).toNat) (s := (((40 * (H r1349 (v1323.toNat))) + (H r1 ((H r1349 (v1323.toNat)).toNat))).toNat)) (by omega) (by omega) (by omega) _pk (by omega)
        refine wp_of e235 c235_73 (xa_I (so := 0) (pc' := 74) hW g1337 sh_48 (by decide) (ty_48 _) (by omega) (by omega) rfl (fun b1358 b1359 => ?_))
        refine wp_of e235 c235_74 (rw_iand (pc' := 75) rfl ?_)
        obtain ⟨v1360, e1361⟩ : ∃ x : Int, x = wq_and (H r1335 (((40 * (H r1338 (v1323.toNat))) + (H r1 ((H r1338 (v1323.toNat)).toNat))).toNat)) (H r1335 (((40 * (H r1349 (v1323.toNat))) + (H r1 ((H r1349 (v1323.toNat)).toNat))).toNat)) := ⟨_, rfl⟩
        rw [← e1361]
        have b1362 : -2147483648 ≤ v1360 ∧ v1360 ≤ 2147483647 := by
          rw [e1361]
          exact wI_and _ _
        have _an : v1360 = wq_and (xsb d g (d 10 (v1323).toNat).toNat) (xsb d g (d 11 (v1323).toNat).toNat) := xand_e e1361 (by omega) (by omega)
        have _ab := @xsb_and d g (d 10 (v1323).toNat).toNat (d 11 (v1323).toNat).toNat
        refine wp_of e235 c235_75 (rw_ior (pc' := 76) rfl ?_)
        obtain ⟨v1363, e1364⟩ : ∃ x : Int, x = wq_or v1324 v1360 := ⟨_, rfl⟩
        rw [← e1364]
        have b1365 : -2147483648 ≤ v1363 ∧ v1363 ≤ 2147483647 := by
          rw [e1364]
          exact wI_or _ _
        have _q : v1363 = xpq d g (v1323 + 1).toNat := by
          rw [show (v1323 + 1).toNat = (v1323).toNat + 1 by omega]
          exact xpq_s (y := 0) e1364 (by omega) _an
        have _qb2 := xpq_b (d := d) (g := g) (v1323 + 1).toNat
        refine wp_of e235 c235_76 (rw_istore_n (pc' := 77) (z := v1363) (L' := [(2, vI v1363), (3, vI v1323), (0, .ref r0), (1, .ref r1)]) rfl rfl rfl ?_)
        refine wp_of e235 c235_77 (rw_iinc (pc' := 80) (z := v1323) (L' := [(3, vI (v1323 + 1)), (2, vI v1363), (0, .ref r0), (1, .ref r1)]) rfl rfl rfl rfl ?_)
        refine wp_of e235 c235_80 (rw_goto (p1 := 4) (by decide) ?_)
        exact wp_lc (ks := [3, 2, 0, 1]) (wl_c rfl (wl_c rfl (wl_c rfl (wl_c rfl wl_n)))) rfl (by decide) (ih1322 _ (by omega) (v1323 + 1) v1363 ⟨by omega, by omega⟩ ⟨by omega, by omega⟩ (by omega) (_q) rfl)
  exact wp_lc (ks := [3, 2, 0, 1]) (wl_c rfl (wl_c rfl (wl_c rfl (wl_c rfl wl_n)))) rfl (by decide) (lp1320 _ 0 0 ⟨by decide, by decide⟩ ⟨by decide, by decide⟩ (by omega) (rfl) rfl)
/-! StrikeAwakeModel.barredAt([II)I l -/
abbrev uq_239_l (r0 : Nat) (r1 : Nat) (a2 : Int) (pp : Nat) (e : xD) (d : xD) (g : Nat → Int) (T : wq_T) (H : wq_H) : Option Value → wq_T → wq_H → Prop := fun r T' H' => T = T' ∧ H = H' ∧ ∃ z : Int, some (vI z) = r ∧ (0 ≤ z ∧ z ≤ 24) ∧ (((XFB (xbh a2 (xvy e d g)) (d 0 2) 24 z)))
set_option maxHeartbeats 4000000 in
theorem u_239_l {kt : Nat → Option mc_E} {T : wq_T} {H : wq_H} {r0 : Nat} {r1 : Nat} {a2 : Int} {pp : Nat} {e : xD} {d : xD} {g : Nat → Int} (hW : WT T H) (g0 : T.2.2.2 r0 = some 42) (g1 : T.2.2.2 r1 = some 51) (i2 : 0 ≤ a2 ∧ a2 ≤ 16777215) (qpp : H r0 3 = (pp : Int)) (gpp : T.2.2.2 pp = some 54) (p0 : XW d) (p1 : SL d g) (p2 : ∀ h : Nat, d 0 0 ≤ (h : Int) → h < 24 → e 13 h = 0) (p3 : ∀ h : Nat, h < 24 → 0 ≤ e 13 h ∧ e 13 h ≤ 100) (hRB_r0 : RB T H r0 e d) (hRR_r1 : RR T H r1 (d 0 3) g) : wpc kt 4 239 [.ref r0, .ref r1, vI a2] T H (uq_239_l r0 r1 a2 pp e d g T H) := by
  refine wp_enter e239 (Nat.le_of_ble_eq_true rfl) rfl ?_
  show wp _ _ 239 0 [(0, .ref r0), (1, .ref r1), (2, vI a2)] [] _ H _
  have b1394 : 0 ≤ H pp 0 ∧ H pp 0 ≤ 24 := hW.box gpp (n := 27) rfl (by decide) rfl
  have b1395 : (-2147483648) ≤ H pp 2 ∧ H pp 2 ≤ 2147483647 := hW.box gpp (n := 27) rfl (by decide) rfl
  have _xc := p0.2.1
  unfold XC at _xc
  have _n3 : H r0 3 ≠ -1 := by omega
  have _k := RP_k (RB_at hRB_r0 qpp)
  have _ar := RB_ar hRB_r0 (by omega)
  have _pk := _ar.1
  have h1396 : MN20 T H r0 24 (e 13) := _ar.2.2.1
  refine wp_of e239 c239_0 (rw_iconst (pc' := 1) rfl ?_)
  refine wp_of e239 c239_1 (rw_istore_n (pc' := 2) (z := 0) (L' := [(3, vI 0), (0, .ref r0), (1, .ref r1), (2, vI a2)]) rfl rfl rfl ?_)
  refine wp_of e239 c239_2 (rw_iconst (pc' := 3) rfl ?_)
  refine wp_of e239 c239_3 (rw_istore (pc' := 5) (z := 0) (L' := [(4, vI 0), (3, vI 0), (0, .ref r0), (1, .ref r1), (2, vI a2)]) rfl rfl rfl ?_)
  have lp1749 : ∀ (n1750 : Nat) (v1752 : Int) (v1753 : Int), (0 ≤ v1752 ∧ v1752 ≤ 24) → (0 ≤ v1753 ∧ v1753 ≤ 48) → (v1753 ≤ 2 * v1752) → (v1752 ≤ d 0 0) → (v1753 ≤ d 0 2) → (v1753 = xco (xbh a2 (xvy e d g)) (v1752).toNat) → (∀ h : Nat, (h : Int) < v1752 → xbad (xbh a2 (xvy e d g)) (d 0 2) h = false) → (24 - v1752).toNat = n1750 → wp kt 3 239 5 [(4, vI v1752), (3, vI v1753), (0, .ref r0), (1, .ref r1), (2, vI a2)] [] T H (uq_239_l r0 r1 a2 pp e d g T H) := by
    intro n1750
    induction n1750 using Nat.strongRecOn with
    | _ n1750 ih1751 =>
      intro v1752 v1753 b1756 b1757 x1759 x1760 x1761 x1762 x1763 m1758
      refine wp_of e239 c239_5 (rw_iload (pc' := 7) (z := v1752) rfl rfl ?_)
      refine wp_of e239 c239_7 (rw_aload_n (pc' := 8) (v := .ref r0) rfl rfl rfl ?_)
      refine wp_of e239 c239_8 (xg_K (pc' := 11) lf_9_337 hW g0 sh_42 (by decide) (by decide) rfl qpp rfl ?_)
      refine wp_of e239 c239_11 (xg_I (pc' := 14) lf_9_185 hW gpp sh_54 (by decide) (by decide) ty_54_0 rfl rfl (fun b1764 b1765 => ?_))
      refine wp_of e239 c239_14 (rw_icmp_ge (p1 := 79) (p2 := 17) (by decide) rfl ⟨Int.le_trans (by decide) b1756.1, Int.le_trans b1756.2 (by decide)⟩ ⟨Int.le_trans (by decide) b1764, Int.le_trans b1765 (by decide)⟩ (fun c1766 => ?_) (fun c1766 => ?_))
      · refine wp_of e239 c239_79 (rw_bipush (pc' := 81) (z := 24) rfl (by decide) ?_)
        have _z : XFB (xbh a2 (xvy e d g)) (d 0 2) 24 24 := XFB_e (xbad_all (u := (v1752).toNat) (fun h hh => ‹∀ h : Nat, (h : Int) < v1752 → xbad (xbh a2 (xvy e d g)) (d 0 2) h = false› h (by omega)) (xbad_gap (fun j a b => by
          unfold xbh
          split
          · rfl
          · exact xvy_0 (by have := p2 j (by omega) b; omega)) (by omega)))
        exact wp_ireturn e239 c239_81 rfl ⟨rfl, rfl, 24, rfl, ⟨by decide, by decide⟩, (_z)⟩
      · refine wp_of e239 c239_17 (rw_iload_n (pc' := 18) (z := a2) rfl rfl ?_)
        refine wp_of e239 c239_18 (rw_iload (pc' := 20) (z := v1752) rfl rfl ?_)
        refine wp_of e239 c239_20 (xc_S (pc' := 23) (as := [vI a2, vI v1752]) (st := []) (lm_9_346) rfl rfl (Nat.le_of_ble_eq_true rfl) rfl (by decide) (u_205  hW ⟨Int.le_trans (by decide) i2.1, Int.le_trans i2.2 (by decide)⟩ ⟨Int.le_trans (by decide) b1756.1, Int.le_trans b1756.2 (by decide)⟩) (fun R1767 T1768 H1769 p1770 => ?_))
        obtain ⟨e1771, e1773, z1774, e1772, b1775, p1776⟩ := p1770
        subst e1771
        subst e1772
        subst e1773
        rcases p1776 with ⟨a1777, a1778⟩ | ⟨a1779, a1780⟩
        · show wp _ _ 239 23 [(4, vI v1752), (3, vI v1753), (0, .ref r0), (1, .ref r1), (2, vI a2)] [vI z1774] _ H _
          have _h := hb_and (b := a2) (h := (v1752).toNat) (by omega) (by omega)
          rw [Int.toNat_of_nonneg (by omega : 0 ≤ v1752)] at _h
          have _hb := @hb_b a2 (v1752).toNat
          have _e3 := (by assumption : ∀ h : Nat, h < 24 → 0 ≤ e 13 h ∧ e 13 h ≤ 100) (v1752).toNat (by omega)
          refine wp_of e239 c239_23 (rw_if_eq (p1 := 73) (p2 := 26) (by decide) rfl ⟨Int.le_trans (by decide) b1775.1, Int.le_trans b1775.2 (by decide)⟩ (fun c1781 => ?_) (fun c1781 => ?_))
          · exfalso
            omega
          · refine wp_of e239 c239_26 (rw_aload_n (pc' := 27) (v := .ref r0) rfl rfl rfl ?_)
            refine wp_of e239 c239_27 (xg_R (pc' := 30) lf_9_17 hW g0 sh_42 (by decide) (by decide) ty_42_20 rfl rfl (fun r1782 q1783 g1784 => ?_))
            refine wp_of e239 c239_30 (rw_iload (pc' := 32) (z := v1752) rfl rfl ?_)
            refine wp_of e239 c239_32 (xa_I (so := 0) (pc' := 33) hW g1784 sh_44 (by decide) (ty_44 _) (b1756.1) (by omega) rfl (fun b1785 b1786 => ?_))
            have := DA_at h1396 q1783 (k := (v1752.toNat)) (by omega)
            refine wp_of e239 c239_33 (rw_if_ne (p1 := 39) (p2 := 36) (by decide) rfl ⟨b1785, b1786⟩ (fun c1787 => ?_) (fun c1787 => ?_))
            · refine wp_of e239 c239_39 (rw_aload_n (pc' := 40) (v := .ref r0) rfl rfl rfl ?_)
              refine wp_of e239 c239_40 (rw_aload_n (pc' := 41) (v := .ref r1) rfl rfl rfl ?_)
              refine wp_of e239 c239_41 (rw_iload (pc' := 43) (z := v1752) rfl rfl ?_)
              refine wp_of e239 c239_43 (xc_V (pc' := 46) (r := r0) (as := [.ref r1, vI v1752]) (st := []) (lm_9_390) rfl rfl (Nat.le_of_ble_eq_true rfl) hW g0 sh_42 (by decide) rfl (by decide) (u_234_l (e := e) (d := d) (g := g) hW g0 g1 ⟨b1756.1, by omega⟩ qpp gpp (by assumption) (by assumption) (by assumption) hRB_r0 hRR_r1) (fun R1788 T1789 H1790 p1791 => ?_))
              obtain ⟨e1792, e1794, z1795, e1793, b1796, p1797⟩ := p1791
              subst e1792
              subst e1793
              subst e1794
              show wp _ _ 239 46 [(4, vI v1752), (3, vI v1753), (0, .ref r0), (1, .ref r1), (2, vI a2)] [vI z1795] _ H _
              have _vb : z1795 = xvy e d g (v1752).toNat := by
                unfold xvy xvc
                rw [if_neg (by omega)]
                assumption
              refine wp_of e239 c239_46 (rw_istore (pc' := 48) (z := z1795) (L' := [(5, vI z1795), (4, vI v1752), (3, vI v1753), (0, .ref r0), (1, .ref r1), (2, vI a2)]) rfl rfl rfl ?_)
              refine wp_of e239 c239_48 (rw_iload_n (pc' := 49) (z := v1753) rfl rfl ?_)
              refine wp_of e239 c239_49 (rw_iload (pc' := 51) (z := z1795) rfl rfl ?_)
              refine wp_of e239 c239_51 (rw_iadd (pc' := 52) rfl ?_)
              refine wp_of e239 c239_52 (rw_istore_n (pc' := 53) (z := v1753 + z1795) (L' := [(3, vI (v1753 + z1795)), (5, vI z1795), (4, vI v1752), (0, .ref r0), (1, .ref r1), (2, vI a2)]) rfl rfl rfl ?_)
              refine wp_of e239 c239_53 (rw_iload (pc' := 55) (z := z1795) rfl rfl ?_)
              refine wp_of e239 c239_55 (rw_iconst (pc' := 56) rfl ?_)
              refine wp_of e239 c239_56 (rw_icmp_eq (p1 := 70) (p2 := 59) (by decide) rfl ⟨Int.le_trans (by decide) b1796.1, Int.le_trans b1796.2 (by decide)⟩ ⟨by decide, by decide⟩ (fun c1799 => ?_) (fun c1799 => ?_))
              · refine wp_of e239 c239_70 (rw_iload (pc' := 72) (z := v1752) rfl rfl ?_)
                have _z : XFB (xbh a2 (xvy e d g)) (d 0 2) 24 v1752 := XFB_y (k := (v1752).toNat) (by omega) (by omega) (xbad_t (by
                  have _xs : xco (xbh a2 (xvy e d g)) ((v1752).toNat + 1) = xco (xbh a2 (xvy e d g)) (v1752).toNat + xbh a2 (xvy e d g) (v1752).toNat := rfl
                  have _xh : xbh a2 (xvy e d g) (v1752).toNat = xvy e d g (v1752).toNat := if_neg (by omega)
                  omega)) (fun h hh => ‹∀ h : Nat, (h : Int) < v1752 → xbad (xbh a2 (xvy e d g)) (d 0 2) h = false› h (by omega))
                exact wp_ireturn e239 c239_72 rfl ⟨rfl, rfl, v1752, rfl, ⟨b1756.1, b1756.2⟩, (_z)⟩
              · refine wp_of e239 c239_59 (rw_iload_n (pc' := 60) (z := v1753 + z1795) rfl rfl ?_)
                refine wp_of e239 c239_60 (rw_aload_n (pc' := 61) (v := .ref r0) rfl rfl rfl ?_)
                refine wp_of e239 c239_61 (xg_K (pc' := 64) lf_9_337 hW g0 sh_42 (by decide) (by decide) rfl qpp rfl ?_)
                refine wp_of e239 c239_64 (xg_I (pc' := 67) lf_9_226 hW gpp sh_54 (by decide) (by decide) ty_54_2 rfl rfl (fun b1800 b1801 => ?_))
                refine wp_of e239 c239_67 (rw_icmp_le (p1 := 73) (p2 := 70) (by decide) rfl ⟨by omega, by omega⟩ ⟨b1800, b1801⟩ (fun c1802 => ?_) (fun c1802 => ?_))
                · have _xs : xco (xbh a2 (xvy e d g)) ((v1752).toNat + 1) = xco (xbh a2 (xvy e d g)) (v1752).toNat + xbh a2 (xvy e d g) (v1752).toNat := rfl
                  have _xh : (v1753 + z1795) = xco (xbh a2 (xvy e d g)) (v1752).toNat + xbh a2 (xvy e d g) (v1752).toNat ∧ xbh a2 (xvy e d g) (v1752).toNat ≠ 2 := by
                    by_cases c0 : hb a2 (v1752).toNat = 0
                    · have e0 : xbh a2 (xvy e d g) (v1752).toNat = 0 := if_pos c0
                      omega
                    · have e0 : xbh a2 (xvy e d g) (v1752).toNat = xvy e d g (v1752).toNat := if_neg c0
                      first | (have e1 := xvy_0 (e := e) (d := d) (g := g) (h := (v1752).toNat) (by omega); omega) | omega
                  have _q : (v1753 + z1795) = xco (xbh a2 (xvy e d g)) (v1752 + 1).toNat := by
                    rw [show (v1752 + 1).toNat = (v1752).toNat + 1 by omega]
                    omega
                  have _b2 : ∀ h : Nat, (h : Int) < v1752 + 1 → xbad (xbh a2 (xvy e d g)) (d 0 2) h = false := fun h hh => by
                    by_cases c0 : h = (v1752).toNat
                    · subst c0
                      exact xbad_f (by omega) (by omega)
                    · exact ‹∀ h : Nat, (h : Int) < v1752 → xbad (xbh a2 (xvy e d g)) (d 0 2) h = false› h (by omega)
                  refine wp_of e239 c239_73 (rw_iinc (pc' := 76) (z := v1752) (L' := [(4, vI (v1752 + 1)), (3, vI (v1753 + z1795)), (5, vI z1795), (0, .ref r0), (1, .ref r1), (2, vI a2)]) rfl rfl rfl rfl ?_)
                  refine wp_of e239 c239_76 (rw_goto (p1 := 5) (by decide) ?_)
                  exact wp_lc (ks := [4, 3, 5, 0, 1, 2]) (wl_c rfl (wl_c rfl (wl_c rfl (wl_c rfl (wl_c rfl wl_n))))) rfl (by decide) (ih1751 _ (by omega) (v1752 + 1) (v1753 + z1795) ⟨by omega, by omega⟩ ⟨by omega, by omega⟩ (by omega) (by omega) (by omega) (_q) (_b2) rfl)
                · refine wp_of e239 c239_70 (rw_iload (pc' := 72) (z := v1752) rfl rfl ?_)
                  have _z : XFB (xbh a2 (xvy e d g)) (d 0 2) 24 v1752 := XFB_y (k := (v1752).toNat) (by omega) (by omega) (xbad_t (by
                    have _xs : xco (xbh a2 (xvy e d g)) ((v1752).toNat + 1) = xco (xbh a2 (xvy e d g)) (v1752).toNat + xbh a2 (xvy e d g) (v1752).toNat := rfl
                    have _xh : xbh a2 (xvy e d g) (v1752).toNat = xvy e d g (v1752).toNat := if_neg (by omega)
                    omega)) (fun h hh => ‹∀ h : Nat, (h : Int) < v1752 → xbad (xbh a2 (xvy e d g)) (d 0 2) h = false› h (by omega))
                  exact wp_ireturn e239 c239_72 rfl ⟨rfl, rfl, v1752, rfl, ⟨b1756.1, b1756.2⟩, (_z)⟩
            · refine wp_of e239 c239_36 (rw_goto (p1 := 73) (by decide) ?_)
              have _xs : xco (xbh a2 (xvy e d g)) ((v1752).toNat + 1) = xco (xbh a2 (xvy e d g)) (v1752).toNat + xbh a2 (xvy e d g) (v1752).toNat := rfl
              have _xh : v1753 = xco (xbh a2 (xvy e d g)) (v1752).toNat + xbh a2 (xvy e d g) (v1752).toNat ∧ xbh a2 (xvy e d g) (v1752).toNat ≠ 2 := by
                by_cases c0 : hb a2 (v1752).toNat = 0
                · have e0 : xbh a2 (xvy e d g) (v1752).toNat = 0 := if_pos c0
                  omega
                · have e0 : xbh a2 (xvy e d g) (v1752).toNat = xvy e d g (v1752).toNat := if_neg c0
                  first | (have e1 := xvy_0 (e := e) (d := d) (g := g) (h := (v1752).toNat) (by omega); omega) | omega
              have _q : v1753 = xco (xbh a2 (xvy e d g)) (v1752 + 1).toNat := by
                rw [show (v1752 + 1).toNat = (v1752).toNat + 1 by omega]
                omega
              have _b2 : ∀ h : Nat, (h : Int) < v1752 + 1 → xbad (xbh a2 (xvy e d g)) (d 0 2) h = false := fun h hh => by
                by_cases c0 : h = (v1752).toNat
                · subst c0
                  exact xbad_f (by omega) (by omega)
                · exact ‹∀ h : Nat, (h : Int) < v1752 → xbad (xbh a2 (xvy e d g)) (d 0 2) h = false› h (by omega)
              refine wp_of e239 c239_73 (rw_iinc (pc' := 76) (z := v1752) (L' := [(4, vI (v1752 + 1)), (3, vI v1753), (0, .ref r0), (1, .ref r1), (2, vI a2)]) rfl rfl rfl rfl ?_)
              refine wp_of e239 c239_76 (rw_goto (p1 := 5) (by decide) ?_)
              exact wp_lc (ks := [4, 3, 0, 1, 2]) (wl_c rfl (wl_c rfl (wl_c rfl (wl_c rfl (wl_c rfl wl_n))))) rfl (by decide) (ih1751 _ (by omega) (v1752 + 1) v1753 ⟨by omega, by omega⟩ ⟨b1757.1, b1757.2⟩ (by omega) (by omega) (by omega) (_q) (_b2) rfl)
        · show wp _ _ 239 23 [(4, vI v1752), (3, vI v1753), (0, .ref r0), (1, .ref r1), (2, vI a2)] [vI z1774] _ H _
          have _h := hb_and (b := a2) (h := (v1752).toNat) (by omega) (by omega)
          rw [Int.toNat_of_nonneg (by omega : 0 ≤ v1752)] at _h
          have _hb := @hb_b a2 (v1752).toNat
          have _e3 := (by assumption : ∀ h : Nat, h < 24 → 0 ≤ e 13 h ∧ e 13 h ≤ 100) (v1752).toNat (by omega)
          refine wp_of e239 c239_23 (rw_if_eq (p1 := 73) (p2 := 26) (by decide) rfl ⟨Int.le_trans (by decide) b1775.1, Int.le_trans b1775.2 (by decide)⟩ (fun c1803 => ?_) (fun c1803 => ?_))
          · have _xs : xco (xbh a2 (xvy e d g)) ((v1752).toNat + 1) = xco (xbh a2 (xvy e d g)) (v1752).toNat + xbh a2 (xvy e d g) (v1752).toNat := rfl
            have _xh : v1753 = xco (xbh a2 (xvy e d g)) (v1752).toNat + xbh a2 (xvy e d g) (v1752).toNat ∧ xbh a2 (xvy e d g) (v1752).toNat ≠ 2 := by
              by_cases c0 : hb a2 (v1752).toNat = 0
              · have e0 : xbh a2 (xvy e d g) (v1752).toNat = 0 := if_pos c0
                omega
              · have e0 : xbh a2 (xvy e d g) (v1752).toNat = xvy e d g (v1752).toNat := if_neg c0
                first | (have e1 := xvy_0 (e := e) (d := d) (g := g) (h := (v1752).toNat) (by omega); omega) | omega
            have _q : v1753 = xco (xbh a2 (xvy e d g)) (v1752 + 1).toNat := by
              rw [show (v1752 + 1).toNat = (v1752).toNat + 1 by omega]
              omega
            have _b2 : ∀ h : Nat, (h : Int) < v1752 + 1 → xbad (xbh a2 (xvy e d g)) (d 0 2) h = false := fun h hh => by
              by_cases c0 : h = (v1752).toNat
              · subst c0
                exact xbad_f (by omega) (by omega)
              · exact ‹∀ h : Nat, (h : Int) < v1752 → xbad (xbh a2 (xvy e d g)) (d 0 2) h = false› h (by omega)
            refine wp_of e239 c239_73 (rw_iinc (pc' := 76) (z := v1752) (L' := [(4, vI (v1752 + 1)), (3, vI v1753), (0, .ref r0), (1, .ref r1), (2, vI a2)]) rfl rfl rfl rfl ?_)
            refine wp_of e239 c239_76 (rw_goto (p1 := 5) (by decide) ?_)
            exact wp_lc (ks := [4, 3, 0, 1, 2]) (wl_c rfl (wl_c rfl (wl_c rfl (wl_c rfl (wl_c rfl wl_n))))) rfl (by decide) (ih1751 _ (by omega) (v1752 + 1) v1753 ⟨by omega, by omega⟩ ⟨b1757.1, b1757.2⟩ (by omega) (by omega) (by omega) (_q) (_b2) rfl)
          · exfalso
            omega
  exact wp_lc (ks := [4, 3, 0, 1, 2]) (wl_c rfl (wl_c rfl (wl_c rfl (wl_c rfl (wl_c rfl wl_n))))) rfl (by decide) (lp1749 _ 0 0 ⟨by decide, by decide⟩ ⟨by decide, by decide⟩ (by omega) (by omega) (by omega) (rfl) (fun h hh => by omega) rfl)
/-! StrikeAwakeModel.isWorld([I)Z l -/
abbrev uq_238_l (r0 : Nat) (r1 : Nat) (pp : Nat) (e : xD) (d : xD) (g : Nat → Int) (T : wq_T) (H : wq_H) : Option Value → wq_T → wq_H → Prop := fun r T' H' => T = T' ∧ H = H' ∧ ∃ z : Int, some (vI z) = r ∧ (0 ≤ z ∧ z ≤ 1) ∧ (((z = xwo e d g)))
set_option maxHeartbeats 4000000 in
theorem u_238_l {kt : Nat → Option mc_E} {T : wq_T} {H : wq_H} {r0 : Nat} {r1 : Nat} {pp : Nat} {e : xD} {d : xD} {g : Nat → Int} (hW : WT T H) (g0 : T.2.2.2 r0 = some 42) (g1 : T.2.2.2 r1 = some 51) (qpp : H r0 3 = (pp : Int)) (gpp : T.2.2.2 pp = some 54) (p0 : XW d) (p1 : SL d g) (p2 : ∀ h : Nat, d 0 0 ≤ (h : Int) → h < 24 → e 13 h = 0) (p3 : XN d) (p4 : ∀ h : Nat, h < 24 → 0 ≤ e 13 h ∧ e 13 h ≤ 100) (hRB_r0 : RB T H r0 e d) (hRR_r1 : RR T H r1 (d 0 3) g) : wpc kt 5 238 [.ref r0, .ref r1] T H (uq_238_l r0 r1 pp e d g T H) := by
  refine wp_enter e238 (Nat.le_of_ble_eq_true rfl) rfl ?_
  show wp _ _ 238 0 [(0, .ref r0), (1, .ref r1)] [] _ H _
  have b1027 : (-2147483648) ≤ H r0 19 ∧ H r0 19 ≤ 2147483647 := hW.box g0 (n := 33) rfl (by decide) rfl
  have _xc := p0.2.1
  unfold XC at _xc
  have _n3 : H r0 3 ≠ -1 := by omega
  have _k := RP_k (RB_at hRB_r0 qpp)
  have _alb := @xal_b d
  refine wp_of e238 c238_0 (rw_aload_n (pc' := 1) (v := .ref r0) rfl rfl rfl ?_)
  refine wp_of e238 c238_1 (rw_aload_n (pc' := 2) (v := .ref r1) rfl rfl rfl ?_)
  refine wp_of e238 c238_2 (xc_V (pc' := 5) (r := r0) (as := [.ref r1]) (st := []) (lm_9_393) rfl rfl (Nat.le_of_ble_eq_true rfl) hW g0 sh_42 (by decide) rfl (by decide) (u_235_l (e := e) (d := d) (g := g) hW g0 g1 qpp gpp (by assumption) (by assumption) (by assumption) hRB_r0 hRR_r1) (fun R1028 T1029 H1030 p1031 => ?_))
  obtain ⟨e1032, e1034, z1035, e1033, b1036, p1037⟩ := p1031
  subst e1032
  subst e1033
  subst e1034
  show wp _ _ 238 5 [(0, .ref r0), (1, .ref r1)] [vI z1035] _ H _
  refine wp_of e238 c238_5 (rw_if_ne (p1 := 26) (p2 := 8) (by decide) rfl ⟨Int.le_trans (by decide) b1036.1, Int.le_trans b1036.2 (by decide)⟩ (fun c1039 => ?_) (fun c1039 => ?_))
  · refine wp_of e238 c238_26 (rw_iconst (pc' := 27) rfl ?_)
    have _z : (0 : Int) = xwo e d g := by first | omega | exact (xwo_q (by omega)).symm
    exact wp_zreturn e238 c238_27 rfl (by omega) ⟨rfl, rfl, 0, rfl, ⟨by decide, by decide⟩, (_z)⟩
  · refine wp_of e238 c238_8 (rw_aload_n (pc' := 9) (v := .ref r0) rfl rfl rfl ?_)
    refine wp_of e238 c238_9 (rw_aload_n (pc' := 10) (v := .ref r1) rfl rfl rfl ?_)
    refine wp_of e238 c238_10 (rw_aload_n (pc' := 11) (v := .ref r0) rfl rfl rfl ?_)
    refine wp_of e238 c238_11 (xg_I (pc' := 14) lf_9_343 hW g0 sh_42 (by decide) (by decide) ty_42_19 rfl rfl (fun b1040 b1041 => ?_))
    refine wp_of e238 c238_14 (xc_V (pc' := 17) (r := r0) (as := [.ref r1, vI (H r0 19)]) (st := []) (lm_9_397) rfl rfl (Nat.le_of_ble_eq_true rfl) hW g0 sh_42 (by decide) rfl (by decide) (u_239_l (e := e) (d := d) (g := g) hW g0 g1 ⟨by omega, by omega⟩ qpp gpp (by assumption) (by assumption) (by assumption) (by assumption) hRB_r0 hRR_r1) (fun R1042 T1043 H1044 p1045 => ?_))
    obtain ⟨e1046, e1048, z1049, e1047, b1050, p1051⟩ := p1045
    subst e1046
    subst e1047
    subst e1048
    show wp _ _ 238 17 [(0, .ref r0), (1, .ref r1)] [vI z1049] _ H _
    have _fb : XFB (xvy e d g) (d 0 2) 24 z1049 := XFB_cg (xbh_al ⟨by omega, by omega⟩ p2) (by rw [← show H r0 19 = xal d by omega]; assumption)
    have _w := xwo_f (e := e) (d := d) (g := g) (by omega) _fb
    refine wp_of e238 c238_17 (rw_bipush (pc' := 19) (z := 24) rfl (by decide) ?_)
    refine wp_of e238 c238_19 (rw_icmp_ne (p1 := 26) (p2 := 22) (by decide) rfl ⟨Int.le_trans (by decide) b1050.1, Int.le_trans b1050.2 (by decide)⟩ ⟨by decide, by decide⟩ (fun c1053 => ?_) (fun c1053 => ?_))
    · refine wp_of e238 c238_26 (rw_iconst (pc' := 27) rfl ?_)
      have _z : (0 : Int) = xwo e d g := by first | omega | exact (xwo_q (by omega)).symm
      exact wp_zreturn e238 c238_27 rfl (by omega) ⟨rfl, rfl, 0, rfl, ⟨by decide, by decide⟩, (_z)⟩
    · refine wp_of e238 c238_22 (rw_iconst (pc' := 23) rfl ?_)
      refine wp_of e238 c238_23 (rw_goto (p1 := 27) (by decide) ?_)
      have _z : (1 : Int) = xwo e d g := by first | omega | exact (xwo_q (by omega)).symm
      exact wp_zreturn e238 c238_27 rfl (by omega) ⟨rfl, rfl, 1, rfl, ⟨by decide, by decide⟩, (_z)⟩
/-! StrikeAwakeModel.knows()V  -/
abbrev uq_242 (r0 : Nat) (pp : Nat) (e : xD) (d : xD) (T : wq_T) (H : wq_H) : Option Value → wq_T → wq_H → Prop := fun r T' H' => T = T' ∧ WT T H' ∧ wfr [(42, 28), (42, 29), (51, 999), (52, 999)] T H H' ∧ none = r ∧ (((wKI H' r0 = 1) ∧ (H' r0 29 = 0 ∨ 0 < wLM H' r0) ∧ (wLM H' r0 = wLM H r0) ∧ (H' r0 28 ≠ 0) ∧ KNB T H' r0 e d (xlots d).toNat))
set_option maxHeartbeats 4000000 in
theorem u_242 {kt : Nat → Option mc_E} {T : wq_T} {H : wq_H} {r0 : Nat} {pp : Nat} {e : xD} {d : xD} (hW : WT T H) (g0 : T.2.2.2 r0 = some 42) (qpp : H r0 3 = (pp : Int)) (gpp : T.2.2.2 pp = some 54) (p0 : wKI H r0 = 1) (p1 : wLM H r0 ≤ 20000) (p2 : XW d) (p3 : ∀ h : Nat, d 0 0 ≤ (h : Int) → h < 24 → e 13 h = 0) (p4 : XN d) (p5 : ∀ h : Nat, h < 24 → 0 ≤ e 13 h ∧ e 13 h ≤ 100) (hRB_r0 : RB T H r0 e d) (hKNN_r0 : KNN T H r0 e d) : wpc kt 6 242 [.ref r0] T H (uq_242 r0 pp e d T H) := by
  refine wp_enter e242 (Nat.le_of_ble_eq_true rfl) rfl ?_
  have f0 : wfr [(42, 28), (42, 29), (51, 999), (52, 999)] T H H := wfr.rf
  show wp _ _ 242 0 [(0, .ref r0)] [] _ H _
  have b1556 : 0 ≤ H r0 29 ∧ H r0 29 ≤ 20000 := hW.box g0 (n := 33) rfl (by decide) rfl
  have hk := wKI_1.mp p0
  have _lm := RB_lm hRB_r0
  have _xw := (by assumption : XW d)
  have _x0 : 0 ≤ xlots d := (xpr_b _xw.1 _ _).1
  have _n3 : H r0 3 ≠ -1 := by omega
  refine wp_of e242 c242_0 (rw_aload_n (pc' := 1) (v := .ref r0) rfl rfl rfl ?_)
  refine wp_of e242 c242_1 (xg_I (pc' := 4) lf_9_353 hW g0 sh_42 (by decide) (by decide) ty_42_28 rfl rfl (fun b1557 b1558 => ?_))
  refine wp_of e242 c242_4 (rw_if_eq (p1 := 8) (p2 := 7) (by decide) rfl ⟨Int.le_trans (by decide) b1557, Int.le_trans b1558 (by decide)⟩ (fun c1559 => ?_) (fun c1559 => ?_))
  · refine wp_of e242 c242_8 (rw_aload_n (pc' := 9) (v := .ref r0) rfl rfl rfl ?_)
    refine wp_of e242 c242_9 (rw_iconst (pc' := 10) rfl ?_)
    refine wp_of e242 c242_10 (xp_I (pc' := 13) lf_9_422 hW g0 sh_42 (by decide) (by decide) ty_42_29 rfl rfl (by decide) (by decide) ⟨by decide, by decide⟩ rfl (fun H1560 e1561 w1562 => ?_))
    have f1563 := f0.put' e1561 g0 rfl
    have k1564 : H1560 r0 29 = 0 := wq_u_s e1561
    have h1565 : KL T H1560 r0 (xwf e d) ((0 : Int)).toNat := KL_0 w1562 g0
    refine wp_of e242 c242_13 (rw_iconst (pc' := 14) rfl ?_)
    refine wp_of e242 c242_14 (rw_istore_n (pc' := 15) (z := 0) (L' := [(1, vI 0), (0, .ref r0)]) rfl rfl rfl ?_)
    have k2052 : wLM H1560 r0 = wLM H r0 := (wLM_fr hW g0 ((wfr.rf (l := [(42, 29)])).put' e1561 g0 rfl) rfl)
    have lp2047 : ∀ (n2048 : Nat) (v2050 : Int) (H2051 : wq_H), WT T H2051 → wfr [(42, 29), (51, 999), (52, 999)] T H1560 H2051 → (0 ≤ v2050 ∧ v2050 ≤ 20000) → (H2051 r0 29 ≤ v2050) → (H2051 r0 29 = 0 ∨ 0 < wLM H2051 r0) → KL T H2051 r0 (xwf e d) (v2050).toNat → (v2050 ≤ xlots d) → (H2051 r0 29 = xcn (xwf e d) (v2050).toNat) → (20000 - v2050).toNat = n2048 → wp kt 5 242 15 [(1, vI v2050), (0, .ref r0)] [] T H2051 (uq_242 r0 pp e d T H) := by
      intro n2048
      induction n2048 using Nat.strongRecOn with
      | _ n2048 ih2049 =>
        intro v2050 H2051 w2053 f2054 b2055 x2056 x2057 h2059 x2060 x2061 m2058
        have f2062 := f1563.tr f2054 rfl
        have k2063 : wLM H2051 r0 = wLM H1560 r0 := (wLM_fr w1562 g0 f2054 rfl)
        refine wp_of e242 c242_15 (rw_iload_n (pc' := 16) (z := v2050) rfl rfl ?_)
        refine wp_of e242 c242_16 (rw_i2l (pc' := 17) rfl ⟨Int.le_trans (by decide) b2055.1, Int.le_trans b2055.2 (by decide)⟩ ?_)
        refine wp_of e242 c242_17 (rw_aload_n (pc' := 18) (v := .ref r0) rfl rfl rfl ?_)
        have k2064 : H2051 r0 3 = H r0 3 := ((f2054 r0 3 _ g0 rfl).trans (wq_u_j e1561 rfl))
        have q2065 : H2051 r0 3 = (pp : Int) := k2064.trans qpp
        refine wp_of e242 c242_18 (xc_V (pc' := 21) (r := r0) (as := []) (st := [vL v2050]) (lm_9_376) rfl rfl (Nat.le_of_ble_eq_true rfl) w2053 g0 sh_42 (by decide) rfl (by decide) (s_220 w2053 g0 q2065 gpp) (fun R2066 T2067 H2068 p2069 => ?_))
        obtain ⟨e2070, e2072, z2074, e2071, b2075, p2073⟩ := p2069
        subst e2070
        subst e2071
        subst e2072
        show wp _ _ 242 21 [(1, vI v2050), (0, .ref r0)] [vL z2074, vL v2050] _ H2051 _
        refine wp_of e242 c242_21 (rw_lcmp (pc' := 22) rfl ⟨Int.le_trans (by decide) b2055.1, Int.le_trans b2055.2 (by decide)⟩ ⟨Int.le_trans (by decide) b2075.1, Int.le_trans b2075.2 (by decide)⟩ ?_)
        have b2076 := wq_cmp_b v2050 z2074
        refine wp_of e242 c242_22 (rw_if_ge (p1 := 70) (p2 := 25) (by decide) rfl ⟨by omega, by omega⟩ (fun c2077 => ?_) (fun c2077 => ?_))
        · have h2078 : KNB T H2051 r0 e d (xlots d).toNat := by rw [show (xlots d).toNat = (v2050).toNat by omega]; exact ⟨by omega, h2059⟩
          refine wp_of e242 c242_70 (rw_aload_n (pc' := 71) (v := .ref r0) rfl rfl rfl ?_)
          refine wp_of e242 c242_71 (rw_iconst (pc' := 72) rfl ?_)
          refine wp_of e242 c242_72 (xp_Z (pc' := 75) lf_9_353 w2053 g0 sh_42 (by decide) (by decide) ty_42_28 rfl rfl (by decide) (by decide) rfl (fun H2079 e2080 w2081 => ?_))
          have f2082 := f2062.put' e2080 g0 rfl
          have k2083 : H2079 r0 28 = 1 := wq_u_s e2080
          have k2084 : H2079 r0 29 = H2051 r0 29 := (wq_u_j e2080 rfl)
          have k2085 : wLM H2079 r0 = wLM H2051 r0 := (wLM_fr w2053 g0 ((wfr.rf (l := [(42, 28)])).put' e2080 g0 rfl) rfl)
          have k2086 : wKI H2079 r0 = 1 := wKI_1.mpr (by omega)
          have h2087 : KNB T H2079 r0 e d (xlots d).toNat := (KNB_fr w2053 g0 ((wfr.rf (l := [(42, 28)])).put' e2080 g0 rfl) rfl h2078)
          exact wp_return e242 c242_75 rfl ⟨rfl, w2081, f2082, rfl, ⟨by omega, by omega, by omega, by omega, h2087⟩⟩
        · refine wp_of e242 c242_25 (rw_aload_n (pc' := 26) (v := .ref r0) rfl rfl rfl ?_)
          refine wp_of e242 c242_26 (rw_iload_n (pc' := 27) (z := v2050) rfl rfl ?_)
          have h2088 : RB T H2051 r0 e d := (RB_fr w1562 g0 f2054 rfl (RB_fr hW g0 ((wfr.rf (l := [(42, 29)])).put' e1561 g0 rfl) rfl hRB_r0))
          refine wp_of e242 c242_27 (xc_V (pc' := 30) (r := r0) (as := [vI v2050]) (st := []) (lm_9_425) rfl rfl (Nat.le_of_ble_eq_true rfl) w2053 g0 sh_42 (by decide) rfl (by decide) (u_243 (e := e) (d := d) w2053 g0 ⟨b2055.1, Int.le_trans b2055.2 (by decide)⟩ q2065 gpp (by omega) h2088) (fun R2089 T2090 H2091 p2092 => ?_))
          obtain ⟨e2093, w2095, f2096, e2094, p2097⟩ := p2092
          subst e2093
          subst e2094
          have f2099 := f2062.tr f2096 rfl
          have f2100 := f2054.tr f2096 rfl
          show wp _ _ 242 30 [(1, vI v2050), (0, .ref r0)] [] _ H2091 _
          have _sl : SL d (xlot d v2050) := SL_lot _xw.1 (by omega) (by omega)
          refine wp_of e242 c242_30 (rw_aload_n (pc' := 31) (v := .ref r0) rfl rfl rfl ?_)
          refine wp_of e242 c242_31 (rw_aload_n (pc' := 32) (v := .ref r0) rfl rfl rfl ?_)
          refine wp_of e242 c242_32 (xg_R (pc' := 35) lf_9_39 w2095 g0 sh_42 (by decide) (by decide) ty_42_27 rfl rfl (fun r2101 q2102 g2103 => ?_))
          have h2104 : RR T H2091 r2101 (d 0 3) (xlot d v2050) := RR_27 p2097 q2102 g2103 (by omega)
          have k2105 : H2091 r0 3 = H2051 r0 3 := (f2096 r0 3 _ g0 rfl)
          have q2106 : H2091 r0 3 = (pp : Int) := k2105.trans q2065
          have h2107 : RB T H2091 r0 e d := (RB_fr w2053 g0 f2096 rfl h2088)
          refine wp_of e242 c242_35 (xc_V (pc' := 38) (r := r0) (as := [.ref r2101]) (st := []) (lm_9_418) rfl rfl (Nat.le_of_ble_eq_true rfl) w2095 g0 sh_42 (by decide) rfl (by decide) (u_238_l (e := e) (d := d) (g := ((xlot d v2050))) w2095 g0 g2103 q2106 gpp (by assumption) (by assumption) (by assumption) (by assumption) (by assumption) h2107 h2104) (fun R2108 T2109 H2110 p2111 => ?_))
          obtain ⟨e2112, e2114, z2115, e2113, b2116, p2117⟩ := p2111
          subst e2112
          subst e2113
          subst e2114
          show wp _ _ 242 38 [(1, vI v2050), (0, .ref r0)] [vI z2115] _ H2091 _
          refine wp_of e242 c242_38 (rw_if_ne (p1 := 44) (p2 := 41) (by decide) rfl ⟨Int.le_trans (by decide) b2116.1, Int.le_trans b2116.2 (by decide)⟩ (fun c2119 => ?_) (fun c2119 => ?_))
          · have _fp : xwf e d (v2050).toNat > 0 := by
              rw [xwf_v (by omega)]
              omega
            have _xs := xcw_s (e := e) (d := d) (v := v2050) (by omega)
            refine wp_of e242 c242_44 (rw_aload_n (pc' := 45) (v := .ref r0) rfl rfl rfl ?_)
            refine wp_of e242 c242_45 (xg_R (pc' := 48) lf_9_42 w2095 g0 sh_42 (by decide) (by decide) ty_42_30 rfl rfl (fun r2120 q2121 g2122 => ?_))
            refine wp_of e242 c242_48 (rw_aload_n (pc' := 49) (v := .ref r0) rfl rfl rfl ?_)
            have k2123 : H2091 r0 29 = H2051 r0 29 := (f2096 r0 29 _ g0 rfl)
            refine wp_of e242 c242_49 (xg_I (pc' := 52) lf_9_422 w2095 g0 sh_42 (by decide) (by decide) ty_42_29 rfl rfl (fun b2124 b2125 => ?_))
            refine wp_of e242 c242_52 (rw_iload_n (pc' := 53) (z := v2050) rfl rfl ?_)
            have h2126 : KL T H2091 r0 (xwf e d) (v2050).toNat := (KL_fr w2053 g0 f2096 rfl h2059)
            refine wp_of e242 c242_53 (xs_I (pc' := 54) w2095 g2122 (by decide) sh_52 (by decide) (ty_52 _) (b2055.1) (by omega) ⟨Int.le_trans (by decide) b2055.1, Int.le_trans b2055.2 (by decide)⟩ (b2124) (by omega) rfl (fun H2127 e2128 w2129 => ?_))
            have f2130 := f2099.put' e2128 g2122 rfl
            have f2131 := f2100.put' e2128 g2122 rfl
            have h2132 : KL T H2127 r0 (xwf e d) (v2050 + 1).toNat := by
              rw [show (v2050 + 1).toNat = (v2050).toNat + 1 by omega]
              exact KL_put h2126 q2121 g0 g2122 e2128 (by omega) (by omega) _fp
            refine wp_of e242 c242_54 (rw_aload_n (pc' := 55) (v := .ref r0) rfl rfl rfl ?_)
            refine wp_of e242 c242_55 (rw_dup (pc' := 56) rfl rfl ?_)
            have k2133 : H2127 r0 29 = H2091 r0 29 := (wq_u_t e2128 g2122 g0 rfl 29)
            refine wp_of e242 c242_56 (xg_I (pc' := 59) lf_9_422 w2129 g0 sh_42 (by decide) (by decide) ty_42_29 rfl rfl (fun b2134 b2135 => ?_))
            refine wp_of e242 c242_59 (rw_iconst (pc' := 60) rfl ?_)
            refine wp_of e242 c242_60 (rw_iadd (pc' := 61) rfl ?_)
            refine wp_of e242 c242_61 (xp_I (pc' := 64) lf_9_422 w2129 g0 sh_42 (by decide) (by decide) ty_42_29 rfl rfl (by omega) (by omega) ⟨by omega, by omega⟩ rfl (fun H2136 e2137 w2138 => ?_))
            have f2139 := f2130.put' e2137 g0 rfl
            have f2140 := f2131.put' e2137 g0 rfl
            have k2141 : H2136 r0 29 = (H2127 r0 29) + 1 := wq_u_s e2137
            have _xs2 := xcw_s (e := e) (d := d) (v := v2050) (by omega)
            refine wp_of e242 c242_64 (rw_iinc (pc' := 67) (z := v2050) (L' := [(1, vI (v2050 + 1)), (0, .ref r0)]) rfl rfl rfl rfl ?_)
            refine wp_of e242 c242_67 (rw_goto (p1 := 15) (by decide) ?_)
            have k2142 : wLM H2136 r0 = wLM H2051 r0 := ((wLM_fr w2129 g0 ((wfr.rf (l := [(42, 29)])).put' e2137 g0 rfl) rfl).trans ((wLM_fr w2095 g0 ((wfr.rf (l := [(52, 999)])).put' e2128 g2122 rfl) rfl).trans (wLM_fr w2053 g0 f2096 rfl)))
            have h2143 : KL T H2136 r0 (xwf e d) (v2050 + 1).toNat := (KL_fr w2129 g0 ((wfr.rf (l := [(42, 29)])).put' e2137 g0 rfl) rfl h2132)
            exact wp_lc (ks := [1, 0]) (wl_c rfl (wl_c rfl wl_n)) rfl (by decide) (ih2049 _ (by omega) (v2050 + 1) H2136 w2138 f2140 ⟨by omega, by omega⟩ (by omega) (by omega) h2143 (by omega) (by omega) rfl)
          · refine wp_of e242 c242_41 (rw_goto (p1 := 64) (by decide) ?_)
            have _xs2 := xcw_s (e := e) (d := d) (v := v2050) (by omega)
            have h2144 : KL T H2091 r0 (xwf e d) (v2050).toNat := (KL_fr w2053 g0 f2096 rfl h2059)
            have h2145 : KL T H2091 r0 (xwf e d) (v2050 + 1).toNat := by
              rw [show (v2050 + 1).toNat = (v2050).toNat + 1 by omega]
              exact KL_n (by rw [xwf_v (by omega)]; omega) h2144
            refine wp_of e242 c242_64 (rw_iinc (pc' := 67) (z := v2050) (L' := [(1, vI (v2050 + 1)), (0, .ref r0)]) rfl rfl rfl rfl ?_)
            refine wp_of e242 c242_67 (rw_goto (p1 := 15) (by decide) ?_)
            have k2146 : H2091 r0 29 = H2051 r0 29 := (f2096 r0 29 _ g0 rfl)
            have k2147 : wLM H2091 r0 = wLM H2051 r0 := (wLM_fr w2053 g0 f2096 rfl)
            exact wp_lc (ks := [1, 0]) (wl_c rfl (wl_c rfl wl_n)) rfl (by decide) (ih2049 _ (by omega) (v2050 + 1) H2091 w2095 f2100 ⟨by omega, by omega⟩ (by omega) (by omega) h2145 (by omega) (by omega) rfl)
    exact wp_lc (ks := [1, 0]) (wl_c rfl (wl_c rfl wl_n)) rfl (by decide) (lp2047 _ 0 H1560 w1562 wfr.rf ⟨by decide, by decide⟩ (by omega) (by omega) h1565 (by omega) (by show H1560 r0 29 = (0 : Int); omega) rfl)
  · have h2148 : KNB T H r0 e d (xlots d).toNat := (KNN_28 hKNN_r0 (by omega)).2
    exact wp_return e242 c242_7 rfl ⟨rfl, hW, f0, rfl, ⟨by omega, by omega, by omega, by omega, h2148⟩⟩
/-! StrikeAwakeModel.refusesWorlds(Z)I  -/
abbrev uq_241 (r0 : Nat) (a1 : Int) (e : xD) (d : xD) (T : wq_T) (H : wq_H) : Option Value → wq_T → wq_H → Prop := fun r T' H' => T = T' ∧ WT T H' ∧ wfr [(42, 28), (42, 29), (51, 999), (52, 999)] T H H' ∧ ∃ z : Int, some (vI z) = r ∧ (0 ≤ z ∧ z ≤ 6) ∧ (((z = 0) ∧ (z ≠ 0 ∨ a1 = 1) ∧ (z ≠ 0 ∨ wLM H' r0 ≤ 20000) ∧ (wKI H' r0 = 1) ∧ (z ≠ 0 ∨ H' r0 29 = 0 ∨ 0 < wLM H' r0) ∧ (a1 = 1) ∧ (xlots d ≤ 20000) ∧ KNN T H' r0 e d ∧ KNB T H' r0 e d (xlots d).toNat) ∨ ((1 ≤ z ∧ z ≤ 6) ∧ (z ≠ 0 ∨ a1 = 1) ∧ (z ≠ 0 ∨ wLM H' r0 ≤ 20000) ∧ (wKI H' r0 = 1) ∧ (z ≠ 0 ∨ H' r0 29 = 0 ∨ 0 < wLM H' r0) ∧ (a1 = 0 ∨ 20000 < xlots d) ∧ KNN T H' r0 e d))
set_option maxHeartbeats 4000000 in
theorem u_241 {kt : Nat → Option mc_E} {T : wq_T} {H : wq_H} {r0 : Nat} {a1 : Int} {e : xD} {d : xD} (hW : WT T H) (g0 : T.2.2.2 r0 = some 42) (i1 : 0 ≤ a1 ∧ a1 ≤ 1) (p0 : a1 = 0 ∨ H r0 3 ≠ -1) (p1 : wKI H r0 = 1) (p2 : XW d) (p3 : ∀ h : Nat, d 0 0 ≤ (h : Int) → h < 24 → e 13 h = 0) (p4 : XN d) (p5 : ∀ h : Nat, h < 24 → 0 ≤ e 13 h ∧ e 13 h ≤ 100) (hRB_r0 : RB T H r0 e d) (hKNN_r0 : KNN T H r0 e d) : wpc kt 7 241 [.ref r0, vI a1] T H (uq_241 r0 a1 e d T H) := by
  refine wp_enter e241 (Nat.le_of_ble_eq_true rfl) rfl ?_
  have f0 : wfr [(42, 28), (42, 29), (51, 999), (52, 999)] T H H := wfr.rf
  show wp _ _ 241 0 [(0, .ref r0), (1, vI a1)] [] _ H _
  have _lm := RB_lm hRB_r0
  refine wp_of e241 c241_0 (rw_iload_n (pc' := 1) (z := a1) rfl rfl ?_)
  refine wp_of e241 c241_1 (rw_if_ne (p1 := 6) (p2 := 4) (by decide) rfl ⟨Int.le_trans (by decide) i1.1, Int.le_trans i1.2 (by decide)⟩ (fun c1032 => ?_) (fun c1032 => ?_))
  · refine wp_of e241 c241_6 (rw_aload_n (pc' := 7) (v := .ref r0) rfl rfl rfl ?_)
    obtain ⟨r1033, q1034, g1035⟩ := (hW.opt g0 (t' := 54) (n := 33) (j := 3) (p := 0) (q := 0) rfl (by decide) rfl).resolve_left (by omega)
    refine wp_of e241 c241_7 (xc_V (pc' := 10) (r := r0) (as := []) (st := []) (lm_9_376) rfl rfl (Nat.le_of_ble_eq_true rfl) hW g0 sh_42 (by decide) rfl (by decide) (s_220 hW g0 q1034 g1035) (fun R1036 T1037 H1038 p1039 => ?_))
    obtain ⟨e1040, e1042, z1044, e1041, b1045, p1043⟩ := p1039
    subst e1040
    subst e1041
    subst e1042
    show wp _ _ 241 10 [(0, .ref r0), (1, vI a1)] [vL z1044] _ H _
    refine wp_of e241 c241_10 (rw_ldc2 (pc' := 13) (z := 20000) rfl rfl rfl ?_)
    refine wp_of e241 c241_13 (rw_lcmp (pc' := 14) rfl ⟨Int.le_trans (by decide) b1045.1, Int.le_trans b1045.2 (by decide)⟩ ⟨by decide, by decide⟩ ?_)
    have b1046 := wq_cmp_b z1044 20000
    refine wp_of e241 c241_14 (rw_if_le (p1 := 19) (p2 := 17) (by decide) rfl ⟨by omega, by omega⟩ (fun c1047 => ?_) (fun c1047 => ?_))
    · refine wp_of e241 c241_19 (rw_aload_n (pc' := 20) (v := .ref r0) rfl rfl rfl ?_)
      refine wp_of e241 c241_20 (xc_V (pc' := 23) (r := r0) (as := []) (st := []) (lm_9_430) rfl rfl (Nat.le_of_ble_eq_true rfl) hW g0 sh_42 (by decide) rfl (by decide) (u_242 (e := e) (d := d) hW g0 q1034 g1035 (by omega) (by omega) (by assumption) (by assumption) (by assumption) (by assumption) hRB_r0 hKNN_r0) (fun R1048 T1049 H1050 p1051 => ?_))
      obtain ⟨e1052, w1054, f1055, e1053, p1056⟩ := p1051
      subst e1052
      subst e1053
      obtain ⟨a1057, a1058, a1059, a1060, a1061⟩ := p1056
      have f1062 := f0.tr f1055 rfl
      show wp _ _ 241 23 [(0, .ref r0), (1, vI a1)] [] _ H1050 _
      refine wp_of e241 c241_23 (rw_iconst (pc' := 24) rfl ?_)
      have h1063 : KNN T H1050 r0 e d := Or.inr ⟨by omega, a1061⟩
      have k1064 : wLM H1050 r0 = wLM H r0 := (wLM_fr hW g0 f1055 rfl)
      exact wp_ireturn e241 c241_24 rfl ⟨rfl, w1054, f1062, 0, rfl, ⟨by decide, by decide⟩, (Or.inl ⟨by omega, by omega, by omega, by omega, by omega, by omega, by omega, h1063, a1061⟩)⟩
    · refine wp_of e241 c241_17 (rw_iconst (pc' := 18) rfl ?_)
      exact wp_ireturn e241 c241_18 rfl ⟨rfl, hW, f0, 3, rfl, ⟨by decide, by decide⟩, (Or.inr ⟨by omega, by omega, by omega, by omega, by omega, by omega, hKNN_r0⟩)⟩
  · refine wp_of e241 c241_4 (rw_iconst (pc' := 5) rfl ?_)
    exact wp_ireturn e241 c241_5 rfl ⟨rfl, hW, f0, 1, rfl, ⟨by decide, by decide⟩, (Or.inr ⟨by omega, by omega, by omega, by omega, by omega, by omega, hKNN_r0⟩)⟩
