/-! StrikeAwakeModel.goesOn()V o -/
abbrev uq_172_o (r0 : Nat) (fo : Int) (po : Int) (T : wq_T) (H : wq_H) : Option Value → wq_T → wq_H → Prop := fun r T' H' => T = T' ∧ H = H' ∧ none = r ∧ ((RO T H r0 fo po))
set_option maxHeartbeats 4000000 in
theorem u_172_o {kt : Nat → Option mc_E} {T : wq_T} {H : wq_H} {r0 : Nat} {fo : Int} {po : Int} (hW : WT T H) (g0 : T.2.2.2 r0 = some 42) (hRO_r0 : RO T H r0 fo po) : wpc kt 2 172 [.ref r0] T H (uq_172_o r0 fo po T H) := by
  refine wp_enter e172 (Nat.le_of_ble_eq_true rfl) rfl ?_
  show wp _ _ 172 0 [(0, .ref r0)] [] _ H _
  have u1004 := RO_k hRO_r0
  refine wp_of e172 c172_0 (rw_aload_n (pc' := 1) (v := .ref r0) rfl rfl rfl ?_)
  refine wp_of e172 c172_1 (xg_I (pc' := 4) lf_9_75 hW g0 sh_42 (by decide) (by decide) ty_42_9 rfl rfl (fun b1005 b1006 => ?_))
  refine wp_of e172 c172_4 (rw_iconst (pc' := 5) rfl ?_)
  refine wp_of e172 c172_5 (rw_icmp_ne (p1 := 9) (p2 := 8) (by decide) rfl ⟨Int.le_trans (by decide) b1005, Int.le_trans b1006 (by decide)⟩ ⟨by decide, by decide⟩ (fun c1007 => ?_) (fun c1007 => ?_))
  · exfalso
    omega
  · exact wp_return e172 c172_8 rfl ⟨rfl, rfl, rfl, (hRO_r0)⟩
/-! StrikeAwakeModel.wrong(I)V k -/
abbrev uq_181_k (r0 : Nat) (a1 : Int) (B : Nat → Int) (n : Int) (q : Int) (T : wq_T) (H : wq_H) : Option Value → wq_T → wq_H → Prop := fun r T' H' => T = T' ∧ WT T H' ∧ wfr [(42, 9), (42, 13), (42, 14)] T H H' ∧ none = r ∧ ((RO T H' r0 a1 q))
set_option maxHeartbeats 4000000 in
theorem u_181_k {kt : Nat → Option mc_E} {T : wq_T} {H : wq_H} {r0 : Nat} {a1 : Int} {B : Nat → Int} {n : Int} {q : Int} (hW : WT T H) (g0 : T.2.2.2 r0 = some 42) (i1 : (-2147483648) ≤ a1 ∧ a1 ≤ 2147483647) (p0 : 1 ≤ a1) (hRC_r0 : RC T H r0 B n q) : wpc kt 1 181 [.ref r0, vI a1] T H (uq_181_k r0 a1 B n q T H) := by
  refine wp_enter e181 (Nat.le_of_ble_eq_true rfl) rfl ?_
  have f0 : wfr [(42, 9), (42, 13), (42, 14)] T H H := wfr.rf
  show wp _ _ 181 0 [(0, .ref r0), (1, vI a1)] [] _ H _
  have u1022 := RC_k hRC_r0
  refine wp_of e181 c181_0 (rw_aload_n (pc' := 1) (v := .ref r0) rfl rfl rfl ?_)
  refine wp_of e181 c181_1 (xg_I (pc' := 4) lf_9_75 hW g0 sh_42 (by decide) (by decide) ty_42_9 rfl rfl (fun b1023 b1024 => ?_))
  refine wp_of e181 c181_4 (rw_iconst (pc' := 5) rfl ?_)
  refine wp_of e181 c181_5 (rw_icmp_ne (p1 := 9) (p2 := 8) (by decide) rfl ⟨Int.le_trans (by decide) b1023, Int.le_trans b1024 (by decide)⟩ ⟨by decide, by decide⟩ (fun c1025 => ?_) (fun c1025 => ?_))
  · refine wp_of e181 c181_9 (rw_aload_n (pc' := 10) (v := .ref r0) rfl rfl rfl ?_)
    refine wp_of e181 c181_10 (rw_iload_n (pc' := 11) (z := a1) rfl rfl ?_)
    refine wp_of e181 c181_11 (xp_I (pc' := 14) lf_9_104 hW g0 sh_42 (by decide) (by decide) ty_42_13 rfl rfl (i1.1) (i1.2) ⟨i1.1, i1.2⟩ rfl (fun H1026 e1027 w1028 => ?_))
    have f1029 := f0.put' e1027 g0 rfl
    have k1030 : H1026 r0 13 = a1 := wq_u_s e1027
    refine wp_of e181 c181_14 (rw_aload_n (pc' := 15) (v := .ref r0) rfl rfl rfl ?_)
    refine wp_of e181 c181_15 (rw_aload_n (pc' := 16) (v := .ref r0) rfl rfl rfl ?_)
    have k1031 : H1026 r0 10 = H r0 10 := (wq_u_j e1027 rfl)
    refine wp_of e181 c181_16 (xg_I (pc' := 19) lf_9_84 w1028 g0 sh_42 (by decide) (by decide) ty_42_10 rfl rfl (fun b1032 b1033 => ?_))
    refine wp_of e181 c181_19 (xp_I (pc' := 22) lf_9_107 w1028 g0 sh_42 (by decide) (by decide) ty_42_14 rfl rfl (b1032) (b1033) ⟨b1032, b1033⟩ rfl (fun H1034 e1035 w1036 => ?_))
    have f1037 := f1029.put' e1035 g0 rfl
    have k1038 : H1034 r0 14 = H1026 r0 10 := wq_u_s e1035
    refine wp_of e181 c181_22 (rw_aload_n (pc' := 23) (v := .ref r0) rfl rfl rfl ?_)
    refine wp_of e181 c181_23 (rw_iconst (pc' := 24) rfl ?_)
    refine wp_of e181 c181_24 (xp_I (pc' := 27) lf_9_75 w1036 g0 sh_42 (by decide) (by decide) ty_42_9 rfl rfl (by decide) (by decide) ⟨by decide, by decide⟩ rfl (fun H1039 e1040 w1041 => ?_))
    have f1042 := f1037.put' e1040 g0 rfl
    have k1043 : H1039 r0 9 = 5 := wq_u_s e1040
    have k1044 : H1039 r0 13 = H1026 r0 13 := ((wq_u_j e1040 rfl).trans (wq_u_j e1035 rfl))
    have k1045 : H1039 r0 14 = H1034 r0 14 := (wq_u_j e1040 rfl)
    exact wp_return e181 c181_27 rfl ⟨rfl, w1041, f1042, rfl, (⟨by omega, by omega, by omega, by omega⟩)⟩
  · exfalso
    omega
/-! StrikeAwakeModel.wrong(I)V o -/
abbrev uq_181_o (r0 : Nat) (a1 : Int) (fo : Int) (po : Int) (T : wq_T) (H : wq_H) : Option Value → wq_T → wq_H → Prop := fun r T' H' => T = T' ∧ H = H' ∧ none = r ∧ ((RO T H r0 fo po))
set_option maxHeartbeats 4000000 in
theorem u_181_o {kt : Nat → Option mc_E} {T : wq_T} {H : wq_H} {r0 : Nat} {a1 : Int} {fo : Int} {po : Int} (hW : WT T H) (g0 : T.2.2.2 r0 = some 42) (i1 : (-2147483648) ≤ a1 ∧ a1 ≤ 2147483647) (hRO_r0 : RO T H r0 fo po) : wpc kt 1 181 [.ref r0, vI a1] T H (uq_181_o r0 a1 fo po T H) := by
  refine wp_enter e181 (Nat.le_of_ble_eq_true rfl) rfl ?_
  show wp _ _ 181 0 [(0, .ref r0), (1, vI a1)] [] _ H _
  have u1004 := RO_k hRO_r0
  refine wp_of e181 c181_0 (rw_aload_n (pc' := 1) (v := .ref r0) rfl rfl rfl ?_)
  refine wp_of e181 c181_1 (xg_I (pc' := 4) lf_9_75 hW g0 sh_42 (by decide) (by decide) ty_42_9 rfl rfl (fun b1005 b1006 => ?_))
  refine wp_of e181 c181_4 (rw_iconst (pc' := 5) rfl ?_)
  refine wp_of e181 c181_5 (rw_icmp_ne (p1 := 9) (p2 := 8) (by decide) rfl ⟨Int.le_trans (by decide) b1005, Int.le_trans b1006 (by decide)⟩ ⟨by decide, by decide⟩ (fun c1007 => ?_) (fun c1007 => ?_))
  · exfalso
    omega
  · exact wp_return e181 c181_8 rfl ⟨rfl, rfl, rfl, (hRO_r0)⟩
/-! StrikeAwakeModel.wordOf(Ljava/lang/String;)J  -/
abbrev uq_179 (s0 : Nat) (kk : Int) (T : wq_T) (H : wq_H) : Option Value → wq_T → wq_H → Prop := fun r T' H' => T = T' ∧ H = H' ∧ ∃ z : Int, some (vL z) = r ∧ ((-9223372036854775808) ≤ z ∧ z ≤ 9223372036854775807) ∧ (((z = kk)))
set_option maxHeartbeats 4000000 in
theorem u_179 {kt : Nat → Option mc_E} {T : wq_T} {H : wq_H} {s0 : Nat} {t0 : List Int32} {kk : Int} (hW : WT T H) (h0 : mc_find mc_sb s0 = some t0) (p0 : wkw t0 t0.length = kk) : wpc kt 1 179 [.ref s0] T H (uq_179 s0 kk T H) := by
  refine wp_enter e179 (Nat.le_of_ble_eq_true rfl) rfl ?_
  show wp _ _ 179 0 [(0, .ref s0)] [] _ H _
  refine wp_of e179 c179_0 (rw_lconst (pc' := 1) (z := 0) rfl rfl ?_)
  refine wp_of e179 c179_1 (rw_lstore_n (pc' := 2) (z := 0) (L' := [(1, vL 0), (0, .ref s0)]) rfl rfl rfl ?_)
  refine wp_of e179 c179_2 (rw_iconst (pc' := 3) rfl ?_)
  refine wp_of e179 c179_3 (rw_istore_n (pc' := 4) (z := 0) (L' := [(3, vI 0), (1, vL 0), (0, .ref s0)]) rfl rfl rfl ?_)
  have lp1182 : ∀ (n1183 : Nat) (v1185 : Int) (v1186 : Int), (0 ≤ v1185 ∧ v1185 ≤ 63) → ((-9223372036854775808) ≤ v1186 ∧ v1186 ≤ 9223372036854775807) → (v1186 = wkw t0 (v1185).toNat) → (v1185 ≤ (t0.length : Int)) → (63 - v1185).toNat = n1183 → wp kt 0 179 4 [(3, vI v1185), (1, vL v1186), (0, .ref s0)] [] T H (uq_179 s0 kk T H) := by
    intro n1183
    induction n1183 using Nat.strongRecOn with
    | _ n1183 ih1184 =>
      intro v1185 v1186 b1189 b1190 x1191 x1192 m1193
      refine wp_of e179 c179_4 (rw_iload_n (pc' := 5) (z := v1185) rfl rfl ?_)
      refine wp_of e179 c179_5 (rw_aload_n (pc' := 6) (v := .ref s0) rfl rfl rfl ?_)
      refine wp_of e179 c179_6 (rw_slen (pc' := 9) rfl rfl rfl h0 (Nat.le_of_ble_eq_true rfl) rfl ?_)
      have k1194 := (mc_sb_k h0).2.1
      show wp _ _ 179 9 [(3, vI v1185), (1, vL v1186), (0, .ref s0)] [vI ((t0.length : Int)), vI v1185] _ H _
      refine wp_of e179 c179_9 (rw_icmp_ge (p1 := 36) (p2 := 12) (by decide) rfl ⟨Int.le_trans (by decide) b1189.1, Int.le_trans b1189.2 (by decide)⟩ ⟨by omega, by omega⟩ (fun c1195 => ?_) (fun c1195 => ?_))
      · have : wkw t0 (v1185).toNat = kk := by
          rw [show (v1185).toNat = t0.length by omega]
          exact p0
        refine wp_of e179 c179_36 (rw_lload_n (pc' := 37) (z := v1186) rfl rfl ?_)
        exact wp_lreturn e179 c179_37 rfl ⟨rfl, rfl, v1186, rfl, ⟨b1190.1, b1190.2⟩, (by omega)⟩
      · refine wp_of e179 c179_12 (rw_ldc2 (pc' := 15) (z := 32) rfl rfl rfl ?_)
        refine wp_of e179 c179_15 (rw_lload_n (pc' := 16) (z := v1186) rfl rfl ?_)
        refine wp_of e179 c179_16 (rw_lmulw (pc' := 17) rfl ?_)
        obtain ⟨v1196, e1197⟩ : ∃ x : Int, x = wl_w (32 * v1186) := ⟨_, rfl⟩
        rw [← e1197]
        have b1198 : -9223372036854775808 ≤ v1196 ∧ v1196 ≤ 9223372036854775807 := by
          rw [e1197]
          exact wL_w _
        have b1199 : (-9223372036854775808 ≤ 32 * v1186 ∧ 32 * v1186 ≤ 9223372036854775807) → v1196 = 32 * v1186 := fun h => by rw [e1197]; exact wl_w_id h
        refine wp_of e179 c179_17 (rw_aload_n (pc' := 18) (v := .ref s0) rfl rfl rfl ?_)
        refine wp_of e179 c179_18 (rw_iload_n (pc' := 19) (z := v1185) rfl rfl ?_)
        refine wp_of e179 c179_19 (rw_schr (pc' := 22) rfl rfl rfl h0 (by omega) (by omega) (Nat.le_of_ble_eq_true rfl) rfl ?_)
        obtain ⟨v1200, e1201⟩ : ∃ x : Int, x = (t0.getD (v1185).toNat 0).toInt := ⟨_, rfl⟩
        rw [← e1201]
        have b1202 : -2147483648 ≤ v1200 ∧ v1200 ≤ 2147483647 := by
          rw [e1201]
          exact wI_of _
        refine wp_of e179 c179_22 (rw_bipush (pc' := 24) (z := 97) rfl (by decide) ?_)
        refine wp_of e179 c179_24 (rw_isubw (pc' := 25) rfl ?_)
        obtain ⟨v1203, e1204⟩ : ∃ x : Int, x = wq_w (v1200 - 97) := ⟨_, rfl⟩
        rw [← e1204]
        have b1205 : -2147483648 ≤ v1203 ∧ v1203 ≤ 2147483647 := by
          rw [e1204]
          exact wI_w _
        have b1206 : (-2147483648 ≤ v1200 - 97 ∧ v1200 - 97 ≤ 2147483647) → v1203 = v1200 - 97 := fun h => by rw [e1204]; exact wq_w_id h
        refine wp_of e179 c179_25 (rw_iconst (pc' := 26) rfl ?_)
        refine wp_of e179 c179_26 (rw_iaddw (pc' := 27) rfl ?_)
        obtain ⟨v1207, e1208⟩ : ∃ x : Int, x = wq_w (v1203 + 1) := ⟨_, rfl⟩
        rw [← e1208]
        have b1209 : -2147483648 ≤ v1207 ∧ v1207 ≤ 2147483647 := by
          rw [e1208]
          exact wI_w _
        have b1210 : (-2147483648 ≤ v1203 + 1 ∧ v1203 + 1 ≤ 2147483647) → v1207 = v1203 + 1 := fun h => by rw [e1208]; exact wq_w_id h
        refine wp_of e179 c179_27 (rw_i2l (pc' := 28) rfl ⟨b1209.1, b1209.2⟩ ?_)
        refine wp_of e179 c179_28 (rw_laddw (pc' := 29) rfl ?_)
        obtain ⟨v1211, e1212⟩ : ∃ x : Int, x = wl_w (v1196 + v1207) := ⟨_, rfl⟩
        rw [← e1212]
        have b1213 : -9223372036854775808 ≤ v1211 ∧ v1211 ≤ 9223372036854775807 := by
          rw [e1212]
          exact wL_w _
        have b1214 : (-9223372036854775808 ≤ v1196 + v1207 ∧ v1196 + v1207 ≤ 9223372036854775807) → v1211 = v1196 + v1207 := fun h => by rw [e1212]; exact wl_w_id h
        refine wp_of e179 c179_29 (rw_lstore_n (pc' := 30) (z := v1211) (L' := [(1, vL v1211), (3, vI v1185), (0, .ref s0)]) rfl rfl rfl ?_)
        refine wp_of e179 c179_30 (rw_iinc (pc' := 33) (z := v1185) (L' := [(3, vI (v1185 + 1)), (1, vL v1211), (0, .ref s0)]) rfl rfl rfl rfl ?_)
        refine wp_of e179 c179_33 (rw_goto (p1 := 4) (by decide) ?_)
        have : wkw t0 (v1185 + 1).toNat = v1211 := by
          subst_vars
          exact wkw_m (by omega)
        exact wp_lc (ks := [3, 1, 0]) (wl_c rfl (wl_c rfl (wl_c rfl wl_n))) rfl (by decide) (ih1184 _ (by omega) (v1185 + 1) v1211 ⟨by omega, by omega⟩ ⟨b1213.1, b1213.2⟩ (by omega) (by omega) rfl)
  have : wkw t0 (0 : Int).toNat = 0 := rfl
  exact wp_lc (ks := [3, 1, 0]) (wl_c rfl (wl_c rfl (wl_c rfl wl_n))) rfl (by decide) (lp1182 _ 0 0 ⟨by decide, by decide⟩ ⟨by decide, by decide⟩ (by omega) (by omega) rfl)
/-! StrikeAwakeModel.isWord(Ljava/lang/String;)Z k -/
abbrev uq_178_k (r0 : Nat) (s1 : Nat) (B : Nat → Int) (n : Int) (q : Int) (kk : Int) (T : wq_T) (H : wq_H) : Option Value → wq_T → wq_H → Prop := fun r T' H' => T = T' ∧ H = H' ∧ ∃ z : Int, some (vI z) = r ∧ (0 ≤ z ∧ z ≤ 1) ∧ (((z = 1) ∧ (xw B n q kk = 0) ∧ (xK B n q = 1)) ∨ ((z = 0) ∧ (xw B n q kk = 1)))
set_option maxHeartbeats 4000000 in
theorem u_178_k {kt : Nat → Option mc_E} {T : wq_T} {H : wq_H} {r0 : Nat} {s1 : Nat} {t1 : List Int32} {B : Nat → Int} {n : Int} {q : Int} {kk : Int} (hW : WT T H) (g0 : T.2.2.2 r0 = some 42) (h1 : mc_find mc_sb s1 = some t1) (p0 : wkw t1 t1.length = kk) (hRC_r0 : RC T H r0 B n q) : wpc kt 2 178 [.ref r0, .ref s1] T H (uq_178_k r0 s1 B n q kk T H) := by
  refine wp_enter e178 (Nat.le_of_ble_eq_true rfl) rfl ?_
  show wp _ _ 178 0 [(0, .ref r0), (1, .ref s1)] [] _ H _
  have u1019 := RC_k hRC_r0
  have _s := RC_s hRC_r0
  have _w := @xw_b B n q kk
  refine wp_of e178 c178_0 (rw_aload_n (pc' := 1) (v := .ref r0) rfl rfl rfl ?_)
  refine wp_of e178 c178_1 (xg_I (pc' := 4) lf_9_75 hW g0 sh_42 (by decide) (by decide) ty_42_9 rfl rfl (fun b1020 b1021 => ?_))
  refine wp_of e178 c178_4 (rw_iconst (pc' := 5) rfl ?_)
  refine wp_of e178 c178_5 (rw_icmp_ne (p1 := 24) (p2 := 8) (by decide) rfl ⟨Int.le_trans (by decide) b1020, Int.le_trans b1021 (by decide)⟩ ⟨by decide, by decide⟩ (fun c1022 => ?_) (fun c1022 => ?_))
  · refine wp_of e178 c178_24 (rw_iconst (pc' := 25) rfl ?_)
    exact wp_zreturn e178 c178_25 rfl (by omega) ⟨rfl, rfl, 0, rfl, ⟨by decide, by decide⟩, (Or.inr ⟨by omega, by omega⟩)⟩
  · refine wp_of e178 c178_8 (rw_aload_n (pc' := 9) (v := .ref r0) rfl rfl rfl ?_)
    refine wp_of e178 c178_9 (xg_L (pc' := 12) lf_9_94 hW g0 sh_42 (by decide) (by decide) ty_42_15 rfl rfl (fun b1023 b1024 => ?_))
    refine wp_of e178 c178_12 (rw_aload_n (pc' := 13) (v := .ref s1) rfl rfl rfl ?_)
    refine wp_of e178 c178_13 (xc_S (pc' := 16) (as := [.ref s1]) (st := [vL (H r0 15)]) (lm_9_110) rfl rfl (Nat.le_of_ble_eq_true rfl) rfl (by decide) (u_179 (kk := kk) hW h1 (by assumption)) (fun R1025 T1026 H1027 p1028 => ?_))
    obtain ⟨e1029, e1031, z1032, e1030, b1033, p1034⟩ := p1028
    subst e1029
    subst e1030
    subst e1031
    show wp _ _ 178 16 [(0, .ref r0), (1, .ref s1)] [vL z1032, vL (H r0 15)] _ H _
    refine wp_of e178 c178_16 (rw_lcmp (pc' := 17) rfl ⟨b1023, b1024⟩ ⟨b1033.1, b1033.2⟩ ?_)
    have b1036 := wq_cmp_b (H r0 15) z1032
    refine wp_of e178 c178_17 (rw_if_ne (p1 := 24) (p2 := 20) (by decide) rfl ⟨by omega, by omega⟩ (fun c1037 => ?_) (fun c1037 => ?_))
    · refine wp_of e178 c178_24 (rw_iconst (pc' := 25) rfl ?_)
      exact wp_zreturn e178 c178_25 rfl (by omega) ⟨rfl, rfl, 0, rfl, ⟨by decide, by decide⟩, (Or.inr ⟨by omega, by omega⟩)⟩
    · refine wp_of e178 c178_20 (rw_iconst (pc' := 21) rfl ?_)
      refine wp_of e178 c178_21 (rw_goto (p1 := 25) (by decide) ?_)
      exact wp_zreturn e178 c178_25 rfl (by omega) ⟨rfl, rfl, 1, rfl, ⟨by decide, by decide⟩, (Or.inl ⟨by omega, by omega, by omega⟩)⟩
/-! StrikeAwakeModel.isWord(Ljava/lang/String;)Z o -/
abbrev uq_178_o (r0 : Nat) (s1 : Nat) (fo : Int) (po : Int) (kk : Int) (T : wq_T) (H : wq_H) : Option Value → wq_T → wq_H → Prop := fun r T' H' => T = T' ∧ H = H' ∧ ∃ z : Int, some (vI z) = r ∧ (0 ≤ z ∧ z ≤ 1) ∧ (((z = 0)))
set_option maxHeartbeats 4000000 in
theorem u_178_o {kt : Nat → Option mc_E} {T : wq_T} {H : wq_H} {r0 : Nat} {s1 : Nat} {t1 : List Int32} {fo : Int} {po : Int} {kk : Int} (hW : WT T H) (g0 : T.2.2.2 r0 = some 42) (h1 : mc_find mc_sb s1 = some t1) (p0 : wkw t1 t1.length = kk) (hRO_r0 : RO T H r0 fo po) : wpc kt 2 178 [.ref r0, .ref s1] T H (uq_178_o r0 s1 fo po kk T H) := by
  refine wp_enter e178 (Nat.le_of_ble_eq_true rfl) rfl ?_
  show wp _ _ 178 0 [(0, .ref r0), (1, .ref s1)] [] _ H _
  have u1004 := RO_k hRO_r0
  refine wp_of e178 c178_0 (rw_aload_n (pc' := 1) (v := .ref r0) rfl rfl rfl ?_)
  refine wp_of e178 c178_1 (xg_I (pc' := 4) lf_9_75 hW g0 sh_42 (by decide) (by decide) ty_42_9 rfl rfl (fun b1005 b1006 => ?_))
  refine wp_of e178 c178_4 (rw_iconst (pc' := 5) rfl ?_)
  refine wp_of e178 c178_5 (rw_icmp_ne (p1 := 24) (p2 := 8) (by decide) rfl ⟨Int.le_trans (by decide) b1005, Int.le_trans b1006 (by decide)⟩ ⟨by decide, by decide⟩ (fun c1007 => ?_) (fun c1007 => ?_))
  · refine wp_of e178 c178_24 (rw_iconst (pc' := 25) rfl ?_)
    exact wp_zreturn e178 c178_25 rfl (by omega) ⟨rfl, rfl, 0, rfl, ⟨by decide, by decide⟩, (by omega)⟩
  · exfalso
    omega
/-! StrikeAwakeModel.eatsWord(Ljava/lang/String;)Z k -/
abbrev uq_192_k (r0 : Nat) (s1 : Nat) (rb : Nat) (B : Nat → Int) (n : Int) (q : Int) (kk : Int) (T : wq_T) (H : wq_H) : Option Value → wq_T → wq_H → Prop := fun r T' H' => T = T' ∧ WT T H' ∧ wfr [(42, 8), (42, 9), (42, 10), (42, 11), (42, 12), (42, 15)] T H H' ∧ ∃ z : Int, some (vI z) = r ∧ (0 ≤ z ∧ z ≤ 1) ∧ (((z = 1) ∧ (xw B n q kk = 0) ∧ RC T H' r0 B n (xN B n q)) ∨ ((z = 0) ∧ (xw B n q kk = 1) ∧ RC T H' r0 B n q))
set_option maxHeartbeats 4000000 in
theorem u_192_k {kt : Nat → Option mc_E} {T : wq_T} {H : wq_H} {r0 : Nat} {s1 : Nat} {t1 : List Int32} {rb : Nat} {B : Nat → Int} {n : Int} {q : Int} {kk : Int} (hW : WT T H) (g0 : T.2.2.2 r0 = some 42) (h1 : mc_find mc_sb s1 = some t1) (qrb : H r0 5 = (rb : Int)) (grb : T.2.2.2 rb = some 43) (p0 : wkw t1 t1.length = kk) (hRC_r0 : RC T H r0 B n q) : wpc kt 3 192 [.ref r0, .ref s1] T H (uq_192_k r0 s1 rb B n q kk T H) := by
  refine wp_enter e192 (Nat.le_of_ble_eq_true rfl) rfl ?_
  have f0 : wfr [(42, 8), (42, 9), (42, 10), (42, 11), (42, 12), (42, 15)] T H H := wfr.rf
  show wp _ _ 192 0 [(0, .ref r0), (1, .ref s1)] [] _ H _
  have u1029 := RC_k hRC_r0
  refine wp_of e192 c192_0 (rw_aload_n (pc' := 1) (v := .ref r0) rfl rfl rfl ?_)
  refine wp_of e192 c192_1 (rw_aload_n (pc' := 2) (v := .ref s1) rfl rfl rfl ?_)
  refine wp_of e192 c192_2 (xc_V (pc' := 5) (r := r0) (as := [.ref s1]) (st := []) (lm_9_114) rfl rfl (Nat.le_of_ble_eq_true rfl) hW g0 sh_42 (by decide) rfl (by decide) (u_178_k (B := B) (n := n) (q := q) (kk := kk) hW g0 h1 (by assumption) hRC_r0) (fun R1030 T1031 H1032 p1033 => ?_))
  obtain ⟨e1034, e1036, z1037, e1035, b1038, p1039⟩ := p1033
  subst e1034
  subst e1035
  subst e1036
  rcases p1039 with ⟨a1040, a1041, a1042⟩ | ⟨a1043, a1044⟩
  · show wp _ _ 192 5 [(0, .ref r0), (1, .ref s1)] [vI z1037] _ H _
    refine wp_of e192 c192_5 (rw_istore_n (pc' := 6) (z := z1037) (L' := [(2, vI z1037), (0, .ref r0), (1, .ref s1)]) rfl rfl rfl ?_)
    refine wp_of e192 c192_6 (rw_iload_n (pc' := 7) (z := z1037) rfl rfl ?_)
    refine wp_of e192 c192_7 (rw_if_eq (p1 := 14) (p2 := 10) (by decide) rfl ⟨Int.le_trans (by decide) b1038.1, Int.le_trans b1038.2 (by decide)⟩ (fun c1045 => ?_) (fun c1045 => ?_))
    · exfalso
      omega
    · refine wp_of e192 c192_10 (rw_aload_n (pc' := 11) (v := .ref r0) rfl rfl rfl ?_)
      have u1046 := RC_a hRC_r0
      have h1047 : TM T H rb B := RC_tm hRC_r0 qrb
      refine wp_of e192 c192_11 (xc_V (pc' := 14) (r := r0) (as := []) (st := []) (lm_9_118) rfl rfl (Nat.le_of_ble_eq_true rfl) hW g0 sh_42 (by decide) rfl (by decide) (u_172_k (B := B) (n := n) (a := (xE B n q)) (q := (xN B n q)) hW g0 qrb grb (by omega) (by omega) (by omega) (by omega) (by omega) (rfl) h1047) (fun R1048 T1049 H1050 p1051 => ?_))
      obtain ⟨e1052, w1054, f1055, e1053, p1056⟩ := p1051
      subst e1052
      subst e1053
      have f1058 := f0.tr f1055 rfl
      show wp _ _ 192 14 [(2, vI z1037), (0, .ref r0), (1, .ref s1)] [] _ H1050 _
      have u1059 := RC_k p1056
      refine wp_of e192 c192_14 (rw_iload_n (pc' := 15) (z := z1037) rfl rfl ?_)
      exact wp_zreturn e192 c192_15 rfl (by omega) ⟨rfl, w1054, f1058, z1037, rfl, ⟨b1038.1, b1038.2⟩, (Or.inl ⟨by omega, by omega, p1056⟩)⟩
  · show wp _ _ 192 5 [(0, .ref r0), (1, .ref s1)] [vI z1037] _ H _
    refine wp_of e192 c192_5 (rw_istore_n (pc' := 6) (z := z1037) (L' := [(2, vI z1037), (0, .ref r0), (1, .ref s1)]) rfl rfl rfl ?_)
    refine wp_of e192 c192_6 (rw_iload_n (pc' := 7) (z := z1037) rfl rfl ?_)
    refine wp_of e192 c192_7 (rw_if_eq (p1 := 14) (p2 := 10) (by decide) rfl ⟨Int.le_trans (by decide) b1038.1, Int.le_trans b1038.2 (by decide)⟩ (fun c1060 => ?_) (fun c1060 => ?_))
    · refine wp_of e192 c192_14 (rw_iload_n (pc' := 15) (z := z1037) rfl rfl ?_)
      exact wp_zreturn e192 c192_15 rfl (by omega) ⟨rfl, hW, f0, z1037, rfl, ⟨b1038.1, b1038.2⟩, (Or.inr ⟨by omega, by omega, hRC_r0⟩)⟩
    · exfalso
      omega
/-! StrikeAwakeModel.eatsWord(Ljava/lang/String;)Z o -/
abbrev uq_192_o (r0 : Nat) (s1 : Nat) (rb : Nat) (fo : Int) (po : Int) (kk : Int) (T : wq_T) (H : wq_H) : Option Value → wq_T → wq_H → Prop := fun r T' H' => T = T' ∧ H = H' ∧ ∃ z : Int, some (vI z) = r ∧ (0 ≤ z ∧ z ≤ 1) ∧ (((z = 0) ∧ RO T H r0 fo po))
set_option maxHeartbeats 4000000 in
theorem u_192_o {kt : Nat → Option mc_E} {T : wq_T} {H : wq_H} {r0 : Nat} {s1 : Nat} {t1 : List Int32} {rb : Nat} {fo : Int} {po : Int} {kk : Int} (hW : WT T H) (g0 : T.2.2.2 r0 = some 42) (h1 : mc_find mc_sb s1 = some t1) (qrb : H r0 5 = (rb : Int)) (grb : T.2.2.2 rb = some 43) (p0 : wkw t1 t1.length = kk) (hRO_r0 : RO T H r0 fo po) : wpc kt 3 192 [.ref r0, .ref s1] T H (uq_192_o r0 s1 rb fo po kk T H) := by
  refine wp_enter e192 (Nat.le_of_ble_eq_true rfl) rfl ?_
  show wp _ _ 192 0 [(0, .ref r0), (1, .ref s1)] [] _ H _
  have u1013 := RO_k hRO_r0
  refine wp_of e192 c192_0 (rw_aload_n (pc' := 1) (v := .ref r0) rfl rfl rfl ?_)
  refine wp_of e192 c192_1 (rw_aload_n (pc' := 2) (v := .ref s1) rfl rfl rfl ?_)
  refine wp_of e192 c192_2 (xc_V (pc' := 5) (r := r0) (as := [.ref s1]) (st := []) (lm_9_114) rfl rfl (Nat.le_of_ble_eq_true rfl) hW g0 sh_42 (by decide) rfl (by decide) (u_178_o (fo := fo) (po := po) (kk := kk) hW g0 h1 (by assumption) hRO_r0) (fun R1014 T1015 H1016 p1017 => ?_))
  obtain ⟨e1018, e1020, z1021, e1019, b1022, p1023⟩ := p1017
  subst e1018
  subst e1019
  subst e1020
  show wp _ _ 192 5 [(0, .ref r0), (1, .ref s1)] [vI z1021] _ H _
  refine wp_of e192 c192_5 (rw_istore_n (pc' := 6) (z := z1021) (L' := [(2, vI z1021), (0, .ref r0), (1, .ref s1)]) rfl rfl rfl ?_)
  refine wp_of e192 c192_6 (rw_iload_n (pc' := 7) (z := z1021) rfl rfl ?_)
  refine wp_of e192 c192_7 (rw_if_eq (p1 := 14) (p2 := 10) (by decide) rfl ⟨Int.le_trans (by decide) b1022.1, Int.le_trans b1022.2 (by decide)⟩ (fun c1025 => ?_) (fun c1025 => ?_))
  · refine wp_of e192 c192_14 (rw_iload_n (pc' := 15) (z := z1021) rfl rfl ?_)
    exact wp_zreturn e192 c192_15 rfl (by omega) ⟨rfl, rfl, z1021, rfl, ⟨b1022.1, b1022.2⟩, ⟨by omega, hRO_r0⟩⟩
  · exfalso
    omega
/-! StrikeAwakeModel.eatsSign(I)Z k -/
abbrev uq_204_k (r0 : Nat) (a1 : Int) (rb : Nat) (B : Nat → Int) (n : Int) (q : Int) (kd : Int) (T : wq_T) (H : wq_H) : Option Value → wq_T → wq_H → Prop := fun r T' H' => T = T' ∧ WT T H' ∧ wfr [(42, 8), (42, 9), (42, 10), (42, 11), (42, 12), (42, 15)] T H H' ∧ ∃ z : Int, some (vI z) = r ∧ (0 ≤ z ∧ z ≤ 1) ∧ (((z = 1) ∧ (xk B n q kd = 0) ∧ (xK B n q = kd) ∧ RC T H' r0 B n (xN B n q)) ∨ ((z = 0) ∧ (xk B n q kd = 1) ∧ (xK B n q ≠ kd) ∧ RC T H' r0 B n q))
set_option maxHeartbeats 4000000 in
theorem u_204_k {kt : Nat → Option mc_E} {T : wq_T} {H : wq_H} {r0 : Nat} {a1 : Int} {rb : Nat} {B : Nat → Int} {n : Int} {q : Int} {kd : Int} (hW : WT T H) (g0 : T.2.2.2 r0 = some 42) (i1 : (-2147483648) ≤ a1 ∧ a1 ≤ 2147483647) (qrb : H r0 5 = (rb : Int)) (grb : T.2.2.2 rb = some 43) (p0 : (a1 = 59 ∧ kd = 3) ∨ (a1 = 44 ∧ kd = 4)) (hRC_r0 : RC T H r0 B n q) : wpc kt 3 204 [.ref r0, vI a1] T H (uq_204_k r0 a1 rb B n q kd T H) := by
  refine wp_enter e204 (Nat.le_of_ble_eq_true rfl) rfl ?_
  have f0 : wfr [(42, 8), (42, 9), (42, 10), (42, 11), (42, 12), (42, 15)] T H H := wfr.rf
  show wp _ _ 204 0 [(0, .ref r0), (1, vI a1)] [] _ H _
  have u1021 := RC_k hRC_r0
  have _s := RC_s hRC_r0
  have _k := @xk_b B n q kd
  refine wp_of e204 c204_0 (rw_aload_n (pc' := 1) (v := .ref r0) rfl rfl rfl ?_)
  refine wp_of e204 c204_1 (xg_I (pc' := 4) lf_9_75 hW g0 sh_42 (by decide) (by decide) ty_42_9 rfl rfl (fun b1022 b1023 => ?_))
  refine wp_of e204 c204_4 (rw_iconst (pc' := 5) rfl ?_)
  refine wp_of e204 c204_5 (rw_icmp_ne (p1 := 20) (p2 := 8) (by decide) rfl ⟨Int.le_trans (by decide) b1022, Int.le_trans b1023 (by decide)⟩ ⟨by decide, by decide⟩ (fun c1024 => ?_) (fun c1024 => ?_))
  · refine wp_of e204 c204_20 (rw_iconst (pc' := 21) rfl ?_)
    refine wp_of e204 c204_21 (rw_istore_n (pc' := 22) (z := 0) (L' := [(2, vI 0), (0, .ref r0), (1, vI a1)]) rfl rfl rfl ?_)
    refine wp_of e204 c204_22 (rw_iload_n (pc' := 23) (z := 0) rfl rfl ?_)
    refine wp_of e204 c204_23 (rw_if_eq (p1 := 30) (p2 := 26) (by decide) rfl ⟨by decide, by decide⟩ (fun c1025 => ?_) (fun c1025 => ?_))
    · refine wp_of e204 c204_30 (rw_iload_n (pc' := 31) (z := 0) rfl rfl ?_)
      exact wp_zreturn e204 c204_31 rfl (by omega) ⟨rfl, hW, f0, 0, rfl, ⟨by decide, by decide⟩, (Or.inr ⟨by omega, by omega, by omega, hRC_r0⟩)⟩
    · exfalso
      omega
  · refine wp_of e204 c204_8 (rw_aload_n (pc' := 9) (v := .ref r0) rfl rfl rfl ?_)
    refine wp_of e204 c204_9 (xg_I (pc' := 12) lf_9_87 hW g0 sh_42 (by decide) (by decide) ty_42_11 rfl rfl (fun b1026 b1027 => ?_))
    refine wp_of e204 c204_12 (rw_iload_n (pc' := 13) (z := a1) rfl rfl ?_)
    refine wp_of e204 c204_13 (rw_icmp_ne (p1 := 20) (p2 := 16) (by decide) rfl ⟨b1026, b1027⟩ ⟨i1.1, i1.2⟩ (fun c1028 => ?_) (fun c1028 => ?_))
    · refine wp_of e204 c204_20 (rw_iconst (pc' := 21) rfl ?_)
      refine wp_of e204 c204_21 (rw_istore_n (pc' := 22) (z := 0) (L' := [(2, vI 0), (0, .ref r0), (1, vI a1)]) rfl rfl rfl ?_)
      refine wp_of e204 c204_22 (rw_iload_n (pc' := 23) (z := 0) rfl rfl ?_)
      refine wp_of e204 c204_23 (rw_if_eq (p1 := 30) (p2 := 26) (by decide) rfl ⟨by decide, by decide⟩ (fun c1029 => ?_) (fun c1029 => ?_))
      · refine wp_of e204 c204_30 (rw_iload_n (pc' := 31) (z := 0) rfl rfl ?_)
        exact wp_zreturn e204 c204_31 rfl (by omega) ⟨rfl, hW, f0, 0, rfl, ⟨by decide, by decide⟩, (Or.inr ⟨by omega, by omega, by omega, hRC_r0⟩)⟩
      · exfalso
        omega
    · refine wp_of e204 c204_16 (rw_iconst (pc' := 17) rfl ?_)
      refine wp_of e204 c204_17 (rw_goto (p1 := 21) (by decide) ?_)
      refine wp_of e204 c204_21 (rw_istore_n (pc' := 22) (z := 1) (L' := [(2, vI 1), (0, .ref r0), (1, vI a1)]) rfl rfl rfl ?_)
      refine wp_of e204 c204_22 (rw_iload_n (pc' := 23) (z := 1) rfl rfl ?_)
      refine wp_of e204 c204_23 (rw_if_eq (p1 := 30) (p2 := 26) (by decide) rfl ⟨by decide, by decide⟩ (fun c1030 => ?_) (fun c1030 => ?_))
      · exfalso
        omega
      · refine wp_of e204 c204_26 (rw_aload_n (pc' := 27) (v := .ref r0) rfl rfl rfl ?_)
        have u1031 := RC_a hRC_r0
        have h1032 : TM T H rb B := RC_tm hRC_r0 qrb
        refine wp_of e204 c204_27 (xc_V (pc' := 30) (r := r0) (as := []) (st := []) (lm_9_118) rfl rfl (Nat.le_of_ble_eq_true rfl) hW g0 sh_42 (by decide) rfl (by decide) (u_172_k (B := B) (n := n) (a := (xE B n q)) (q := (xN B n q)) hW g0 qrb grb (by omega) (by omega) (by omega) (by omega) (by omega) (rfl) h1032) (fun R1033 T1034 H1035 p1036 => ?_))
        obtain ⟨e1037, w1039, f1040, e1038, p1041⟩ := p1036
        subst e1037
        subst e1038
        have f1043 := f0.tr f1040 rfl
        show wp _ _ 204 30 [(2, vI 1), (0, .ref r0), (1, vI a1)] [] _ H1035 _
        have u1044 := RC_k p1041
        refine wp_of e204 c204_30 (rw_iload_n (pc' := 31) (z := 1) rfl rfl ?_)
        exact wp_zreturn e204 c204_31 rfl (by omega) ⟨rfl, w1039, f1043, 1, rfl, ⟨by decide, by decide⟩, (Or.inl ⟨by omega, by omega, by omega, p1041⟩)⟩
/-! StrikeAwakeModel.eatsSign(I)Z o -/
abbrev uq_204_o (r0 : Nat) (a1 : Int) (rb : Nat) (fo : Int) (po : Int) (T : wq_T) (H : wq_H) : Option Value → wq_T → wq_H → Prop := fun r T' H' => T = T' ∧ H = H' ∧ ∃ z : Int, some (vI z) = r ∧ (0 ≤ z ∧ z ≤ 1) ∧ (((z = 0) ∧ RO T H r0 fo po))
set_option maxHeartbeats 4000000 in
theorem u_204_o {kt : Nat → Option mc_E} {T : wq_T} {H : wq_H} {r0 : Nat} {a1 : Int} {rb : Nat} {fo : Int} {po : Int} (hW : WT T H) (g0 : T.2.2.2 r0 = some 42) (i1 : (-2147483648) ≤ a1 ∧ a1 ≤ 2147483647) (qrb : H r0 5 = (rb : Int)) (grb : T.2.2.2 rb = some 43) (hRO_r0 : RO T H r0 fo po) : wpc kt 3 204 [.ref r0, vI a1] T H (uq_204_o r0 a1 rb fo po T H) := by
  refine wp_enter e204 (Nat.le_of_ble_eq_true rfl) rfl ?_
  show wp _ _ 204 0 [(0, .ref r0), (1, vI a1)] [] _ H _
  have u1005 := RO_k hRO_r0
  refine wp_of e204 c204_0 (rw_aload_n (pc' := 1) (v := .ref r0) rfl rfl rfl ?_)
  refine wp_of e204 c204_1 (xg_I (pc' := 4) lf_9_75 hW g0 sh_42 (by decide) (by decide) ty_42_9 rfl rfl (fun b1006 b1007 => ?_))
  refine wp_of e204 c204_4 (rw_iconst (pc' := 5) rfl ?_)
  refine wp_of e204 c204_5 (rw_icmp_ne (p1 := 20) (p2 := 8) (by decide) rfl ⟨Int.le_trans (by decide) b1006, Int.le_trans b1007 (by decide)⟩ ⟨by decide, by decide⟩ (fun c1008 => ?_) (fun c1008 => ?_))
  · refine wp_of e204 c204_20 (rw_iconst (pc' := 21) rfl ?_)
    refine wp_of e204 c204_21 (rw_istore_n (pc' := 22) (z := 0) (L' := [(2, vI 0), (0, .ref r0), (1, vI a1)]) rfl rfl rfl ?_)
    refine wp_of e204 c204_22 (rw_iload_n (pc' := 23) (z := 0) rfl rfl ?_)
    refine wp_of e204 c204_23 (rw_if_eq (p1 := 30) (p2 := 26) (by decide) rfl ⟨by decide, by decide⟩ (fun c1009 => ?_) (fun c1009 => ?_))
    · refine wp_of e204 c204_30 (rw_iload_n (pc' := 31) (z := 0) rfl rfl ?_)
      exact wp_zreturn e204 c204_31 rfl (by omega) ⟨rfl, rfl, 0, rfl, ⟨by decide, by decide⟩, ⟨by omega, hRO_r0⟩⟩
    · exfalso
      omega
  · exfalso
    omega
