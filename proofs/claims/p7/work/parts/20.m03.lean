/-! methods (own work, written by wip/gen2/sx.py) -/
/-! StrikeAwake$Reader.reads([BILStrikeAwake$Parish;)Z -/
theorem e13 : wq_en 13 = some (1, 5, false, some FieldType.boolean) := rfl
theorem c13_0 : mc_cd 13 0 = some (.aload_n 0, 1) := by decide +kernel
theorem c13_1 : mc_cd 13 1 = some (.iconst 0, 1) := by decide +kernel
theorem c13_2 : mc_cd 13 2 = some (.putfield 18, 3) := by decide +kernel
theorem c13_5 : mc_cd 13 5 = some (.aload_n 0, 1) := by decide +kernel
theorem c13_6 : mc_cd 13 6 = some (.iconst (-1), 1) := by decide +kernel
theorem c13_7 : mc_cd 13 7 = some (.putfield 22, 3) := by decide +kernel
theorem c13_10 : mc_cd 13 10 = some (.aload_n 3, 1) := by decide +kernel
theorem c13_11 : mc_cd 13 11 = some (.invokevirtual 25, 3) := by decide +kernel
theorem c13_14 : mc_cd 13 14 = some (.aload_n 0, 1) := by decide +kernel
theorem c13_15 : mc_cd 13 15 = some (.getfield 12, 3) := by decide +kernel
theorem c13_18 : mc_cd 13 18 = some (.aload_n 1, 1) := by decide +kernel
theorem c13_19 : mc_cd 13 19 = some (.iload_n 2, 1) := by decide +kernel
theorem c13_20 : mc_cd 13 20 = some (.invokevirtual 30, 3) := by decide +kernel
theorem c13_23 : mc_cd 13 23 = some (.iconst 0, 1) := by decide +kernel
theorem c13_24 : mc_cd 13 24 = some (.istore 4, 2) := by decide +kernel
theorem c13_26 : mc_cd 13 26 = some (.iload 4, 2) := by decide +kernel
theorem c13_28 : mc_cd 13 28 = some (.sipush 900, 3) := by decide +kernel
theorem c13_31 : mc_cd 13 31 = some (.if_icmp .gt 68, 3) := by decide +kernel
theorem c13_34 : mc_cd 13 34 = some (.aload_n 0, 1) := by decide +kernel
theorem c13_35 : mc_cd 13 35 = some (.aload_n 3, 1) := by decide +kernel
theorem c13_36 : mc_cd 13 36 = some (.invokevirtual 34, 3) := by decide +kernel
theorem c13_39 : mc_cd 13 39 = some (.ifCond .ne 5, 3) := by decide +kernel
theorem c13_42 : mc_cd 13 42 = some (.iconst 0, 1) := by decide +kernel
theorem c13_43 : mc_cd 13 43 = some (.ireturn, 1) := by decide +kernel
theorem c13_44 : mc_cd 13 44 = some (.aload_n 0, 1) := by decide +kernel
theorem c13_45 : mc_cd 13 45 = some (.getfield 12, 3) := by decide +kernel
theorem c13_48 : mc_cd 13 48 = some (.getfield 38, 3) := by decide +kernel
theorem c13_51 : mc_cd 13 51 = some (.ifCond .ne 32, 3) := by decide +kernel
theorem c13_54 : mc_cd 13 54 = some (.aload_n 3, 1) := by decide +kernel
theorem c13_55 : mc_cd 13 55 = some (.getfield 41, 3) := by decide +kernel
theorem c13_58 : mc_cd 13 58 = some (.ifCond .le 10, 3) := by decide +kernel
theorem c13_61 : mc_cd 13 61 = some (.aload_n 3, 1) := by decide +kernel
theorem c13_62 : mc_cd 13 62 = some (.getfield 44, 3) := by decide +kernel
theorem c13_65 : mc_cd 13 65 = some (.ifCond .gt 12, 3) := by decide +kernel
theorem c13_68 : mc_cd 13 68 = some (.aload_n 0, 1) := by decide +kernel
theorem c13_69 : mc_cd 13 69 = some (.bipush 6, 2) := by decide +kernel
theorem c13_71 : mc_cd 13 71 = some (.invokevirtual 47, 3) := by decide +kernel
theorem c13_74 : mc_cd 13 74 = some (.ifCond .eq 7, 3) := by decide +kernel
theorem c13_77 : mc_cd 13 77 = some (.iconst 1, 1) := by decide +kernel
theorem c13_78 : mc_cd 13 78 = some (.goto 4, 3) := by decide +kernel
theorem c13_81 : mc_cd 13 81 = some (.iconst 0, 1) := by decide +kernel
theorem c13_82 : mc_cd 13 82 = some (.ireturn, 1) := by decide +kernel
theorem c13_83 : mc_cd 13 83 = some (.aload_n 0, 1) := by decide +kernel
theorem c13_84 : mc_cd 13 84 = some (.iconst 3, 1) := by decide +kernel
theorem c13_85 : mc_cd 13 85 = some (.invokevirtual 51, 3) := by decide +kernel
theorem c13_88 : mc_cd 13 88 = some (.ifCond .ne 5, 3) := by decide +kernel
theorem c13_91 : mc_cd 13 91 = some (.iconst 0, 1) := by decide +kernel
theorem c13_92 : mc_cd 13 92 = some (.ireturn, 1) := by decide +kernel
theorem c13_93 : mc_cd 13 93 = some (.iinc 4 1, 3) := by decide +kernel
theorem c13_96 : mc_cd 13 96 = some (.goto (-70), 3) := by decide +kernel
theorem c13_99 : mc_cd 13 99 = some (.aload_n 0, 1) := by decide +kernel
theorem c13_100 : mc_cd 13 100 = some (.iconst 1, 1) := by decide +kernel
theorem c13_101 : mc_cd 13 101 = some (.invokevirtual 47, 3) := by decide +kernel
theorem c13_104 : mc_cd 13 104 = some (.ireturn, 1) := by decide +kernel
abbrev q_13 (r0 : Nat) (r1 : Nat) (a2 : Int) (r3 : Nat) (T : wq_T) (H : wq_H) : Option Value → wq_T → wq_H → Prop := fun r T' H' => T = T' ∧ WT T H' ∧ wfr [(27, 7), (27, 8), (27, 9), (27, 10), (27, 11), (27, 12), (27, 13), (27, 14), (27, 15), (27, 16), (27, 17), (27, 18), (35, 6), (35, 7), (35, 8), (35, 9), (35, 10), (35, 11), (35, 12), (35, 13), (35, 14), (35, 15), (35, 16), (35, 17), (3, 1), (3, 2), (3, 3), (3, 4), (4, 0), (4, 1), (4, 2), (4, 3), (4, 4), (4, 5), (4, 6), (31, 999), (34, 999), (29, 999), (30, 999), (33, 999), (32, 999)] T H H' ∧ ∃ z : Int, some (vI z) = r ∧ (0 ≤ z ∧ z ≤ 1)
set_option maxHeartbeats 4000000 in
theorem s_13 {kt : Nat → Option mc_E} {T : wq_T} {H : wq_H} {r0 : Nat} {r1 : Nat} {a2 : Int} {r3 : Nat} (hW : WT T H) (g0 : T.2.2.2 r0 = some 3) (g1 : T.2.2.2 r1 = some 2) (i2 : 0 ≤ a2 ∧ a2 ≤ 900) (g3 : T.2.2.2 r3 = some 27) : wpc kt 7 13 [.ref r0, .ref r1, vI a2, .ref r3] T H (q_13 r0 r1 a2 r3 T H) := by
  refine wp_enter e13 (Nat.le_of_ble_eq_true rfl) rfl ?_
  have f0 : wfr [(27, 7), (27, 8), (27, 9), (27, 10), (27, 11), (27, 12), (27, 13), (27, 14), (27, 15), (27, 16), (27, 17), (27, 18), (35, 6), (35, 7), (35, 8), (35, 9), (35, 10), (35, 11), (35, 12), (35, 13), (35, 14), (35, 15), (35, 16), (35, 17), (3, 1), (3, 2), (3, 3), (3, 4), (4, 0), (4, 1), (4, 2), (4, 3), (4, 4), (4, 5), (4, 6), (31, 999), (34, 999), (29, 999), (30, 999), (33, 999), (32, 999)] T H H := wfr.rf
  show wp _ _ 13 0 [(0, .ref r0), (1, .ref r1), (2, vI a2), (3, .ref r3)] [] _ H _
  refine wp_of e13 c13_0 (rw_aload_n (pc' := 1) (v := .ref r0) rfl rfl rfl ?_)
  refine wp_of e13 c13_1 (rw_iconst (pc' := 2) rfl ?_)
  refine wp_of e13 c13_2 (xp_I (pc' := 5) lf_1_18 hW g0 sh_3 (by decide) (by decide) ty_3_3 rfl rfl (by omega) (by omega) ⟨by omega, by omega⟩ rfl (fun H12908 e12909 w12910 => ?_))
  have f12911 := f0.put' e12909 g0 rfl
  have k12912 : H12908 r0 3 = 0 := wq_u_s e12909
  refine wp_of e13 c13_5 (rw_aload_n (pc' := 6) (v := .ref r0) rfl rfl rfl ?_)
  refine wp_of e13 c13_6 (rw_iconst (pc' := 7) rfl ?_)
  refine wp_of e13 c13_7 (xp_I (pc' := 10) lf_1_22 w12910 g0 sh_3 (by decide) (by decide) ty_3_4 rfl rfl (by omega) (by omega) ⟨by omega, by omega⟩ rfl (fun H12913 e12914 w12915 => ?_))
  have f12916 := f12911.put' e12914 g0 rfl
  have k12917 : H12913 r0 4 = -1 := wq_u_s e12914
  refine wp_of e13 c13_10 (rw_aload_n (pc' := 11) (v := .ref r3) rfl rfl rfl ?_)
  refine wp_of e13 c13_11 (xc_V (pc' := 14) (r := r3) (as := []) (st := []) (lm_1_25) rfl rfl (Nat.le_of_ble_eq_true rfl) w12915 g3 sh_27 (by decide) rfl (by decide) (s_14 w12915 g3) (fun R12918 T12919 H12920 p12921 => ?_))
  obtain ⟨e12922, w12924, f12925, e12923⟩ := p12921
  subst e12922
  subst e12923
  have f12926 := f12916.tr f12925 rfl
  show wp _ _ 13 14 [(0, .ref r0), (1, .ref r1), (2, vI a2), (3, .ref r3)] [] _ H12920 _
  refine wp_of e13 c13_14 (rw_aload_n (pc' := 15) (v := .ref r0) rfl rfl rfl ?_)
  refine wp_of e13 c13_15 (xg_R (pc' := 18) lf_1_12 w12924 g0 sh_3 (by decide) (by decide) ty_3_0 rfl rfl (fun r12927 q12928 g12929 => ?_))
  refine wp_of e13 c13_18 (rw_aload_n (pc' := 19) (v := .ref r1) rfl rfl rfl ?_)
  refine wp_of e13 c13_19 (rw_iload_n (pc' := 20) (z := a2) rfl rfl ?_)
  refine wp_of e13 c13_20 (xc_V (pc' := 23) (r := r12927) (as := [.ref r1, vI a2]) (st := []) (lm_1_30) rfl rfl (Nat.le_of_ble_eq_true rfl) w12924 g12929 sh_4 (by decide) rfl (by decide) (s_15 w12924 g12929 g1 ⟨by omega, by omega⟩) (fun R12930 T12931 H12932 p12933 => ?_))
  obtain ⟨e12934, w12936, f12937, e12935, p12938⟩ := p12933
  subst e12934
  subst e12935
  have f12939 := f12926.tr f12937 rfl
  show wp _ _ 13 23 [(0, .ref r0), (1, .ref r1), (2, vI a2), (3, .ref r3)] [] _ H12932 _
  refine wp_of e13 c13_23 (rw_iconst (pc' := 24) rfl ?_)
  refine wp_of e13 c13_24 (rw_istore (pc' := 26) (z := 0) (L' := [(4, vI 0), (0, .ref r0), (1, .ref r1), (2, vI a2), (3, .ref r3)]) rfl rfl rfl ?_)
  have lp13228 : ∀ (n13229 : Nat) (v13231 : Int) (H13232 : wq_H), WT T H13232 → wfr [(27, 7), (27, 8), (27, 9), (27, 10), (27, 11), (27, 12), (27, 13), (27, 14), (27, 15), (27, 16), (35, 6), (35, 7), (35, 8), (35, 9), (35, 10), (35, 11), (35, 12), (35, 13), (35, 14), (35, 15), (35, 16), (35, 17), (3, 1), (3, 2), (3, 3), (3, 4), (4, 2), (4, 3), (4, 4), (4, 5), (4, 6), (31, 999), (34, 999), (29, 999), (30, 999), (33, 999), (32, 999)] T H12932 H13232 → (0 ≤ v13231 ∧ v13231 ≤ 901) → (901 - v13231).toNat = n13229 → wp kt 6 13 26 [(4, vI v13231), (0, .ref r0), (3, .ref r3)] [] T H13232 (q_13 r0 r1 a2 r3 T H) := by
    intro n13229
    induction n13229 using Nat.strongRecOn with
    | _ n13229 ih13230 =>
      intro v13231 H13232 w13233 f13234 b13235 m13236
      have f13237 := f12939.tr f13234 rfl
      refine wp_of e13 c13_26 (rw_iload (pc' := 28) (z := v13231) rfl rfl ?_)
      refine wp_of e13 c13_28 (rw_sipush (pc' := 31) (z := 900) rfl (by decide) ?_)
      refine wp_of e13 c13_31 (rw_icmp_gt (p1 := 99) (p2 := 34) (by decide) rfl ⟨by omega, by omega⟩ ⟨by omega, by omega⟩ (fun c13238 => ?_) (fun c13238 => ?_))
      · refine wp_of e13 c13_99 (rw_aload_n (pc' := 100) (v := .ref r0) rfl rfl rfl ?_)
        refine wp_of e13 c13_100 (rw_iconst (pc' := 101) rfl ?_)
        refine wp_of e13 c13_101 (xc_V (pc' := 104) (r := r0) (as := [vI 1]) (st := []) (lm_1_47) rfl rfl (Nat.le_of_ble_eq_true rfl) w13233 g0 sh_3 (by decide) rfl (by decide) (s_20 w13233 g0 ⟨by omega, by omega⟩) (fun R13239 T13240 H13241 p13242 => ?_))
        obtain ⟨e13243, w13245, f13246, z13247, e13244, b13248⟩ := p13242
        subst e13243
        subst e13244
        have f13249 := f13237.tr f13246 rfl
        show wp _ _ 13 104 [(4, vI v13231), (0, .ref r0), (3, .ref r3)] [vI z13247] _ H13241 _
        exact wp_zreturn e13 c13_104 rfl (by omega) ⟨rfl, w13245, f13249, z13247, rfl, ⟨by omega, by omega⟩⟩
      · refine wp_of e13 c13_34 (rw_aload_n (pc' := 35) (v := .ref r0) rfl rfl rfl ?_)
        refine wp_of e13 c13_35 (rw_aload_n (pc' := 36) (v := .ref r3) rfl rfl rfl ?_)
        have k13250 : H13232 r0 0 = H12920 r0 0 := ((f13234 r0 0 _ g0 rfl).trans (f12937 r0 0 _ g0 rfl))
        have q13251 : H13232 r0 0 = (r12927 : Int) := k13250.trans q12928
        have k13252 : H13232 r12927 0 = H12932 r12927 0 := (f13234 r12927 0 _ g12929 rfl)
        have q13253 : H13232 r12927 0 = (r1 : Int) := k13252.trans p12938
        refine wp_of e13 c13_36 (xc_V (pc' := 39) (r := r0) (as := [.ref r3]) (st := []) (lm_1_34) rfl rfl (Nat.le_of_ble_eq_true rfl) w13233 g0 sh_3 (by decide) rfl (by decide) (s_17 w13233 g0 g3 q13251 g12929 q13253 g1) (fun R13254 T13255 H13256 p13257 => ?_))
        obtain ⟨e13258, w13260, f13261, z13262, e13259, b13263⟩ := p13257
        subst e13258
        subst e13259
        have f13264 := f13237.tr f13261 rfl
        have f13265 := f13234.tr f13261 rfl
        show wp _ _ 13 39 [(4, vI v13231), (0, .ref r0), (3, .ref r3)] [vI z13262] _ H13256 _
        refine wp_of e13 c13_39 (rw_if_ne (p1 := 44) (p2 := 42) (by decide) rfl ⟨by omega, by omega⟩ (fun c13266 => ?_) (fun c13266 => ?_))
        · refine wp_of e13 c13_44 (rw_aload_n (pc' := 45) (v := .ref r0) rfl rfl rfl ?_)
          have k13267 : H13256 r0 0 = H13232 r0 0 := (f13261 r0 0 _ g0 rfl)
          have q13268 : H13256 r0 0 = (r12927 : Int) := k13267.trans q13251
          refine wp_of e13 c13_45 (xg_K (pc' := 48) lf_1_12 w13260 g0 sh_3 (by decide) (by decide) rfl q13268 rfl ?_)
          refine wp_of e13 c13_48 (xg_I (pc' := 51) lf_1_38 w13260 g12929 sh_4 (by decide) (by decide) ty_4_3 rfl rfl (fun b13269 b13270 => ?_))
          refine wp_of e13 c13_51 (rw_if_ne (p1 := 83) (p2 := 54) (by decide) rfl ⟨by omega, by omega⟩ (fun c13271 => ?_) (fun c13271 => ?_))
          · refine wp_of e13 c13_83 (rw_aload_n (pc' := 84) (v := .ref r0) rfl rfl rfl ?_)
            refine wp_of e13 c13_84 (rw_iconst (pc' := 85) rfl ?_)
            have k13272 : H13256 r12927 0 = H13232 r12927 0 := (f13261 r12927 0 _ g12929 rfl)
            have q13273 : H13256 r12927 0 = (r1 : Int) := k13272.trans q13253
            refine wp_of e13 c13_85 (xc_V (pc' := 88) (r := r0) (as := [vI 3]) (st := []) (lm_1_51) rfl rfl (Nat.le_of_ble_eq_true rfl) w13260 g0 sh_3 (by decide) rfl (by decide) (s_35 w13260 g0 ⟨by omega, by omega⟩ q13268 g12929 q13273 g1) (fun R13274 T13275 H13276 p13277 => ?_))
            obtain ⟨e13278, w13280, f13281, z13282, e13279, b13283⟩ := p13277
            subst e13278
            subst e13279
            have f13284 := f13264.tr f13281 rfl
            have f13285 := f13265.tr f13281 rfl
            show wp _ _ 13 88 [(4, vI v13231), (0, .ref r0), (3, .ref r3)] [vI z13282] _ H13276 _
            refine wp_of e13 c13_88 (rw_if_ne (p1 := 93) (p2 := 91) (by decide) rfl ⟨by omega, by omega⟩ (fun c13286 => ?_) (fun c13286 => ?_))
            · refine wp_of e13 c13_93 (rw_iinc (pc' := 96) (z := v13231) (L' := [(4, vI (v13231 + 1)), (0, .ref r0), (3, .ref r3)]) rfl rfl rfl rfl ?_)
              refine wp_of e13 c13_96 (rw_goto (p1 := 26) (by decide) ?_)
              exact wp_lc (ks := [4, 0, 3]) (wl_c rfl (wl_c rfl (wl_c rfl wl_n))) rfl (by decide) (ih13230 _ (by omega) (v13231 + 1) H13276 w13280 f13285 ⟨by omega, by omega⟩ rfl)
            · refine wp_of e13 c13_91 (rw_iconst (pc' := 92) rfl ?_)
              exact wp_zreturn e13 c13_92 rfl (by omega) ⟨rfl, w13280, f13284, 0, rfl, ⟨by omega, by omega⟩⟩
          · refine wp_of e13 c13_54 (rw_aload_n (pc' := 55) (v := .ref r3) rfl rfl rfl ?_)
            refine wp_of e13 c13_55 (xg_I (pc' := 58) lf_1_41 w13260 g3 sh_27 (by decide) (by decide) ty_27_7 rfl rfl (fun b13287 b13288 => ?_))
            refine wp_of e13 c13_58 (rw_if_le (p1 := 68) (p2 := 61) (by decide) rfl ⟨by omega, by omega⟩ (fun c13289 => ?_) (fun c13289 => ?_))
            · refine wp_of e13 c13_68 (rw_aload_n (pc' := 69) (v := .ref r0) rfl rfl rfl ?_)
              refine wp_of e13 c13_69 (rw_bipush (pc' := 71) (z := 6) rfl (by decide) ?_)
              refine wp_of e13 c13_71 (xc_V (pc' := 74) (r := r0) (as := [vI 6]) (st := []) (lm_1_47) rfl rfl (Nat.le_of_ble_eq_true rfl) w13260 g0 sh_3 (by decide) rfl (by decide) (s_20 w13260 g0 ⟨by omega, by omega⟩) (fun R13290 T13291 H13292 p13293 => ?_))
              obtain ⟨e13294, w13296, f13297, z13298, e13295, b13299⟩ := p13293
              subst e13294
              subst e13295
              have f13300 := f13264.tr f13297 rfl
              show wp _ _ 13 74 [(4, vI v13231), (0, .ref r0), (3, .ref r3)] [vI z13298] _ H13292 _
              refine wp_of e13 c13_74 (rw_if_eq (p1 := 81) (p2 := 77) (by decide) rfl ⟨by omega, by omega⟩ (fun c13301 => ?_) (fun c13301 => ?_))
              · refine wp_of e13 c13_81 (rw_iconst (pc' := 82) rfl ?_)
                exact wp_zreturn e13 c13_82 rfl (by omega) ⟨rfl, w13296, f13300, 0, rfl, ⟨by omega, by omega⟩⟩
              · refine wp_of e13 c13_77 (rw_iconst (pc' := 78) rfl ?_)
                refine wp_of e13 c13_78 (rw_goto (p1 := 82) (by decide) ?_)
                exact wp_zreturn e13 c13_82 rfl (by omega) ⟨rfl, w13296, f13300, 1, rfl, ⟨by omega, by omega⟩⟩
            · refine wp_of e13 c13_61 (rw_aload_n (pc' := 62) (v := .ref r3) rfl rfl rfl ?_)
              refine wp_of e13 c13_62 (xg_I (pc' := 65) lf_1_44 w13260 g3 sh_27 (by decide) (by decide) ty_27_10 rfl rfl (fun b13302 b13303 => ?_))
              refine wp_of e13 c13_65 (rw_if_gt (p1 := 77) (p2 := 68) (by decide) rfl ⟨by omega, by omega⟩ (fun c13304 => ?_) (fun c13304 => ?_))
              · refine wp_of e13 c13_77 (rw_iconst (pc' := 78) rfl ?_)
                refine wp_of e13 c13_78 (rw_goto (p1 := 82) (by decide) ?_)
                exact wp_zreturn e13 c13_82 rfl (by omega) ⟨rfl, w13260, f13264, 1, rfl, ⟨by omega, by omega⟩⟩
              · refine wp_of e13 c13_68 (rw_aload_n (pc' := 69) (v := .ref r0) rfl rfl rfl ?_)
                refine wp_of e13 c13_69 (rw_bipush (pc' := 71) (z := 6) rfl (by decide) ?_)
                refine wp_of e13 c13_71 (xc_V (pc' := 74) (r := r0) (as := [vI 6]) (st := []) (lm_1_47) rfl rfl (Nat.le_of_ble_eq_true rfl) w13260 g0 sh_3 (by decide) rfl (by decide) (s_20 w13260 g0 ⟨by omega, by omega⟩) (fun R13305 T13306 H13307 p13308 => ?_))
                obtain ⟨e13309, w13311, f13312, z13313, e13310, b13314⟩ := p13308
                subst e13309
                subst e13310
                have f13315 := f13264.tr f13312 rfl
                show wp _ _ 13 74 [(4, vI v13231), (0, .ref r0), (3, .ref r3)] [vI z13313] _ H13307 _
                refine wp_of e13 c13_74 (rw_if_eq (p1 := 81) (p2 := 77) (by decide) rfl ⟨by omega, by omega⟩ (fun c13316 => ?_) (fun c13316 => ?_))
                · refine wp_of e13 c13_81 (rw_iconst (pc' := 82) rfl ?_)
                  exact wp_zreturn e13 c13_82 rfl (by omega) ⟨rfl, w13311, f13315, 0, rfl, ⟨by omega, by omega⟩⟩
                · refine wp_of e13 c13_77 (rw_iconst (pc' := 78) rfl ?_)
                  refine wp_of e13 c13_78 (rw_goto (p1 := 82) (by decide) ?_)
                  exact wp_zreturn e13 c13_82 rfl (by omega) ⟨rfl, w13311, f13315, 1, rfl, ⟨by omega, by omega⟩⟩
        · refine wp_of e13 c13_42 (rw_iconst (pc' := 43) rfl ?_)
          exact wp_zreturn e13 c13_43 rfl (by omega) ⟨rfl, w13260, f13264, 0, rfl, ⟨by omega, by omega⟩⟩
  exact wp_lc (ks := [4, 0, 1, 2, 3]) (wl_c rfl (wl_c rfl (wl_c rfl wl_n))) rfl (by decide) (lp13228 _ 0 H12932 w12936 wfr.rf ⟨by omega, by omega⟩ rfl)
/-! StrikeAwake$Parish.allHours()I -/
theorem e45 : wq_en 45 = some (7, 1, false, some FieldType.int) := rfl
theorem c45_0 : mc_cd 45 0 = some (.iconst 0, 1) := by decide +kernel
theorem c45_1 : mc_cd 45 1 = some (.aload_n 0, 1) := by decide +kernel
theorem c45_2 : mc_cd 45 2 = some (.getfield 41, 3) := by decide +kernel
theorem c45_5 : mc_cd 45 5 = some (.invokestatic 92, 3) := by decide +kernel
theorem c45_8 : mc_cd 45 8 = some (.ireturn, 1) := by decide +kernel
abbrev q_45 (r0 : Nat) (T : wq_T) (H : wq_H) : Option Value → wq_T → wq_H → Prop := fun r T' H' => T = T' ∧ H = H' ∧ ∃ z : Int, some (vI z) = r ∧ ((-2147483648) ≤ z ∧ z ≤ 2147483647)
set_option maxHeartbeats 4000000 in
theorem s_45 {kt : Nat → Option mc_E} {T : wq_T} {H : wq_H} {r0 : Nat} (hW : WT T H) (g0 : T.2.2.2 r0 = some 27) : wpc kt 2 45 [.ref r0] T H (q_45 r0 T H) := by
  refine wp_enter e45 (Nat.le_of_ble_eq_true rfl) rfl ?_
  show wp _ _ 45 0 [(0, .ref r0)] [] _ H _
  refine wp_of e45 c45_0 (rw_iconst (pc' := 1) rfl ?_)
  refine wp_of e45 c45_1 (rw_aload_n (pc' := 2) (v := .ref r0) rfl rfl rfl ?_)
  refine wp_of e45 c45_2 (xg_I (pc' := 5) lf_7_41 hW g0 sh_27 (by decide) (by decide) ty_27_7 rfl rfl (fun b13328 b13329 => ?_))
  refine wp_of e45 c45_5 (xc_S (pc' := 8) (as := [vI 0, vI (H r0 7)]) (st := []) (lm_7_92) rfl rfl (Nat.le_of_ble_eq_true rfl) rfl (by decide) (s_31 hW ⟨by omega, by omega⟩ ⟨by omega, by omega⟩) (fun R13330 T13331 H13332 p13333 => ?_))
  obtain ⟨e13334, e13336, z13337, e13335, b13338⟩ := p13333
  subst e13334
  subst e13335
  subst e13336
  show wp _ _ 45 8 [(0, .ref r0)] [vI z13337] _ H _
  exact wp_ireturn e45 c45_8 rfl ⟨rfl, rfl, z13337, rfl, ⟨by omega, by omega⟩⟩
/-! StrikeAwake$Parish.hoursStruckUpTo(I)I -/
theorem e46 : wq_en 46 = some (7, 4, false, some FieldType.int) := rfl
theorem c46_0 : mc_cd 46 0 = some (.iconst 0, 1) := by decide +kernel
theorem c46_1 : mc_cd 46 1 = some (.istore_n 2, 1) := by decide +kernel
theorem c46_2 : mc_cd 46 2 = some (.iconst 0, 1) := by decide +kernel
theorem c46_3 : mc_cd 46 3 = some (.istore_n 3, 1) := by decide +kernel
theorem c46_4 : mc_cd 46 4 = some (.iload_n 3, 1) := by decide +kernel
theorem c46_5 : mc_cd 46 5 = some (.aload_n 0, 1) := by decide +kernel
theorem c46_6 : mc_cd 46 6 = some (.getfield 65, 3) := by decide +kernel
theorem c46_9 : mc_cd 46 9 = some (.if_icmp .ge 35, 3) := by decide +kernel
theorem c46_12 : mc_cd 46 12 = some (.aload_n 0, 1) := by decide +kernel
theorem c46_13 : mc_cd 46 13 = some (.getfield 17, 3) := by decide +kernel
theorem c46_16 : mc_cd 46 16 = some (.aload_n 0, 1) := by decide +kernel
theorem c46_17 : mc_cd 46 17 = some (.getfield 21, 3) := by decide +kernel
theorem c46_20 : mc_cd 46 20 = some (.iload_n 3, 1) := by decide +kernel
theorem c46_21 : mc_cd 46 21 = some (.iaload, 1) := by decide +kernel
theorem c46_22 : mc_cd 46 22 = some (.iaload, 1) := by decide +kernel
theorem c46_23 : mc_cd 46 23 = some (.iload_n 1, 1) := by decide +kernel
theorem c46_24 : mc_cd 46 24 = some (.if_icmp .gt 14, 3) := by decide +kernel
theorem c46_27 : mc_cd 46 27 = some (.iload_n 2, 1) := by decide +kernel
theorem c46_28 : mc_cd 46 28 = some (.iconst 1, 1) := by decide +kernel
theorem c46_29 : mc_cd 46 29 = some (.aload_n 0, 1) := by decide +kernel
theorem c46_30 : mc_cd 46 30 = some (.getfield 21, 3) := by decide +kernel
theorem c46_33 : mc_cd 46 33 = some (.iload_n 3, 1) := by decide +kernel
theorem c46_34 : mc_cd 46 34 = some (.iaload, 1) := by decide +kernel
theorem c46_35 : mc_cd 46 35 = some (.ishl, 1) := by decide +kernel
theorem c46_36 : mc_cd 46 36 = some (.ior, 1) := by decide +kernel
theorem c46_37 : mc_cd 46 37 = some (.istore_n 2, 1) := by decide +kernel
theorem c46_38 : mc_cd 46 38 = some (.iinc 3 1, 3) := by decide +kernel
theorem c46_41 : mc_cd 46 41 = some (.goto (-37), 3) := by decide +kernel
theorem c46_44 : mc_cd 46 44 = some (.iload_n 2, 1) := by decide +kernel
theorem c46_45 : mc_cd 46 45 = some (.ireturn, 1) := by decide +kernel
abbrev q_46 (r0 : Nat) (a1 : Int) (T : wq_T) (H : wq_H) : Option Value → wq_T → wq_H → Prop := fun r T' H' => T = T' ∧ H = H' ∧ ∃ z : Int, some (vI z) = r ∧ ((-2147483648) ≤ z ∧ z ≤ 2147483647)
set_option maxHeartbeats 4000000 in
theorem s_46 {kt : Nat → Option mc_E} {T : wq_T} {H : wq_H} {r0 : Nat} {a1 : Int} (hW : WT T H) (g0 : T.2.2.2 r0 = some 27) (i1 : (-2147483648) ≤ a1 ∧ a1 ≤ 2147483647) : wpc kt 1 46 [.ref r0, vI a1] T H (q_46 r0 a1 T H) := by
  refine wp_enter e46 (Nat.le_of_ble_eq_true rfl) rfl ?_
  show wp _ _ 46 0 [(0, .ref r0), (1, vI a1)] [] _ H _
  refine wp_of e46 c46_0 (rw_iconst (pc' := 1) rfl ?_)
  refine wp_of e46 c46_1 (rw_istore_n (pc' := 2) (z := 0) (L' := [(2, vI 0), (0, .ref r0), (1, vI a1)]) rfl rfl rfl ?_)
  refine wp_of e46 c46_2 (rw_iconst (pc' := 3) rfl ?_)
  refine wp_of e46 c46_3 (rw_istore_n (pc' := 4) (z := 0) (L' := [(3, vI 0), (2, vI 0), (0, .ref r0), (1, vI a1)]) rfl rfl rfl ?_)
  have lp13680 : ∀ (n13681 : Nat) (v13683 : Int) (v13684 : Int), (0 ≤ v13683 ∧ v13683 ≤ 24) → (0 ≤ v13684 ∧ v13684 ≤ 16777215) → (24 - v13683).toNat = n13681 → wp kt 0 46 4 [(3, vI v13683), (2, vI v13684), (0, .ref r0), (1, vI a1)] [] T H (q_46 r0 a1 T H) := by
    intro n13681
    induction n13681 using Nat.strongRecOn with
    | _ n13681 ih13682 =>
      intro v13683 v13684 b13687 b13688 m13689
      refine wp_of e46 c46_4 (rw_iload_n (pc' := 5) (z := v13683) rfl rfl ?_)
      refine wp_of e46 c46_5 (rw_aload_n (pc' := 6) (v := .ref r0) rfl rfl rfl ?_)
      refine wp_of e46 c46_6 (xg_I (pc' := 9) lf_7_65 hW g0 sh_27 (by decide) (by decide) ty_27_16 rfl rfl (fun b13690 b13691 => ?_))
      refine wp_of e46 c46_9 (rw_icmp_ge (p1 := 44) (p2 := 12) (by decide) rfl ⟨by omega, by omega⟩ ⟨by omega, by omega⟩ (fun c13692 => ?_) (fun c13692 => ?_))
      · refine wp_of e46 c46_44 (rw_iload_n (pc' := 45) (z := v13684) rfl rfl ?_)
        exact wp_ireturn e46 c46_45 rfl ⟨rfl, rfl, v13684, rfl, ⟨by omega, by omega⟩⟩
      · refine wp_of e46 c46_12 (rw_aload_n (pc' := 13) (v := .ref r0) rfl rfl rfl ?_)
        refine wp_of e46 c46_13 (xg_R (pc' := 16) lf_7_17 hW g0 sh_27 (by decide) (by decide) ty_27_1 rfl rfl (fun r13693 q13694 g13695 => ?_))
        refine wp_of e46 c46_16 (rw_aload_n (pc' := 17) (v := .ref r0) rfl rfl rfl ?_)
        refine wp_of e46 c46_17 (xg_R (pc' := 20) lf_7_21 hW g0 sh_27 (by decide) (by decide) ty_27_2 rfl rfl (fun r13696 q13697 g13698 => ?_))
        refine wp_of e46 c46_20 (rw_iload_n (pc' := 21) (z := v13683) rfl rfl ?_)
        refine wp_of e46 c46_21 (xa_I (so := 0) (pc' := 22) hW g13698 sh_30 (by decide) (ty_30 _) (by omega) (by omega) rfl (fun b13699 b13700 => ?_))
        refine wp_of e46 c46_22 (xa_I (so := 0) (pc' := 23) hW g13695 sh_29 (by decide) (ty_29 _) (by omega) (by omega) rfl (fun b13701 b13702 => ?_))
        refine wp_of e46 c46_23 (rw_iload_n (pc' := 24) (z := a1) rfl rfl ?_)
        refine wp_of e46 c46_24 (rw_icmp_gt (p1 := 38) (p2 := 27) (by decide) rfl ⟨by omega, by omega⟩ ⟨by omega, by omega⟩ (fun c13703 => ?_) (fun c13703 => ?_))
        · refine wp_of e46 c46_38 (rw_iinc (pc' := 41) (z := v13683) (L' := [(3, vI (v13683 + 1)), (2, vI v13684), (0, .ref r0), (1, vI a1)]) rfl rfl rfl rfl ?_)
          refine wp_of e46 c46_41 (rw_goto (p1 := 4) (by decide) ?_)
          exact wp_lc (ks := [3, 2, 0, 1]) (wl_c rfl (wl_c rfl (wl_c rfl (wl_c rfl wl_n)))) rfl (by decide) (ih13682 _ (by omega) (v13683 + 1) v13684 ⟨by omega, by omega⟩ ⟨by omega, by omega⟩ rfl)
        · refine wp_of e46 c46_27 (rw_iload_n (pc' := 28) (z := v13684) rfl rfl ?_)
          refine wp_of e46 c46_28 (rw_iconst (pc' := 29) rfl ?_)
          refine wp_of e46 c46_29 (rw_aload_n (pc' := 30) (v := .ref r0) rfl rfl rfl ?_)
          refine wp_of e46 c46_30 (xg_K (pc' := 33) lf_7_21 hW g0 sh_27 (by decide) (by decide) rfl q13697 rfl ?_)
          refine wp_of e46 c46_33 (rw_iload_n (pc' := 34) (z := v13683) rfl rfl ?_)
          refine wp_of e46 c46_34 (xa_I (so := 0) (pc' := 35) hW g13698 sh_30 (by decide) (ty_30 _) (by omega) (by omega) rfl (fun b13704 b13705 => ?_))
          refine wp_of e46 c46_35 (rw_ishl (pc' := 36) rfl ?_)
          obtain ⟨v13706, e13707⟩ : ∃ x : Int, x = wq_shl 1 (H r13696 (v13683.toNat)) := ⟨_, rfl⟩
          rw [← e13707]
          have b13708 : 1 ≤ v13706 ∧ v13706 ≤ 8388608 := by
            rw [e13707]
            exact wq_shl1_24 ⟨by omega, by omega⟩
          refine wp_of e46 c46_36 (rw_ior (pc' := 37) rfl ?_)
          obtain ⟨v13709, e13710⟩ : ∃ x : Int, x = wq_or v13684 v13706 := ⟨_, rfl⟩
          rw [← e13710]
          have b13711 : 0 ≤ v13709 ∧ v13709 ≤ 16777215 := by
            rw [e13710]
            exact wq_or_24 ⟨by omega, by omega⟩ ⟨by omega, by omega⟩
          refine wp_of e46 c46_37 (rw_istore_n (pc' := 38) (z := v13709) (L' := [(2, vI v13709), (3, vI v13683), (0, .ref r0), (1, vI a1)]) rfl rfl rfl ?_)
          refine wp_of e46 c46_38 (rw_iinc (pc' := 41) (z := v13683) (L' := [(3, vI (v13683 + 1)), (2, vI v13709), (0, .ref r0), (1, vI a1)]) rfl rfl rfl rfl ?_)
          refine wp_of e46 c46_41 (rw_goto (p1 := 4) (by decide) ?_)
          exact wp_lc (ks := [3, 2, 0, 1]) (wl_c rfl (wl_c rfl (wl_c rfl (wl_c rfl wl_n)))) rfl (by decide) (ih13682 _ (by omega) (v13683 + 1) v13709 ⟨by omega, by omega⟩ ⟨by omega, by omega⟩ rfl)
  exact wp_lc (ks := [3, 2, 0, 1]) (wl_c rfl (wl_c rfl (wl_c rfl (wl_c rfl wl_n)))) rfl (by decide) (lp13680 _ 0 0 ⟨by omega, by omega⟩ ⟨by omega, by omega⟩ rfl)
/-! StrikeAwake$Walk.tallyOf(I)J -/
theorem e49 : wq_en 49 = some (3, 4, false, some FieldType.long) := rfl
theorem c49_0 : mc_cd 49 0 = some (.lconst 0, 1) := by decide +kernel
theorem c49_1 : mc_cd 49 1 = some (.lstore_n 1, 1) := by decide +kernel
theorem c49_2 : mc_cd 49 2 = some (.iconst 0, 1) := by decide +kernel
theorem c49_3 : mc_cd 49 3 = some (.istore_n 3, 1) := by decide +kernel
theorem c49_4 : mc_cd 49 4 = some (.iload_n 3, 1) := by decide +kernel
theorem c49_5 : mc_cd 49 5 = some (.bipush 12, 2) := by decide +kernel
theorem c49_7 : mc_cd 49 7 = some (.if_icmp .ge 22, 3) := by decide +kernel
theorem c49_10 : mc_cd 49 10 = some (.lload_n 1, 1) := by decide +kernel
theorem c49_11 : mc_cd 49 11 = some (.iload_n 0, 1) := by decide +kernel
theorem c49_12 : mc_cd 49 12 = some (.iload_n 3, 1) := by decide +kernel
theorem c49_13 : mc_cd 49 13 = some (.ishr, 1) := by decide +kernel
theorem c49_14 : mc_cd 49 14 = some (.i2l, 1) := by decide +kernel
theorem c49_15 : mc_cd 49 15 = some (.lconst 1, 1) := by decide +kernel
theorem c49_16 : mc_cd 49 16 = some (.land, 1) := by decide +kernel
theorem c49_17 : mc_cd 49 17 = some (.iload_n 3, 1) := by decide +kernel
theorem c49_18 : mc_cd 49 18 = some (.iconst 4, 1) := by decide +kernel
theorem c49_19 : mc_cd 49 19 = some (.imul, 1) := by decide +kernel
theorem c49_20 : mc_cd 49 20 = some (.lshl, 1) := by decide +kernel
theorem c49_21 : mc_cd 49 21 = some (.lor, 1) := by decide +kernel
theorem c49_22 : mc_cd 49 22 = some (.lstore_n 1, 1) := by decide +kernel
theorem c49_23 : mc_cd 49 23 = some (.iinc 3 1, 3) := by decide +kernel
theorem c49_26 : mc_cd 49 26 = some (.goto (-22), 3) := by decide +kernel
theorem c49_29 : mc_cd 49 29 = some (.lload_n 1, 1) := by decide +kernel
theorem c49_30 : mc_cd 49 30 = some (.lreturn, 1) := by decide +kernel
abbrev q_49 (a0 : Int) (T : wq_T) (H : wq_H) : Option Value → wq_T → wq_H → Prop := fun r T' H' => T = T' ∧ H = H' ∧ ∃ z : Int, some (vL z) = r ∧ ((-9223372036854775808) ≤ z ∧ z ≤ 9223372036854775807)
set_option maxHeartbeats 4000000 in
theorem s_49 {kt : Nat → Option mc_E} {T : wq_T} {H : wq_H} {a0 : Int} (hW : WT T H) (i0 : (-2147483648) ≤ a0 ∧ a0 ≤ 2147483647) : wpc kt 1 49 [vI a0] T H (q_49 a0 T H) := by
  refine wp_enter e49 (Nat.le_of_ble_eq_true rfl) rfl ?_
  show wp _ _ 49 0 [(0, vI a0)] [] _ H _
  refine wp_of e49 c49_0 (rw_lconst (pc' := 1) (z := 0) rfl rfl ?_)
  refine wp_of e49 c49_1 (rw_lstore_n (pc' := 2) (z := 0) (L' := [(1, vL 0), (0, vI a0)]) rfl rfl rfl ?_)
  refine wp_of e49 c49_2 (rw_iconst (pc' := 3) rfl ?_)
  refine wp_of e49 c49_3 (rw_istore_n (pc' := 4) (z := 0) (L' := [(3, vI 0), (1, vL 0), (0, vI a0)]) rfl rfl rfl ?_)
  have lp13866 : ∀ (n13867 : Nat) (v13869 : Int) (v13870 : Int), (0 ≤ v13869 ∧ v13869 ≤ 12) → ((-9223372036854775808) ≤ v13870 ∧ v13870 ≤ 9223372036854775807) → (12 - v13869).toNat = n13867 → wp kt 0 49 4 [(3, vI v13869), (1, vL v13870), (0, vI a0)] [] T H (q_49 a0 T H) := by
    intro n13867
    induction n13867 using Nat.strongRecOn with
    | _ n13867 ih13868 =>
      intro v13869 v13870 b13873 b13874 m13875
      refine wp_of e49 c49_4 (rw_iload_n (pc' := 5) (z := v13869) rfl rfl ?_)
      refine wp_of e49 c49_5 (rw_bipush (pc' := 7) (z := 12) rfl (by decide) ?_)
      refine wp_of e49 c49_7 (rw_icmp_ge (p1 := 29) (p2 := 10) (by decide) rfl ⟨by omega, by omega⟩ ⟨by omega, by omega⟩ (fun c13876 => ?_) (fun c13876 => ?_))
      · refine wp_of e49 c49_29 (rw_lload_n (pc' := 30) (z := v13870) rfl rfl ?_)
        exact wp_lreturn e49 c49_30 rfl ⟨rfl, rfl, v13870, rfl, ⟨by omega, by omega⟩⟩
      · refine wp_of e49 c49_10 (rw_lload_n (pc' := 11) (z := v13870) rfl rfl ?_)
        refine wp_of e49 c49_11 (rw_iload_n (pc' := 12) (z := a0) rfl rfl ?_)
        refine wp_of e49 c49_12 (rw_iload_n (pc' := 13) (z := v13869) rfl rfl ?_)
        refine wp_of e49 c49_13 (rw_ishr (pc' := 14) rfl ?_)
        obtain ⟨v13877, e13878⟩ : ∃ x : Int, x = wq_shr a0 v13869 := ⟨_, rfl⟩
        rw [← e13878]
        have b13879 : -2147483648 ≤ v13877 ∧ v13877 ≤ 2147483647 := by
          rw [e13878]
          exact wI_shr _ _
        refine wp_of e49 c49_14 (rw_i2l (pc' := 15) rfl ⟨by omega, by omega⟩ ?_)
        refine wp_of e49 c49_15 (rw_lconst (pc' := 16) (z := 1) rfl rfl ?_)
        refine wp_of e49 c49_16 (rw_land (pc' := 17) rfl ?_)
        obtain ⟨v13880, e13881⟩ : ∃ x : Int, x = wl_and v13877 1 := ⟨_, rfl⟩
        rw [← e13881]
        have b13882 : -9223372036854775808 ≤ v13880 ∧ v13880 ≤ 9223372036854775807 := by
          rw [e13881]
          exact wL_and _ _
        refine wp_of e49 c49_17 (rw_iload_n (pc' := 18) (z := v13869) rfl rfl ?_)
        refine wp_of e49 c49_18 (rw_iconst (pc' := 19) rfl ?_)
        refine wp_of e49 c49_19 (rw_imul (pc' := 20) rfl ?_)
        refine wp_of e49 c49_20 (rw_lshl (pc' := 21) rfl ?_)
        obtain ⟨v13883, e13884⟩ : ∃ x : Int, x = wl_shl v13880 (v13869 * 4) := ⟨_, rfl⟩
        rw [← e13884]
        have b13885 : -9223372036854775808 ≤ v13883 ∧ v13883 ≤ 9223372036854775807 := by
          rw [e13884]
          exact wL_shl _ _
        refine wp_of e49 c49_21 (rw_lor (pc' := 22) rfl ?_)
        obtain ⟨v13886, e13887⟩ : ∃ x : Int, x = wl_or v13870 v13883 := ⟨_, rfl⟩
        rw [← e13887]
        have b13888 : -9223372036854775808 ≤ v13886 ∧ v13886 ≤ 9223372036854775807 := by
          rw [e13887]
          exact wL_or _ _
        refine wp_of e49 c49_22 (rw_lstore_n (pc' := 23) (z := v13886) (L' := [(1, vL v13886), (3, vI v13869), (0, vI a0)]) rfl rfl rfl ?_)
        refine wp_of e49 c49_23 (rw_iinc (pc' := 26) (z := v13869) (L' := [(3, vI (v13869 + 1)), (1, vL v13886), (0, vI a0)]) rfl rfl rfl rfl ?_)
        refine wp_of e49 c49_26 (rw_goto (p1 := 4) (by decide) ?_)
        exact wp_lc (ks := [3, 1, 0]) (wl_c rfl (wl_c rfl (wl_c rfl wl_n))) rfl (by decide) (ih13868 _ (by omega) (v13869 + 1) v13886 ⟨by omega, by omega⟩ ⟨by omega, by omega⟩ rfl)
  exact wp_lc (ks := [3, 1, 0]) (wl_c rfl (wl_c rfl (wl_c rfl wl_n))) rfl (by decide) (lp13866 _ 0 0 ⟨by omega, by omega⟩ ⟨by omega, by omega⟩ rfl)
/-! StrikeAwake$Person.addSpan(IIII)V -/
theorem e48 : wq_en 48 = some (8, 5, false, none) := rfl
theorem c48_0 : mc_cd 48 0 = some (.aload_n 0, 1) := by decide +kernel
theorem c48_1 : mc_cd 48 1 = some (.getfield 49, 3) := by decide +kernel
theorem c48_4 : mc_cd 48 4 = some (.bipush 40, 2) := by decide +kernel
theorem c48_6 : mc_cd 48 6 = some (.if_icmp .lt 4, 3) := by decide +kernel
theorem c48_9 : mc_cd 48 9 = some (.return_, 1) := by decide +kernel
theorem c48_10 : mc_cd 48 10 = some (.aload_n 0, 1) := by decide +kernel
theorem c48_11 : mc_cd 48 11 = some (.getfield 9, 3) := by decide +kernel
theorem c48_14 : mc_cd 48 14 = some (.aload_n 0, 1) := by decide +kernel
theorem c48_15 : mc_cd 48 15 = some (.getfield 49, 3) := by decide +kernel
theorem c48_18 : mc_cd 48 18 = some (.iload_n 1, 1) := by decide +kernel
theorem c48_19 : mc_cd 48 19 = some (.iastore, 1) := by decide +kernel
theorem c48_20 : mc_cd 48 20 = some (.aload_n 0, 1) := by decide +kernel
theorem c48_21 : mc_cd 48 21 = some (.getfield 15, 3) := by decide +kernel
theorem c48_24 : mc_cd 48 24 = some (.aload_n 0, 1) := by decide +kernel
theorem c48_25 : mc_cd 48 25 = some (.getfield 49, 3) := by decide +kernel
theorem c48_28 : mc_cd 48 28 = some (.iload_n 2, 1) := by decide +kernel
theorem c48_29 : mc_cd 48 29 = some (.iastore, 1) := by decide +kernel
theorem c48_30 : mc_cd 48 30 = some (.aload_n 0, 1) := by decide +kernel
theorem c48_31 : mc_cd 48 31 = some (.getfield 18, 3) := by decide +kernel
theorem c48_34 : mc_cd 48 34 = some (.aload_n 0, 1) := by decide +kernel
theorem c48_35 : mc_cd 48 35 = some (.getfield 49, 3) := by decide +kernel
theorem c48_38 : mc_cd 48 38 = some (.iload_n 3, 1) := by decide +kernel
theorem c48_39 : mc_cd 48 39 = some (.iastore, 1) := by decide +kernel
theorem c48_40 : mc_cd 48 40 = some (.aload_n 0, 1) := by decide +kernel
theorem c48_41 : mc_cd 48 41 = some (.getfield 21, 3) := by decide +kernel
theorem c48_44 : mc_cd 48 44 = some (.aload_n 0, 1) := by decide +kernel
theorem c48_45 : mc_cd 48 45 = some (.getfield 49, 3) := by decide +kernel
theorem c48_48 : mc_cd 48 48 = some (.iload 4, 2) := by decide +kernel
theorem c48_50 : mc_cd 48 50 = some (.iastore, 1) := by decide +kernel
theorem c48_51 : mc_cd 48 51 = some (.aload_n 0, 1) := by decide +kernel
theorem c48_52 : mc_cd 48 52 = some (.getfield 24, 3) := by decide +kernel
theorem c48_55 : mc_cd 48 55 = some (.aload_n 0, 1) := by decide +kernel
theorem c48_56 : mc_cd 48 56 = some (.getfield 49, 3) := by decide +kernel
theorem c48_59 : mc_cd 48 59 = some (.iload 4, 2) := by decide +kernel
theorem c48_61 : mc_cd 48 61 = some (.invokestatic 78, 3) := by decide +kernel
theorem c48_64 : mc_cd 48 64 = some (.lastore, 1) := by decide +kernel
theorem c48_65 : mc_cd 48 65 = some (.aload_n 0, 1) := by decide +kernel
theorem c48_66 : mc_cd 48 66 = some (.getfield 28, 3) := by decide +kernel
theorem c48_69 : mc_cd 48 69 = some (.aload_n 0, 1) := by decide +kernel
theorem c48_70 : mc_cd 48 70 = some (.getfield 49, 3) := by decide +kernel
theorem c48_73 : mc_cd 48 73 = some (.iload 4, 2) := by decide +kernel
theorem c48_75 : mc_cd 48 75 = some (.bipush 12, 2) := by decide +kernel
theorem c48_77 : mc_cd 48 77 = some (.ishr, 1) := by decide +kernel
theorem c48_78 : mc_cd 48 78 = some (.invokestatic 78, 3) := by decide +kernel
theorem c48_81 : mc_cd 48 81 = some (.lastore, 1) := by decide +kernel
theorem c48_82 : mc_cd 48 82 = some (.aload_n 0, 1) := by decide +kernel
theorem c48_83 : mc_cd 48 83 = some (.dup, 1) := by decide +kernel
theorem c48_84 : mc_cd 48 84 = some (.getfield 49, 3) := by decide +kernel
theorem c48_87 : mc_cd 48 87 = some (.iconst 1, 1) := by decide +kernel
theorem c48_88 : mc_cd 48 88 = some (.iadd, 1) := by decide +kernel
theorem c48_89 : mc_cd 48 89 = some (.putfield 49, 3) := by decide +kernel
theorem c48_92 : mc_cd 48 92 = some (.return_, 1) := by decide +kernel
abbrev q_48 (r0 : Nat) (a1 : Int) (a2 : Int) (a3 : Int) (a4 : Int) (T : wq_T) (H : wq_H) : Option Value → wq_T → wq_H → Prop := fun r T' H' => T = T' ∧ WT T H' ∧ wfr [(35, 15), (38, 999), (39, 999), (36, 999), (40, 999), (41, 999), (37, 999)] T H H' ∧ none = r
set_option maxHeartbeats 4000000 in
theorem s_48 {kt : Nat → Option mc_E} {T : wq_T} {H : wq_H} {r0 : Nat} {a1 : Int} {a2 : Int} {a3 : Int} {a4 : Int} (hW : WT T H) (g0 : T.2.2.2 r0 = some 35) (i1 : (-1) ≤ a1 ∧ a1 ≤ 24) (i2 : (-1) ≤ a2 ∧ a2 ≤ 24) (i3 : (-2147483648) ≤ a3 ∧ a3 ≤ 2147483647) (i4 : (-2147483648) ≤ a4 ∧ a4 ≤ 2147483647) : wpc kt 2 48 [.ref r0, vI a1, vI a2, vI a3, vI a4] T H (q_48 r0 a1 a2 a3 a4 T H) := by
  refine wp_enter e48 (Nat.le_of_ble_eq_true rfl) rfl ?_
  have f0 : wfr [(35, 15), (38, 999), (39, 999), (36, 999), (40, 999), (41, 999), (37, 999)] T H H := wfr.rf
  show wp _ _ 48 0 [(0, .ref r0), (1, vI a1), (2, vI a2), (3, vI a3), (4, vI a4)] [] _ H _
  refine wp_of e48 c48_0 (rw_aload_n (pc' := 1) (v := .ref r0) rfl rfl rfl ?_)
  refine wp_of e48 c48_1 (xg_I (pc' := 4) lf_8_49 hW g0 sh_35 (by decide) (by decide) ty_35_15 rfl rfl (fun b13979 b13980 => ?_))
  refine wp_of e48 c48_4 (rw_bipush (pc' := 6) (z := 40) rfl (by decide) ?_)
  refine wp_of e48 c48_6 (rw_icmp_lt (p1 := 10) (p2 := 9) (by decide) rfl ⟨by omega, by omega⟩ ⟨by omega, by omega⟩ (fun c13981 => ?_) (fun c13981 => ?_))
  · refine wp_of e48 c48_10 (rw_aload_n (pc' := 11) (v := .ref r0) rfl rfl rfl ?_)
    refine wp_of e48 c48_11 (xg_R (pc' := 14) lf_8_9 hW g0 sh_35 (by decide) (by decide) ty_35_0 rfl rfl (fun r13982 q13983 g13984 => ?_))
    refine wp_of e48 c48_14 (rw_aload_n (pc' := 15) (v := .ref r0) rfl rfl rfl ?_)
    refine wp_of e48 c48_15 (xg_I (pc' := 18) lf_8_49 hW g0 sh_35 (by decide) (by decide) ty_35_15 rfl rfl (fun b13985 b13986 => ?_))
    refine wp_of e48 c48_18 (rw_iload_n (pc' := 19) (z := a1) rfl rfl ?_)
    refine wp_of e48 c48_19 (xs_I (pc' := 20) hW g13984 (by decide) sh_36 (by decide) (ty_36 _) (by omega) (by omega) ⟨by omega, by omega⟩ (by omega) (by omega) rfl (fun H13987 e13988 w13989 => ?_))
    have f13990 := f0.put' e13988 g13984 rfl
    refine wp_of e48 c48_20 (rw_aload_n (pc' := 21) (v := .ref r0) rfl rfl rfl ?_)
    refine wp_of e48 c48_21 (xg_R (pc' := 24) lf_8_15 w13989 g0 sh_35 (by decide) (by decide) ty_35_1 rfl rfl (fun r13991 q13992 g13993 => ?_))
    refine wp_of e48 c48_24 (rw_aload_n (pc' := 25) (v := .ref r0) rfl rfl rfl ?_)
    have k13994 : H13987 r0 15 = H r0 15 := (wq_u_t e13988 g13984 g0 rfl 15)
    refine wp_of e48 c48_25 (xg_I (pc' := 28) lf_8_49 w13989 g0 sh_35 (by decide) (by decide) ty_35_15 rfl rfl (fun b13995 b13996 => ?_))
    refine wp_of e48 c48_28 (rw_iload_n (pc' := 29) (z := a2) rfl rfl ?_)
    refine wp_of e48 c48_29 (xs_I (pc' := 30) w13989 g13993 (by decide) sh_37 (by decide) (ty_37 _) (by omega) (by omega) ⟨by omega, by omega⟩ (by omega) (by omega) rfl (fun H13997 e13998 w13999 => ?_))
    have f14000 := f13990.put' e13998 g13993 rfl
    refine wp_of e48 c48_30 (rw_aload_n (pc' := 31) (v := .ref r0) rfl rfl rfl ?_)
    refine wp_of e48 c48_31 (xg_R (pc' := 34) lf_8_18 w13999 g0 sh_35 (by decide) (by decide) ty_35_2 rfl rfl (fun r14001 q14002 g14003 => ?_))
    refine wp_of e48 c48_34 (rw_aload_n (pc' := 35) (v := .ref r0) rfl rfl rfl ?_)
    have k14004 : H13997 r0 15 = H13987 r0 15 := (wq_u_t e13998 g13993 g0 rfl 15)
    refine wp_of e48 c48_35 (xg_I (pc' := 38) lf_8_49 w13999 g0 sh_35 (by decide) (by decide) ty_35_15 rfl rfl (fun b14005 b14006 => ?_))
    refine wp_of e48 c48_38 (rw_iload_n (pc' := 39) (z := a3) rfl rfl ?_)
    refine wp_of e48 c48_39 (xs_I (pc' := 40) w13999 g14003 (by decide) sh_38 (by decide) (ty_38 _) (by omega) (by omega) ⟨by omega, by omega⟩ (by omega) (by omega) rfl (fun H14007 e14008 w14009 => ?_))
    have f14010 := f14000.put' e14008 g14003 rfl
    refine wp_of e48 c48_40 (rw_aload_n (pc' := 41) (v := .ref r0) rfl rfl rfl ?_)
    refine wp_of e48 c48_41 (xg_R (pc' := 44) lf_8_21 w14009 g0 sh_35 (by decide) (by decide) ty_35_3 rfl rfl (fun r14011 q14012 g14013 => ?_))
    refine wp_of e48 c48_44 (rw_aload_n (pc' := 45) (v := .ref r0) rfl rfl rfl ?_)
    have k14014 : H14007 r0 15 = H13997 r0 15 := (wq_u_t e14008 g14003 g0 rfl 15)
    refine wp_of e48 c48_45 (xg_I (pc' := 48) lf_8_49 w14009 g0 sh_35 (by decide) (by decide) ty_35_15 rfl rfl (fun b14015 b14016 => ?_))
    refine wp_of e48 c48_48 (rw_iload (pc' := 50) (z := a4) rfl rfl ?_)
    refine wp_of e48 c48_50 (xs_I (pc' := 51) w14009 g14013 (by decide) sh_39 (by decide) (ty_39 _) (by omega) (by omega) ⟨by omega, by omega⟩ (by omega) (by omega) rfl (fun H14017 e14018 w14019 => ?_))
    have f14020 := f14010.put' e14018 g14013 rfl
    refine wp_of e48 c48_51 (rw_aload_n (pc' := 52) (v := .ref r0) rfl rfl rfl ?_)
    refine wp_of e48 c48_52 (xg_R (pc' := 55) lf_8_24 w14019 g0 sh_35 (by decide) (by decide) ty_35_4 rfl rfl (fun r14021 q14022 g14023 => ?_))
    refine wp_of e48 c48_55 (rw_aload_n (pc' := 56) (v := .ref r0) rfl rfl rfl ?_)
    have k14024 : H14017 r0 15 = H14007 r0 15 := (wq_u_t e14018 g14013 g0 rfl 15)
    refine wp_of e48 c48_56 (xg_I (pc' := 59) lf_8_49 w14019 g0 sh_35 (by decide) (by decide) ty_35_15 rfl rfl (fun b14025 b14026 => ?_))
    refine wp_of e48 c48_59 (rw_iload (pc' := 61) (z := a4) rfl rfl ?_)
    refine wp_of e48 c48_61 (xc_S (pc' := 64) (as := [vI a4]) (st := [vI (H14017 r0 15), .ref r14021]) (lm_8_78) rfl rfl (Nat.le_of_ble_eq_true rfl) rfl (by decide) (s_49 w14019 ⟨by omega, by omega⟩) (fun R14027 T14028 H14029 p14030 => ?_))
    obtain ⟨e14031, e14033, z14034, e14032, b14035⟩ := p14030
    subst e14031
    subst e14032
    subst e14033
    show wp _ _ 48 64 [(0, .ref r0), (1, vI a1), (2, vI a2), (3, vI a3), (4, vI a4)] [vL z14034, vI (H14017 r0 15), .ref r14021] _ H14017 _
    refine wp_of e48 c48_64 (xs_L (pc' := 65) w14019 g14023 (by decide) sh_40 (by decide) (ty_40 _) (by omega) (by omega) ⟨by omega, by omega⟩ (by omega) (by omega) rfl (fun H14036 e14037 w14038 => ?_))
    have f14039 := f14020.put' e14037 g14023 rfl
    refine wp_of e48 c48_65 (rw_aload_n (pc' := 66) (v := .ref r0) rfl rfl rfl ?_)
    refine wp_of e48 c48_66 (xg_R (pc' := 69) lf_8_28 w14038 g0 sh_35 (by decide) (by decide) ty_35_5 rfl rfl (fun r14040 q14041 g14042 => ?_))
    refine wp_of e48 c48_69 (rw_aload_n (pc' := 70) (v := .ref r0) rfl rfl rfl ?_)
    have k14043 : H14036 r0 15 = H14017 r0 15 := (wq_u_t e14037 g14023 g0 rfl 15)
    refine wp_of e48 c48_70 (xg_I (pc' := 73) lf_8_49 w14038 g0 sh_35 (by decide) (by decide) ty_35_15 rfl rfl (fun b14044 b14045 => ?_))
    refine wp_of e48 c48_73 (rw_iload (pc' := 75) (z := a4) rfl rfl ?_)
    refine wp_of e48 c48_75 (rw_bipush (pc' := 77) (z := 12) rfl (by decide) ?_)
    refine wp_of e48 c48_77 (rw_ishr (pc' := 78) rfl ?_)
    obtain ⟨v14046, e14047⟩ : ∃ x : Int, x = wq_shr a4 12 := ⟨_, rfl⟩
    rw [← e14047]
    have b14048 : -2147483648 ≤ v14046 ∧ v14046 ≤ 2147483647 := by
      rw [e14047]
      exact wI_shr _ _
    refine wp_of e48 c48_78 (xc_S (pc' := 81) (as := [vI v14046]) (st := [vI (H14036 r0 15), .ref r14040]) (lm_8_78) rfl rfl (Nat.le_of_ble_eq_true rfl) rfl (by decide) (s_49 w14038 ⟨by omega, by omega⟩) (fun R14049 T14050 H14051 p14052 => ?_))
    obtain ⟨e14053, e14055, z14056, e14054, b14057⟩ := p14052
    subst e14053
    subst e14054
    subst e14055
    show wp _ _ 48 81 [(0, .ref r0), (1, vI a1), (2, vI a2), (3, vI a3), (4, vI a4)] [vL z14056, vI (H14036 r0 15), .ref r14040] _ H14036 _
    refine wp_of e48 c48_81 (xs_L (pc' := 82) w14038 g14042 (by decide) sh_41 (by decide) (ty_41 _) (by omega) (by omega) ⟨by omega, by omega⟩ (by omega) (by omega) rfl (fun H14058 e14059 w14060 => ?_))
    have f14061 := f14039.put' e14059 g14042 rfl
    refine wp_of e48 c48_82 (rw_aload_n (pc' := 83) (v := .ref r0) rfl rfl rfl ?_)
    refine wp_of e48 c48_83 (rw_dup (pc' := 84) rfl rfl ?_)
    have k14062 : H14058 r0 15 = H14036 r0 15 := (wq_u_t e14059 g14042 g0 rfl 15)
    refine wp_of e48 c48_84 (xg_I (pc' := 87) lf_8_49 w14060 g0 sh_35 (by decide) (by decide) ty_35_15 rfl rfl (fun b14063 b14064 => ?_))
    refine wp_of e48 c48_87 (rw_iconst (pc' := 88) rfl ?_)
    refine wp_of e48 c48_88 (rw_iadd (pc' := 89) rfl ?_)
    refine wp_of e48 c48_89 (xp_I (pc' := 92) lf_8_49 w14060 g0 sh_35 (by decide) (by decide) ty_35_15 rfl rfl (by omega) (by omega) ⟨by omega, by omega⟩ rfl (fun H14065 e14066 w14067 => ?_))
    have f14068 := f14061.put' e14066 g0 rfl
    have k14069 : H14065 r0 15 = (H14058 r0 15) + 1 := wq_u_s e14066
    exact wp_return e48 c48_92 rfl ⟨rfl, w14067, f14068, rfl⟩
  · exact wp_return e48 c48_9 rfl ⟨rfl, hW, f0, rfl⟩
/-! StrikeAwake$Person.makeSpans(II)V -/
theorem e47 : wq_en 47 = some (8, 6, false, none) := rfl
theorem c47_0 : mc_cd 47 0 = some (.aload_n 0, 1) := by decide +kernel
theorem c47_1 : mc_cd 47 1 = some (.getfield 42, 3) := by decide +kernel
theorem c47_4 : mc_cd 47 4 = some (.ifCond .eq 12, 3) := by decide +kernel
theorem c47_7 : mc_cd 47 7 = some (.aload_n 0, 1) := by decide +kernel
theorem c47_8 : mc_cd 47 8 = some (.iconst 0, 1) := by decide +kernel
theorem c47_9 : mc_cd 47 9 = some (.iconst 0, 1) := by decide +kernel
theorem c47_10 : mc_cd 47 10 = some (.iconst 0, 1) := by decide +kernel
theorem c47_11 : mc_cd 47 11 = some (.iconst 0, 1) := by decide +kernel
theorem c47_12 : mc_cd 47 12 = some (.invokevirtual 58, 3) := by decide +kernel
theorem c47_15 : mc_cd 47 15 = some (.return_, 1) := by decide +kernel
theorem c47_16 : mc_cd 47 16 = some (.aload_n 0, 1) := by decide +kernel
theorem c47_17 : mc_cd 47 17 = some (.getfield 62, 3) := by decide +kernel
theorem c47_20 : mc_cd 47 20 = some (.istore_n 3, 1) := by decide +kernel
theorem c47_21 : mc_cd 47 21 = some (.iload_n 3, 1) := by decide +kernel
theorem c47_22 : mc_cd 47 22 = some (.aload_n 0, 1) := by decide +kernel
theorem c47_23 : mc_cd 47 23 = some (.getfield 65, 3) := by decide +kernel
theorem c47_26 : mc_cd 47 26 = some (.if_icmp .gt 69, 3) := by decide +kernel
theorem c47_29 : mc_cd 47 29 = some (.aload_n 0, 1) := by decide +kernel
theorem c47_30 : mc_cd 47 30 = some (.getfield 68, 3) := by decide +kernel
theorem c47_33 : mc_cd 47 33 = some (.istore 4, 2) := by decide +kernel
theorem c47_35 : mc_cd 47 35 = some (.iload 4, 2) := by decide +kernel
theorem c47_37 : mc_cd 47 37 = some (.aload_n 0, 1) := by decide +kernel
theorem c47_38 : mc_cd 47 38 = some (.getfield 71, 3) := by decide +kernel
theorem c47_41 : mc_cd 47 41 = some (.if_icmp .gt 48, 3) := by decide +kernel
theorem c47_44 : mc_cd 47 44 = some (.iload_n 3, 1) := by decide +kernel
theorem c47_45 : mc_cd 47 45 = some (.iload_n 3, 1) := by decide +kernel
theorem c47_46 : mc_cd 47 46 = some (.iload 4, 2) := by decide +kernel
theorem c47_48 : mc_cd 47 48 = some (.iadd, 1) := by decide +kernel
theorem c47_49 : mc_cd 47 49 = some (.invokestatic 74, 3) := by decide +kernel
theorem c47_52 : mc_cd 47 52 = some (.aload_n 0, 1) := by decide +kernel
theorem c47_53 : mc_cd 47 53 = some (.getfield 39, 3) := by decide +kernel
theorem c47_56 : mc_cd 47 56 = some (.ior, 1) := by decide +kernel
theorem c47_57 : mc_cd 47 57 = some (.iload_n 1, 1) := by decide +kernel
theorem c47_58 : mc_cd 47 58 = some (.iand, 1) := by decide +kernel
theorem c47_59 : mc_cd 47 59 = some (.istore 5, 2) := by decide +kernel
theorem c47_61 : mc_cd 47 61 = some (.iload 5, 2) := by decide +kernel
theorem c47_63 : mc_cd 47 63 = some (.iload_n 2, 1) := by decide +kernel
theorem c47_64 : mc_cd 47 64 = some (.iand, 1) := by decide +kernel
theorem c47_65 : mc_cd 47 65 = some (.ifCond .ne 18, 3) := by decide +kernel
theorem c47_68 : mc_cd 47 68 = some (.aload_n 0, 1) := by decide +kernel
theorem c47_69 : mc_cd 47 69 = some (.iload_n 3, 1) := by decide +kernel
theorem c47_70 : mc_cd 47 70 = some (.iload 4, 2) := by decide +kernel
theorem c47_72 : mc_cd 47 72 = some (.iload 5, 2) := by decide +kernel
theorem c47_74 : mc_cd 47 74 = some (.iload_n 1, 1) := by decide +kernel
theorem c47_75 : mc_cd 47 75 = some (.iload 5, 2) := by decide +kernel
theorem c47_77 : mc_cd 47 77 = some (.iconst (-1), 1) := by decide +kernel
theorem c47_78 : mc_cd 47 78 = some (.ixor, 1) := by decide +kernel
theorem c47_79 : mc_cd 47 79 = some (.iand, 1) := by decide +kernel
theorem c47_80 : mc_cd 47 80 = some (.invokevirtual 58, 3) := by decide +kernel
theorem c47_83 : mc_cd 47 83 = some (.iinc 4 1, 3) := by decide +kernel
theorem c47_86 : mc_cd 47 86 = some (.goto (-51), 3) := by decide +kernel
theorem c47_89 : mc_cd 47 89 = some (.iinc 3 1, 3) := by decide +kernel
theorem c47_92 : mc_cd 47 92 = some (.goto (-71), 3) := by decide +kernel
theorem c47_95 : mc_cd 47 95 = some (.return_, 1) := by decide +kernel
abbrev q_47 (r0 : Nat) (a1 : Int) (a2 : Int) (T : wq_T) (H : wq_H) : Option Value → wq_T → wq_H → Prop := fun r T' H' => T = T' ∧ WT T H' ∧ wfr [(35, 15), (38, 999), (39, 999), (36, 999), (40, 999), (41, 999), (37, 999)] T H H' ∧ none = r
set_option maxHeartbeats 4000000 in
theorem s_47 {kt : Nat → Option mc_E} {T : wq_T} {H : wq_H} {r0 : Nat} {a1 : Int} {a2 : Int} (hW : WT T H) (g0 : T.2.2.2 r0 = some 35) (i1 : (-2147483648) ≤ a1 ∧ a1 ≤ 2147483647) (i2 : (-2147483648) ≤ a2 ∧ a2 ≤ 2147483647) : wpc kt 3 47 [.ref r0, vI a1, vI a2] T H (q_47 r0 a1 a2 T H) := by
  refine wp_enter e47 (Nat.le_of_ble_eq_true rfl) rfl ?_
  have f0 : wfr [(35, 15), (38, 999), (39, 999), (36, 999), (40, 999), (41, 999), (37, 999)] T H H := wfr.rf
  show wp _ _ 47 0 [(0, .ref r0), (1, vI a1), (2, vI a2)] [] _ H _
  refine wp_of e47 c47_0 (rw_aload_n (pc' := 1) (v := .ref r0) rfl rfl rfl ?_)
  refine wp_of e47 c47_1 (xg_I (pc' := 4) lf_8_42 hW g0 sh_35 (by decide) (by decide) ty_35_13 rfl rfl (fun b14409 b14410 => ?_))
  refine wp_of e47 c47_4 (rw_if_eq (p1 := 16) (p2 := 7) (by decide) rfl ⟨by omega, by omega⟩ (fun c14411 => ?_) (fun c14411 => ?_))
  · refine wp_of e47 c47_16 (rw_aload_n (pc' := 17) (v := .ref r0) rfl rfl rfl ?_)
    refine wp_of e47 c47_17 (xg_I (pc' := 20) lf_8_62 hW g0 sh_35 (by decide) (by decide) ty_35_7 rfl rfl (fun b14412 b14413 => ?_))
    refine wp_of e47 c47_20 (rw_istore_n (pc' := 21) (z := H r0 7) (L' := [(3, vI (H r0 7)), (0, .ref r0), (1, vI a1), (2, vI a2)]) rfl rfl rfl ?_)
    have lp14630 : ∀ (n14631 : Nat) (v14633 : Int) (H14634 : wq_H), WT T H14634 → wfr [(35, 15), (38, 999), (39, 999), (36, 999), (40, 999), (41, 999), (37, 999)] T H H14634 → ((-1) ≤ v14633 ∧ v14633 ≤ 25) → (25 - v14633).toNat = n14631 → wp kt 2 47 21 [(3, vI v14633), (0, .ref r0), (1, vI a1), (2, vI a2)] [] T H14634 (q_47 r0 a1 a2 T H) := by
      intro n14631
      induction n14631 using Nat.strongRecOn with
      | _ n14631 ih14632 =>
        intro v14633 H14634 w14635 f14636 b14637 m14638
        have f14639 := f0.tr f14636 rfl
        refine wp_of e47 c47_21 (rw_iload_n (pc' := 22) (z := v14633) rfl rfl ?_)
        refine wp_of e47 c47_22 (rw_aload_n (pc' := 23) (v := .ref r0) rfl rfl rfl ?_)
        refine wp_of e47 c47_23 (xg_I (pc' := 26) lf_8_65 w14635 g0 sh_35 (by decide) (by decide) ty_35_8 rfl rfl (fun b14640 b14641 => ?_))
        refine wp_of e47 c47_26 (rw_icmp_gt (p1 := 95) (p2 := 29) (by decide) rfl ⟨by omega, by omega⟩ ⟨by omega, by omega⟩ (fun c14642 => ?_) (fun c14642 => ?_))
        · exact wp_return e47 c47_95 rfl ⟨rfl, w14635, f14639, rfl⟩
        · refine wp_of e47 c47_29 (rw_aload_n (pc' := 30) (v := .ref r0) rfl rfl rfl ?_)
          refine wp_of e47 c47_30 (xg_I (pc' := 33) lf_8_68 w14635 g0 sh_35 (by decide) (by decide) ty_35_9 rfl rfl (fun b14643 b14644 => ?_))
          refine wp_of e47 c47_33 (rw_istore (pc' := 35) (z := H14634 r0 9) (L' := [(4, vI (H14634 r0 9)), (3, vI v14633), (0, .ref r0), (1, vI a1), (2, vI a2)]) rfl rfl rfl ?_)
          have lp14715 : ∀ (n14716 : Nat) (v14718 : Int) (H14719 : wq_H), WT T H14719 → wfr [(35, 15), (38, 999), (39, 999), (36, 999), (40, 999), (41, 999), (37, 999)] T H14634 H14719 → ((-1) ≤ v14718 ∧ v14718 ≤ 25) → (25 - v14718).toNat = n14716 → wp kt 2 47 35 [(4, vI v14718), (3, vI v14633), (0, .ref r0), (1, vI a1), (2, vI a2)] [] T H14719 (q_47 r0 a1 a2 T H) := by
            intro n14716
            induction n14716 using Nat.strongRecOn with
            | _ n14716 ih14717 =>
              intro v14718 H14719 w14720 f14721 b14722 m14723
              have f14724 := f14639.tr f14721 rfl
              have f14725 := f14636.tr f14721 rfl
              refine wp_of e47 c47_35 (rw_iload (pc' := 37) (z := v14718) rfl rfl ?_)
              refine wp_of e47 c47_37 (rw_aload_n (pc' := 38) (v := .ref r0) rfl rfl rfl ?_)
              refine wp_of e47 c47_38 (xg_I (pc' := 41) lf_8_71 w14720 g0 sh_35 (by decide) (by decide) ty_35_10 rfl rfl (fun b14726 b14727 => ?_))
              refine wp_of e47 c47_41 (rw_icmp_gt (p1 := 89) (p2 := 44) (by decide) rfl ⟨by omega, by omega⟩ ⟨by omega, by omega⟩ (fun c14728 => ?_) (fun c14728 => ?_))
              · refine wp_of e47 c47_89 (rw_iinc (pc' := 92) (z := v14633) (L' := [(3, vI (v14633 + 1)), (4, vI v14718), (0, .ref r0), (1, vI a1), (2, vI a2)]) rfl rfl rfl rfl ?_)
                refine wp_of e47 c47_92 (rw_goto (p1 := 21) (by decide) ?_)
                exact wp_lc (ks := [3, 4, 0, 1, 2]) (wl_c rfl (wl_c rfl (wl_c rfl (wl_c rfl wl_n)))) rfl (by decide) (ih14632 _ (by omega) (v14633 + 1) H14719 w14720 f14725 ⟨by omega, by omega⟩ rfl)
              · refine wp_of e47 c47_44 (rw_iload_n (pc' := 45) (z := v14633) rfl rfl ?_)
                refine wp_of e47 c47_45 (rw_iload_n (pc' := 46) (z := v14633) rfl rfl ?_)
                refine wp_of e47 c47_46 (rw_iload (pc' := 48) (z := v14718) rfl rfl ?_)
                refine wp_of e47 c47_48 (rw_iadd (pc' := 49) rfl ?_)
                refine wp_of e47 c47_49 (xc_S (pc' := 52) (as := [vI v14633, vI (v14633 + v14718)]) (st := []) (lm_8_74) rfl rfl (Nat.le_of_ble_eq_true rfl) rfl (by decide) (s_31 w14720 ⟨by omega, by omega⟩ ⟨by omega, by omega⟩) (fun R14729 T14730 H14731 p14732 => ?_))
                obtain ⟨e14733, e14735, z14736, e14734, b14737⟩ := p14732
                subst e14733
                subst e14734
                subst e14735
                show wp _ _ 47 52 [(4, vI v14718), (3, vI v14633), (0, .ref r0), (1, vI a1), (2, vI a2)] [vI z14736] _ H14719 _
                refine wp_of e47 c47_52 (rw_aload_n (pc' := 53) (v := .ref r0) rfl rfl rfl ?_)
                refine wp_of e47 c47_53 (xg_I (pc' := 56) lf_8_39 w14720 g0 sh_35 (by decide) (by decide) ty_35_12 rfl rfl (fun b14738 b14739 => ?_))
                refine wp_of e47 c47_56 (rw_ior (pc' := 57) rfl ?_)
                obtain ⟨v14740, e14741⟩ : ∃ x : Int, x = wq_or z14736 (H14719 r0 12) := ⟨_, rfl⟩
                rw [← e14741]
                have b14742 : -2147483648 ≤ v14740 ∧ v14740 ≤ 2147483647 := by
                  rw [e14741]
                  exact wI_or _ _
                refine wp_of e47 c47_57 (rw_iload_n (pc' := 58) (z := a1) rfl rfl ?_)
                refine wp_of e47 c47_58 (rw_iand (pc' := 59) rfl ?_)
                obtain ⟨v14743, e14744⟩ : ∃ x : Int, x = wq_and v14740 a1 := ⟨_, rfl⟩
                rw [← e14744]
                have b14745 : -2147483648 ≤ v14743 ∧ v14743 ≤ 2147483647 := by
                  rw [e14744]
                  exact wI_and _ _
                refine wp_of e47 c47_59 (rw_istore (pc' := 61) (z := v14743) (L' := [(5, vI v14743), (4, vI v14718), (3, vI v14633), (0, .ref r0), (1, vI a1), (2, vI a2)]) rfl rfl rfl ?_)
                refine wp_of e47 c47_61 (rw_iload (pc' := 63) (z := v14743) rfl rfl ?_)
                refine wp_of e47 c47_63 (rw_iload_n (pc' := 64) (z := a2) rfl rfl ?_)
                refine wp_of e47 c47_64 (rw_iand (pc' := 65) rfl ?_)
                obtain ⟨v14746, e14747⟩ : ∃ x : Int, x = wq_and v14743 a2 := ⟨_, rfl⟩
                rw [← e14747]
                have b14748 : -2147483648 ≤ v14746 ∧ v14746 ≤ 2147483647 := by
                  rw [e14747]
                  exact wI_and _ _
                refine wp_of e47 c47_65 (rw_if_ne (p1 := 83) (p2 := 68) (by decide) rfl ⟨by omega, by omega⟩ (fun c14749 => ?_) (fun c14749 => ?_))
                · refine wp_of e47 c47_83 (rw_iinc (pc' := 86) (z := v14718) (L' := [(4, vI (v14718 + 1)), (5, vI v14743), (3, vI v14633), (0, .ref r0), (1, vI a1), (2, vI a2)]) rfl rfl rfl rfl ?_)
                  refine wp_of e47 c47_86 (rw_goto (p1 := 35) (by decide) ?_)
                  exact wp_lc (ks := [4, 5, 3, 0, 1, 2]) (wl_c rfl (wl_c rfl (wl_c rfl (wl_c rfl (wl_c rfl wl_n))))) rfl (by decide) (ih14717 _ (by omega) (v14718 + 1) H14719 w14720 f14721 ⟨by omega, by omega⟩ rfl)
                · refine wp_of e47 c47_68 (rw_aload_n (pc' := 69) (v := .ref r0) rfl rfl rfl ?_)
                  refine wp_of e47 c47_69 (rw_iload_n (pc' := 70) (z := v14633) rfl rfl ?_)
                  refine wp_of e47 c47_70 (rw_iload (pc' := 72) (z := v14718) rfl rfl ?_)
                  refine wp_of e47 c47_72 (rw_iload (pc' := 74) (z := v14743) rfl rfl ?_)
                  refine wp_of e47 c47_74 (rw_iload_n (pc' := 75) (z := a1) rfl rfl ?_)
                  refine wp_of e47 c47_75 (rw_iload (pc' := 77) (z := v14743) rfl rfl ?_)
                  refine wp_of e47 c47_77 (rw_iconst (pc' := 78) rfl ?_)
                  refine wp_of e47 c47_78 (rw_ixor (pc' := 79) rfl ?_)
                  obtain ⟨v14750, e14751⟩ : ∃ x : Int, x = wq_xor v14743 (-1) := ⟨_, rfl⟩
                  rw [← e14751]
                  have b14752 : -2147483648 ≤ v14750 ∧ v14750 ≤ 2147483647 := by
                    rw [e14751]
                    exact wI_xor _ _
                  refine wp_of e47 c47_79 (rw_iand (pc' := 80) rfl ?_)
                  obtain ⟨v14753, e14754⟩ : ∃ x : Int, x = wq_and a1 v14750 := ⟨_, rfl⟩
                  rw [← e14754]
                  have b14755 : -2147483648 ≤ v14753 ∧ v14753 ≤ 2147483647 := by
                    rw [e14754]
                    exact wI_and _ _
                  refine wp_of e47 c47_80 (xc_V (pc' := 83) (r := r0) (as := [vI v14633, vI v14718, vI v14743, vI v14753]) (st := []) (lm_8_58) rfl rfl (Nat.le_of_ble_eq_true rfl) w14720 g0 sh_35 (by decide) rfl (by decide) (s_48 w14720 g0 ⟨by omega, by omega⟩ ⟨by omega, by omega⟩ ⟨by omega, by omega⟩ ⟨by omega, by omega⟩) (fun R14756 T14757 H14758 p14759 => ?_))
                  obtain ⟨e14760, w14762, f14763, e14761⟩ := p14759
                  subst e14760
                  subst e14761
                  have f14764 := f14724.tr f14763 rfl
                  have f14765 := f14725.tr f14763 rfl
                  have f14766 := f14721.tr f14763 rfl
                  show wp _ _ 47 83 [(5, vI v14743), (4, vI v14718), (3, vI v14633), (0, .ref r0), (1, vI a1), (2, vI a2)] [] _ H14758 _
                  refine wp_of e47 c47_83 (rw_iinc (pc' := 86) (z := v14718) (L' := [(4, vI (v14718 + 1)), (5, vI v14743), (3, vI v14633), (0, .ref r0), (1, vI a1), (2, vI a2)]) rfl rfl rfl rfl ?_)
                  refine wp_of e47 c47_86 (rw_goto (p1 := 35) (by decide) ?_)
                  exact wp_lc (ks := [4, 5, 3, 0, 1, 2]) (wl_c rfl (wl_c rfl (wl_c rfl (wl_c rfl (wl_c rfl wl_n))))) rfl (by decide) (ih14717 _ (by omega) (v14718 + 1) H14758 w14762 f14766 ⟨by omega, by omega⟩ rfl)
          exact wp_lc (ks := [4, 3, 0, 1, 2]) (wl_c rfl (wl_c rfl (wl_c rfl (wl_c rfl (wl_c rfl wl_n))))) rfl (by decide) (lp14715 _ (H14634 r0 9) H14634 w14635 wfr.rf ⟨by omega, by omega⟩ rfl)
    exact wp_lc (ks := [3, 0, 1, 2]) (wl_c rfl (wl_c rfl (wl_c rfl (wl_c rfl wl_n)))) rfl (by decide) (lp14630 _ (H r0 7) H hW wfr.rf ⟨by omega, by omega⟩ rfl)
  · refine wp_of e47 c47_7 (rw_aload_n (pc' := 8) (v := .ref r0) rfl rfl rfl ?_)
    refine wp_of e47 c47_8 (rw_iconst (pc' := 9) rfl ?_)
    refine wp_of e47 c47_9 (rw_iconst (pc' := 10) rfl ?_)
    refine wp_of e47 c47_10 (rw_iconst (pc' := 11) rfl ?_)
    refine wp_of e47 c47_11 (rw_iconst (pc' := 12) rfl ?_)
    refine wp_of e47 c47_12 (xc_V (pc' := 15) (r := r0) (as := [vI 0, vI 0, vI 0, vI 0]) (st := []) (lm_8_58) rfl rfl (Nat.le_of_ble_eq_true rfl) hW g0 sh_35 (by decide) rfl (by decide) (s_48 hW g0 ⟨by omega, by omega⟩ ⟨by omega, by omega⟩ ⟨by omega, by omega⟩ ⟨by omega, by omega⟩) (fun R14767 T14768 H14769 p14770 => ?_))
    obtain ⟨e14771, w14773, f14774, e14772⟩ := p14770
    subst e14771
    subst e14772
    have f14775 := f0.tr f14774 rfl
    show wp _ _ 47 15 [(0, .ref r0), (1, vI a1), (2, vI a2)] [] _ H14769 _
    exact wp_return e47 c47_15 rfl ⟨rfl, w14773, f14775, rfl⟩
/-! StrikeAwake$Parish.settle()V -/
theorem e44 : wq_en 44 = some (7, 3, false, none) := rfl
theorem c44_0 : mc_cd 44 0 = some (.aload_n 0, 1) := by decide +kernel
theorem c44_1 : mc_cd 44 1 = some (.invokevirtual 96, 3) := by decide +kernel
theorem c44_4 : mc_cd 44 4 = some (.istore_n 1, 1) := by decide +kernel
theorem c44_5 : mc_cd 44 5 = some (.aload_n 0, 1) := by decide +kernel
theorem c44_6 : mc_cd 44 6 = some (.getfield 41, 3) := by decide +kernel
theorem c44_9 : mc_cd 44 9 = some (.istore_n 2, 1) := by decide +kernel
theorem c44_10 : mc_cd 44 10 = some (.iload_n 2, 1) := by decide +kernel
theorem c44_11 : mc_cd 44 11 = some (.bipush 24, 2) := by decide +kernel
theorem c44_13 : mc_cd 44 13 = some (.if_icmp .ge 17, 3) := by decide +kernel
theorem c44_16 : mc_cd 44 16 = some (.aload_n 0, 1) := by decide +kernel
theorem c44_17 : mc_cd 44 17 = some (.getfield 17, 3) := by decide +kernel
theorem c44_20 : mc_cd 44 20 = some (.iload_n 2, 1) := by decide +kernel
theorem c44_21 : mc_cd 44 21 = some (.bipush (-2), 2) := by decide +kernel
theorem c44_23 : mc_cd 44 23 = some (.iastore, 1) := by decide +kernel
theorem c44_24 : mc_cd 44 24 = some (.iinc 2 1, 3) := by decide +kernel
theorem c44_27 : mc_cd 44 27 = some (.goto (-17), 3) := by decide +kernel
theorem c44_30 : mc_cd 44 30 = some (.aload_n 0, 1) := by decide +kernel
theorem c44_31 : mc_cd 44 31 = some (.invokevirtual 89, 3) := by decide +kernel
theorem c44_34 : mc_cd 44 34 = some (.iconst 0, 1) := by decide +kernel
theorem c44_35 : mc_cd 44 35 = some (.istore_n 2, 1) := by decide +kernel
theorem c44_36 : mc_cd 44 36 = some (.iload_n 2, 1) := by decide +kernel
theorem c44_37 : mc_cd 44 37 = some (.aload_n 0, 1) := by decide +kernel
theorem c44_38 : mc_cd 44 38 = some (.getfield 59, 3) := by decide +kernel
theorem c44_41 : mc_cd 44 41 = some (.if_icmp .ge 19, 3) := by decide +kernel
theorem c44_44 : mc_cd 44 44 = some (.aload_n 0, 1) := by decide +kernel
theorem c44_45 : mc_cd 44 45 = some (.getfield 30, 3) := by decide +kernel
theorem c44_48 : mc_cd 44 48 = some (.iload_n 2, 1) := by decide +kernel
theorem c44_49 : mc_cd 44 49 = some (.dup2, 1) := by decide +kernel
theorem c44_50 : mc_cd 44 50 = some (.iaload, 1) := by decide +kernel
theorem c44_51 : mc_cd 44 51 = some (.iload_n 1, 1) := by decide +kernel
theorem c44_52 : mc_cd 44 52 = some (.iand, 1) := by decide +kernel
theorem c44_53 : mc_cd 44 53 = some (.iastore, 1) := by decide +kernel
theorem c44_54 : mc_cd 44 54 = some (.iinc 2 1, 3) := by decide +kernel
theorem c44_57 : mc_cd 44 57 = some (.goto (-21), 3) := by decide +kernel
theorem c44_60 : mc_cd 44 60 = some (.iconst 0, 1) := by decide +kernel
theorem c44_61 : mc_cd 44 61 = some (.istore_n 2, 1) := by decide +kernel
theorem c44_62 : mc_cd 44 62 = some (.iload_n 2, 1) := by decide +kernel
theorem c44_63 : mc_cd 44 63 = some (.aload_n 0, 1) := by decide +kernel
theorem c44_64 : mc_cd 44 64 = some (.getfield 62, 3) := by decide +kernel
theorem c44_67 : mc_cd 44 67 = some (.if_icmp .ge 19, 3) := by decide +kernel
theorem c44_70 : mc_cd 44 70 = some (.aload_n 0, 1) := by decide +kernel
theorem c44_71 : mc_cd 44 71 = some (.getfield 33, 3) := by decide +kernel
theorem c44_74 : mc_cd 44 74 = some (.iload_n 2, 1) := by decide +kernel
theorem c44_75 : mc_cd 44 75 = some (.dup2, 1) := by decide +kernel
theorem c44_76 : mc_cd 44 76 = some (.iaload, 1) := by decide +kernel
theorem c44_77 : mc_cd 44 77 = some (.iload_n 1, 1) := by decide +kernel
theorem c44_78 : mc_cd 44 78 = some (.iand, 1) := by decide +kernel
theorem c44_79 : mc_cd 44 79 = some (.iastore, 1) := by decide +kernel
theorem c44_80 : mc_cd 44 80 = some (.iinc 2 1, 3) := by decide +kernel
theorem c44_83 : mc_cd 44 83 = some (.goto (-21), 3) := by decide +kernel
theorem c44_86 : mc_cd 44 86 = some (.aload_n 0, 1) := by decide +kernel
theorem c44_87 : mc_cd 44 87 = some (.lconst 1, 1) := by decide +kernel
theorem c44_88 : mc_cd 44 88 = some (.putfield 71, 3) := by decide +kernel
theorem c44_91 : mc_cd 44 91 = some (.aload_n 0, 1) := by decide +kernel
theorem c44_92 : mc_cd 44 92 = some (.getfield 50, 3) := by decide +kernel
theorem c44_95 : mc_cd 44 95 = some (.iconst 1, 1) := by decide +kernel
theorem c44_96 : mc_cd 44 96 = some (.isub, 1) := by decide +kernel
theorem c44_97 : mc_cd 44 97 = some (.istore_n 2, 1) := by decide +kernel
theorem c44_98 : mc_cd 44 98 = some (.iload_n 2, 1) := by decide +kernel
theorem c44_99 : mc_cd 44 99 = some (.ifCond .lt 70, 3) := by decide +kernel
theorem c44_102 : mc_cd 44 102 = some (.aload_n 0, 1) := by decide +kernel
theorem c44_103 : mc_cd 44 103 = some (.getfield 11, 3) := by decide +kernel
theorem c44_106 : mc_cd 44 106 = some (.iload_n 2, 1) := by decide +kernel
theorem c44_107 : mc_cd 44 107 = some (.aaload, 1) := by decide +kernel
theorem c44_108 : mc_cd 44 108 = some (.iload_n 1, 1) := by decide +kernel
theorem c44_109 : mc_cd 44 109 = some (.iload_n 2, 1) := by decide +kernel
theorem c44_110 : mc_cd 44 110 = some (.aload_n 0, 1) := by decide +kernel
theorem c44_111 : mc_cd 44 111 = some (.getfield 37, 3) := by decide +kernel
theorem c44_114 : mc_cd 44 114 = some (.if_icmp .ne 12, 3) := by decide +kernel
theorem c44_117 : mc_cd 44 117 = some (.aload_n 0, 1) := by decide +kernel
theorem c44_118 : mc_cd 44 118 = some (.bipush 99, 2) := by decide +kernel
theorem c44_120 : mc_cd 44 120 = some (.invokevirtual 99, 3) := by decide +kernel
theorem c44_123 : mc_cd 44 123 = some (.goto 4, 3) := by decide +kernel
theorem c44_126 : mc_cd 44 126 = some (.iconst 0, 1) := by decide +kernel
theorem c44_127 : mc_cd 44 127 = some (.invokevirtual 103, 3) := by decide +kernel
theorem c44_130 : mc_cd 44 130 = some (.aload_n 0, 1) := by decide +kernel
theorem c44_131 : mc_cd 44 131 = some (.getfield 11, 3) := by decide +kernel
theorem c44_134 : mc_cd 44 134 = some (.iload_n 2, 1) := by decide +kernel
theorem c44_135 : mc_cd 44 135 = some (.aaload, 1) := by decide +kernel
theorem c44_136 : mc_cd 44 136 = some (.aload_n 0, 1) := by decide +kernel
theorem c44_137 : mc_cd 44 137 = some (.getfield 71, 3) := by decide +kernel
theorem c44_140 : mc_cd 44 140 = some (.l2i, 1) := by decide +kernel
theorem c44_141 : mc_cd 44 141 = some (.putfield 107, 3) := by decide +kernel
theorem c44_144 : mc_cd 44 144 = some (.aload_n 0, 1) := by decide +kernel
theorem c44_145 : mc_cd 44 145 = some (.dup, 1) := by decide +kernel
theorem c44_146 : mc_cd 44 146 = some (.getfield 71, 3) := by decide +kernel
theorem c44_149 : mc_cd 44 149 = some (.aload_n 0, 1) := by decide +kernel
theorem c44_150 : mc_cd 44 150 = some (.getfield 11, 3) := by decide +kernel
theorem c44_153 : mc_cd 44 153 = some (.iload_n 2, 1) := by decide +kernel
theorem c44_154 : mc_cd 44 154 = some (.aaload, 1) := by decide +kernel
theorem c44_155 : mc_cd 44 155 = some (.getfield 110, 3) := by decide +kernel
theorem c44_158 : mc_cd 44 158 = some (.i2l, 1) := by decide +kernel
theorem c44_159 : mc_cd 44 159 = some (.lmul, 1) := by decide +kernel
theorem c44_160 : mc_cd 44 160 = some (.putfield 71, 3) := by decide +kernel
theorem c44_163 : mc_cd 44 163 = some (.iinc 2 (-1), 3) := by decide +kernel
theorem c44_166 : mc_cd 44 166 = some (.goto (-68), 3) := by decide +kernel
theorem c44_169 : mc_cd 44 169 = some (.return_, 1) := by decide +kernel
abbrev q_44 (r0 : Nat) (T : wq_T) (H : wq_H) : Option Value → wq_T → wq_H → Prop := fun r T' H' => T = T' ∧ WT T H' ∧ wfr [(27, 16), (27, 18), (35, 15), (35, 17), (38, 999), (39, 999), (36, 999), (40, 999), (41, 999), (34, 999), (37, 999), (29, 999), (30, 999), (33, 999)] T H H' ∧ none = r
set_option maxHeartbeats 4000000 in
theorem s_44 {kt : Nat → Option mc_E} {T : wq_T} {H : wq_H} {r0 : Nat} (hW : WT T H) (g0 : T.2.2.2 r0 = some 27) : wpc kt 4 44 [.ref r0] T H (q_44 r0 T H) := by
  refine wp_enter e44 (Nat.le_of_ble_eq_true rfl) rfl ?_
  have f0 : wfr [(27, 16), (27, 18), (35, 15), (35, 17), (38, 999), (39, 999), (36, 999), (40, 999), (41, 999), (34, 999), (37, 999), (29, 999), (30, 999), (33, 999)] T H H := wfr.rf
  show wp _ _ 44 0 [(0, .ref r0)] [] _ H _
  refine wp_of e44 c44_0 (rw_aload_n (pc' := 1) (v := .ref r0) rfl rfl rfl ?_)
  refine wp_of e44 c44_1 (xc_V (pc' := 4) (r := r0) (as := []) (st := []) (lm_7_96) rfl rfl (Nat.le_of_ble_eq_true rfl) hW g0 sh_27 (by decide) rfl (by decide) (s_45 hW g0) (fun R15314 T15315 H15316 p15317 => ?_))
  obtain ⟨e15318, e15320, z15321, e15319, b15322⟩ := p15317
  subst e15318
  subst e15319
  subst e15320
  show wp _ _ 44 4 [(0, .ref r0)] [vI z15321] _ H _
  refine wp_of e44 c44_4 (rw_istore_n (pc' := 5) (z := z15321) (L' := [(1, vI z15321), (0, .ref r0)]) rfl rfl rfl ?_)
  refine wp_of e44 c44_5 (rw_aload_n (pc' := 6) (v := .ref r0) rfl rfl rfl ?_)
  refine wp_of e44 c44_6 (xg_I (pc' := 9) lf_7_41 hW g0 sh_27 (by decide) (by decide) ty_27_7 rfl rfl (fun b15323 b15324 => ?_))
  refine wp_of e44 c44_9 (rw_istore_n (pc' := 10) (z := H r0 7) (L' := [(2, vI (H r0 7)), (1, vI z15321), (0, .ref r0)]) rfl rfl rfl ?_)
  have lp15341 : ∀ (n15342 : Nat) (v15344 : Int) (H15345 : wq_H), WT T H15345 → wfr [(29, 999)] T H H15345 → (0 ≤ v15344 ∧ v15344 ≤ 24) → (24 - v15344).toNat = n15342 → wp kt 3 44 10 [(2, vI v15344), (1, vI z15321), (0, .ref r0)] [] T H15345 (q_44 r0 T H) := by
    intro n15342
    induction n15342 using Nat.strongRecOn with
    | _ n15342 ih15343 =>
      intro v15344 H15345 w15346 f15347 b15348 m15349
      have f15350 := f0.tr f15347 rfl
      refine wp_of e44 c44_10 (rw_iload_n (pc' := 11) (z := v15344) rfl rfl ?_)
      refine wp_of e44 c44_11 (rw_bipush (pc' := 13) (z := 24) rfl (by decide) ?_)
      refine wp_of e44 c44_13 (rw_icmp_ge (p1 := 30) (p2 := 16) (by decide) rfl ⟨by omega, by omega⟩ ⟨by omega, by omega⟩ (fun c15351 => ?_) (fun c15351 => ?_))
      · refine wp_of e44 c44_30 (rw_aload_n (pc' := 31) (v := .ref r0) rfl rfl rfl ?_)
        refine wp_of e44 c44_31 (xc_V (pc' := 34) (r := r0) (as := []) (st := []) (lm_7_89) rfl rfl (Nat.le_of_ble_eq_true rfl) w15346 g0 sh_27 (by decide) rfl (by decide) (s_41 w15346 g0) (fun R15352 T15353 H15354 p15355 => ?_))
        obtain ⟨e15356, w15358, f15359, e15357⟩ := p15355
        subst e15356
        subst e15357
        have f15360 := f15350.tr f15359 rfl
        show wp _ _ 44 34 [(2, vI v15344), (1, vI z15321), (0, .ref r0)] [] _ H15354 _
        refine wp_of e44 c44_34 (rw_iconst (pc' := 35) rfl ?_)
        refine wp_of e44 c44_35 (rw_istore_n (pc' := 36) (z := 0) (L' := [(2, vI 0), (1, vI z15321), (0, .ref r0)]) rfl rfl rfl ?_)
        have lp15431 : ∀ (n15432 : Nat) (v15434 : Int) (H15435 : wq_H), WT T H15435 → wfr [(33, 999)] T H15354 H15435 → (0 ≤ v15434 ∧ v15434 ≤ 4) → (4 - v15434).toNat = n15432 → wp kt 3 44 36 [(2, vI v15434), (1, vI z15321), (0, .ref r0)] [] T H15435 (q_44 r0 T H) := by
          intro n15432
          induction n15432 using Nat.strongRecOn with
          | _ n15432 ih15433 =>
            intro v15434 H15435 w15436 f15437 b15438 m15439
            have f15440 := f15360.tr f15437 rfl
            refine wp_of e44 c44_36 (rw_iload_n (pc' := 37) (z := v15434) rfl rfl ?_)
            refine wp_of e44 c44_37 (rw_aload_n (pc' := 38) (v := .ref r0) rfl rfl rfl ?_)
            refine wp_of e44 c44_38 (xg_I (pc' := 41) lf_7_59 w15436 g0 sh_27 (by decide) (by decide) ty_27_13 rfl rfl (fun b15441 b15442 => ?_))
            refine wp_of e44 c44_41 (rw_icmp_ge (p1 := 60) (p2 := 44) (by decide) rfl ⟨by omega, by omega⟩ ⟨by omega, by omega⟩ (fun c15443 => ?_) (fun c15443 => ?_))
            · refine wp_of e44 c44_60 (rw_iconst (pc' := 61) rfl ?_)
              refine wp_of e44 c44_61 (rw_istore_n (pc' := 62) (z := 0) (L' := [(2, vI 0), (1, vI z15321), (0, .ref r0)]) rfl rfl rfl ?_)
              have lp15542 : ∀ (n15543 : Nat) (v15545 : Int) (H15546 : wq_H), WT T H15546 → wfr [(34, 999)] T H15435 H15546 → (0 ≤ v15545 ∧ v15545 ≤ 6) → (6 - v15545).toNat = n15543 → wp kt 3 44 62 [(2, vI v15545), (1, vI z15321), (0, .ref r0)] [] T H15546 (q_44 r0 T H) := by
                intro n15543
                induction n15543 using Nat.strongRecOn with
                | _ n15543 ih15544 =>
                  intro v15545 H15546 w15547 f15548 b15549 m15550
                  have f15551 := f15440.tr f15548 rfl
                  refine wp_of e44 c44_62 (rw_iload_n (pc' := 63) (z := v15545) rfl rfl ?_)
                  refine wp_of e44 c44_63 (rw_aload_n (pc' := 64) (v := .ref r0) rfl rfl rfl ?_)
                  refine wp_of e44 c44_64 (xg_I (pc' := 67) lf_7_62 w15547 g0 sh_27 (by decide) (by decide) ty_27_14 rfl rfl (fun b15552 b15553 => ?_))
                  refine wp_of e44 c44_67 (rw_icmp_ge (p1 := 86) (p2 := 70) (by decide) rfl ⟨by omega, by omega⟩ ⟨by omega, by omega⟩ (fun c15554 => ?_) (fun c15554 => ?_))
                  · refine wp_of e44 c44_86 (rw_aload_n (pc' := 87) (v := .ref r0) rfl rfl rfl ?_)
                    refine wp_of e44 c44_87 (rw_lconst (pc' := 88) (z := 1) rfl rfl ?_)
                    refine wp_of e44 c44_88 (xp_L (pc' := 91) lf_7_71 w15547 g0 sh_27 (by decide) (by decide) ty_27_18 rfl rfl (by omega) (by omega) ⟨by omega, by omega⟩ rfl (fun H15555 e15556 w15557 => ?_))
                    have f15558 := f15551.put' e15556 g0 rfl
                    have k15559 : H15555 r0 18 = 1 := wq_u_s e15556
                    refine wp_of e44 c44_91 (rw_aload_n (pc' := 92) (v := .ref r0) rfl rfl rfl ?_)
                    refine wp_of e44 c44_92 (xg_I (pc' := 95) lf_7_50 w15557 g0 sh_27 (by decide) (by decide) ty_27_10 rfl rfl (fun b15560 b15561 => ?_))
                    refine wp_of e44 c44_95 (rw_iconst (pc' := 96) rfl ?_)
                    refine wp_of e44 c44_96 (rw_isub (pc' := 97) rfl ?_)
                    refine wp_of e44 c44_97 (rw_istore_n (pc' := 98) (z := (H15555 r0 10) - 1) (L' := [(2, vI ((H15555 r0 10) - 1)), (1, vI z15321), (0, .ref r0)]) rfl rfl rfl ?_)
                    have lp15754 : ∀ (n15755 : Nat) (v15757 : Int) (H15758 : wq_H), WT T H15758 → wfr [(27, 18), (35, 15), (35, 17), (38, 999), (39, 999), (36, 999), (40, 999), (41, 999), (37, 999)] T H15555 H15758 → ((-1) ≤ v15757 ∧ v15757 ≤ 5) → (v15757 - (-1)).toNat = n15755 → wp kt 3 44 98 [(2, vI v15757), (1, vI z15321), (0, .ref r0)] [] T H15758 (q_44 r0 T H) := by
                      intro n15755
                      induction n15755 using Nat.strongRecOn with
                      | _ n15755 ih15756 =>
                        intro v15757 H15758 w15759 f15760 b15761 m15762
                        have f15763 := f15558.tr f15760 rfl
                        refine wp_of e44 c44_98 (rw_iload_n (pc' := 99) (z := v15757) rfl rfl ?_)
                        refine wp_of e44 c44_99 (rw_if_lt (p1 := 169) (p2 := 102) (by decide) rfl ⟨by omega, by omega⟩ (fun c15764 => ?_) (fun c15764 => ?_))
                        · exact wp_return e44 c44_169 rfl ⟨rfl, w15759, f15763, rfl⟩
                        · refine wp_of e44 c44_102 (rw_aload_n (pc' := 103) (v := .ref r0) rfl rfl rfl ?_)
                          refine wp_of e44 c44_103 (xg_R (pc' := 106) lf_7_11 w15759 g0 sh_27 (by decide) (by decide) ty_27_0 rfl rfl (fun r15765 q15766 g15767 => ?_))
                          refine wp_of e44 c44_106 (rw_iload_n (pc' := 107) (z := v15757) rfl rfl ?_)
                          refine wp_of e44 c44_107 (xa_R (pc' := 108) (by decide) w15759 g15767 sh_28 (by decide) (ty_28 _) (by omega) (by omega) rfl (fun r15768 q15769 g15770 => ?_))
                          refine wp_of e44 c44_108 (rw_iload_n (pc' := 109) (z := z15321) rfl rfl ?_)
                          refine wp_of e44 c44_109 (rw_iload_n (pc' := 110) (z := v15757) rfl rfl ?_)
                          refine wp_of e44 c44_110 (rw_aload_n (pc' := 111) (v := .ref r0) rfl rfl rfl ?_)
                          refine wp_of e44 c44_111 (xg_I (pc' := 114) lf_7_37 w15759 g0 sh_27 (by decide) (by decide) ty_27_15 rfl rfl (fun b15771 b15772 => ?_))
                          refine wp_of e44 c44_114 (rw_icmp_ne (p1 := 126) (p2 := 117) (by decide) rfl ⟨by omega, by omega⟩ ⟨by omega, by omega⟩ (fun c15773 => ?_) (fun c15773 => ?_))
                          · refine wp_of e44 c44_126 (rw_iconst (pc' := 127) rfl ?_)
                            refine wp_of e44 c44_127 (xc_V (pc' := 130) (r := r15768) (as := [vI z15321, vI 0]) (st := []) (lm_7_103) rfl rfl (Nat.le_of_ble_eq_true rfl) w15759 g15770 sh_35 (by decide) rfl (by decide) (s_47 w15759 g15770 ⟨by omega, by omega⟩ ⟨by omega, by omega⟩) (fun R15774 T15775 H15776 p15777 => ?_))
                            obtain ⟨e15778, w15780, f15781, e15779⟩ := p15777
                            subst e15778
                            subst e15779
                            have f15782 := f15763.tr f15781 rfl
                            have f15783 := f15760.tr f15781 rfl
                            show wp _ _ 44 130 [(2, vI v15757), (1, vI z15321), (0, .ref r0)] [] _ H15776 _
                            refine wp_of e44 c44_130 (rw_aload_n (pc' := 131) (v := .ref r0) rfl rfl rfl ?_)
                            have k15784 : H15776 r0 0 = H15758 r0 0 := (f15781 r0 0 _ g0 rfl)
                            have q15785 : H15776 r0 0 = (r15765 : Int) := k15784.trans q15766
                            refine wp_of e44 c44_131 (xg_K (pc' := 134) lf_7_11 w15780 g0 sh_27 (by decide) (by decide) rfl q15785 rfl ?_)
                            refine wp_of e44 c44_134 (rw_iload_n (pc' := 135) (z := v15757) rfl rfl ?_)
                            have k15786 : H15776 r15765 (v15757.toNat) = H15758 r15765 (v15757.toNat) := (f15781 r15765 (v15757.toNat) _ g15767 rfl)
                            have q15787 : H15776 r15765 (v15757.toNat) = (r15768 : Int) := k15786.trans q15769
                            refine wp_of e44 c44_135 (xa_K (pc' := 136) (by decide) w15780 g15767 sh_28 (by decide) (by omega) (by omega) q15787 rfl ?_)
                            refine wp_of e44 c44_136 (rw_aload_n (pc' := 137) (v := .ref r0) rfl rfl rfl ?_)
                            refine wp_of e44 c44_137 (xg_L (pc' := 140) lf_7_71 w15780 g0 sh_27 (by decide) (by decide) ty_27_18 rfl rfl (fun b15788 b15789 => ?_))
                            refine wp_of e44 c44_140 (rw_l2i (pc' := 141) rfl ?_)
                            obtain ⟨v15790, e15791⟩ : ∃ x : Int, x = wq_w (H15776 r0 18) := ⟨_, rfl⟩
                            rw [← e15791]
                            have b15792 : -2147483648 ≤ v15790 ∧ v15790 ≤ 2147483647 := by
                              rw [e15791]
                              exact wI_w _
                            have b15793 : (-2147483648 ≤ (H15776 r0 18) ∧ (H15776 r0 18) ≤ 2147483647) → v15790 = (H15776 r0 18) := by
                              rw [e15791]
                              exact fun h => wq_w_id h
                            refine wp_of e44 c44_141 (xp_I (pc' := 144) lf_7_107 w15780 g15770 sh_35 (by decide) (by decide) ty_35_17 rfl rfl (by omega) (by omega) ⟨by omega, by omega⟩ rfl (fun H15794 e15795 w15796 => ?_))
                            have f15797 := f15782.put' e15795 g15770 rfl
                            have f15798 := f15783.put' e15795 g15770 rfl
                            have k15799 : H15794 r15768 17 = v15790 := wq_u_s e15795
                            refine wp_of e44 c44_144 (rw_aload_n (pc' := 145) (v := .ref r0) rfl rfl rfl ?_)
                            refine wp_of e44 c44_145 (rw_dup (pc' := 146) rfl rfl ?_)
                            have k15800 : H15794 r0 18 = H15776 r0 18 := (wq_u_t e15795 g15770 g0 rfl 18)
                            refine wp_of e44 c44_146 (xg_L (pc' := 149) lf_7_71 w15796 g0 sh_27 (by decide) (by decide) ty_27_18 rfl rfl (fun b15801 b15802 => ?_))
                            refine wp_of e44 c44_149 (rw_aload_n (pc' := 150) (v := .ref r0) rfl rfl rfl ?_)
                            have k15803 : H15794 r0 0 = H15776 r0 0 := (wq_u_t e15795 g15770 g0 rfl 0)
                            have q15804 : H15794 r0 0 = (r15765 : Int) := k15803.trans q15785
                            refine wp_of e44 c44_150 (xg_K (pc' := 153) lf_7_11 w15796 g0 sh_27 (by decide) (by decide) rfl q15804 rfl ?_)
                            refine wp_of e44 c44_153 (rw_iload_n (pc' := 154) (z := v15757) rfl rfl ?_)
                            have k15805 : H15794 r15765 (v15757.toNat) = H15776 r15765 (v15757.toNat) := (wq_u_t e15795 g15770 g15767 rfl (v15757.toNat))
                            have q15806 : H15794 r15765 (v15757.toNat) = (r15768 : Int) := k15805.trans q15787
                            refine wp_of e44 c44_154 (xa_K (pc' := 155) (by decide) w15796 g15767 sh_28 (by decide) (by omega) (by omega) q15806 rfl ?_)
                            refine wp_of e44 c44_155 (xg_I (pc' := 158) lf_7_110 w15796 g15770 sh_35 (by decide) (by decide) ty_35_15 rfl rfl (fun b15807 b15808 => ?_))
                            refine wp_of e44 c44_158 (rw_i2l (pc' := 159) rfl ⟨by omega, by omega⟩ ?_)
                            refine wp_of e44 c44_159 (rw_lmulw (pc' := 160) rfl ?_)
                            obtain ⟨v15809, e15810⟩ : ∃ x : Int, x = wl_w ((H15794 r0 18) * (H15794 r15768 15)) := ⟨_, rfl⟩
                            rw [← e15810]
                            have b15811 : -9223372036854775808 ≤ v15809 ∧ v15809 ≤ 9223372036854775807 := by
                              rw [e15810]
                              exact wL_w _
                            refine wp_of e44 c44_160 (xp_L (pc' := 163) lf_7_71 w15796 g0 sh_27 (by decide) (by decide) ty_27_18 rfl rfl (by omega) (by omega) ⟨by omega, by omega⟩ rfl (fun H15812 e15813 w15814 => ?_))
                            have f15815 := f15797.put' e15813 g0 rfl
                            have f15816 := f15798.put' e15813 g0 rfl
                            have k15817 : H15812 r0 18 = v15809 := wq_u_s e15813
                            refine wp_of e44 c44_163 (rw_iinc (pc' := 166) (z := v15757) (L' := [(2, vI (v15757 + (-1))), (1, vI z15321), (0, .ref r0)]) rfl rfl rfl rfl ?_)
                            refine wp_of e44 c44_166 (rw_goto (p1 := 98) (by decide) ?_)
                            exact wp_lc (ks := [2, 1, 0]) (wl_c rfl (wl_c rfl (wl_c rfl wl_n))) rfl (by decide) (ih15756 _ (by omega) (v15757 + (-1)) H15812 w15814 f15816 ⟨by omega, by omega⟩ rfl)
                          · refine wp_of e44 c44_117 (rw_aload_n (pc' := 118) (v := .ref r0) rfl rfl rfl ?_)
                            refine wp_of e44 c44_118 (rw_bipush (pc' := 120) (z := 99) rfl (by decide) ?_)
                            refine wp_of e44 c44_120 (xc_V (pc' := 123) (r := r0) (as := [vI 99]) (st := [vI z15321, .ref r15768]) (lm_7_99) rfl rfl (Nat.le_of_ble_eq_true rfl) w15759 g0 sh_27 (by decide) rfl (by decide) (s_46 w15759 g0 ⟨by omega, by omega⟩) (fun R15818 T15819 H15820 p15821 => ?_))
                            obtain ⟨e15822, e15824, z15825, e15823, b15826⟩ := p15821
                            subst e15822
                            subst e15823
                            subst e15824
                            show wp _ _ 44 123 [(2, vI v15757), (1, vI z15321), (0, .ref r0)] [vI z15825, vI z15321, .ref r15768] _ H15758 _
                            refine wp_of e44 c44_123 (rw_goto (p1 := 127) (by decide) ?_)
                            refine wp_of e44 c44_127 (xc_V (pc' := 130) (r := r15768) (as := [vI z15321, vI z15825]) (st := []) (lm_7_103) rfl rfl (Nat.le_of_ble_eq_true rfl) w15759 g15770 sh_35 (by decide) rfl (by decide) (s_47 w15759 g15770 ⟨by omega, by omega⟩ ⟨by omega, by omega⟩) (fun R15827 T15828 H15829 p15830 => ?_))
                            obtain ⟨e15831, w15833, f15834, e15832⟩ := p15830
                            subst e15831
                            subst e15832
                            have f15835 := f15763.tr f15834 rfl
                            have f15836 := f15760.tr f15834 rfl
                            show wp _ _ 44 130 [(2, vI v15757), (1, vI z15321), (0, .ref r0)] [] _ H15829 _
                            refine wp_of e44 c44_130 (rw_aload_n (pc' := 131) (v := .ref r0) rfl rfl rfl ?_)
                            have k15837 : H15829 r0 0 = H15758 r0 0 := (f15834 r0 0 _ g0 rfl)
                            have q15838 : H15829 r0 0 = (r15765 : Int) := k15837.trans q15766
                            refine wp_of e44 c44_131 (xg_K (pc' := 134) lf_7_11 w15833 g0 sh_27 (by decide) (by decide) rfl q15838 rfl ?_)
                            refine wp_of e44 c44_134 (rw_iload_n (pc' := 135) (z := v15757) rfl rfl ?_)
                            have k15839 : H15829 r15765 (v15757.toNat) = H15758 r15765 (v15757.toNat) := (f15834 r15765 (v15757.toNat) _ g15767 rfl)
                            have q15840 : H15829 r15765 (v15757.toNat) = (r15768 : Int) := k15839.trans q15769
                            refine wp_of e44 c44_135 (xa_K (pc' := 136) (by decide) w15833 g15767 sh_28 (by decide) (by omega) (by omega) q15840 rfl ?_)
                            refine wp_of e44 c44_136 (rw_aload_n (pc' := 137) (v := .ref r0) rfl rfl rfl ?_)
                            refine wp_of e44 c44_137 (xg_L (pc' := 140) lf_7_71 w15833 g0 sh_27 (by decide) (by decide) ty_27_18 rfl rfl (fun b15841 b15842 => ?_))
                            refine wp_of e44 c44_140 (rw_l2i (pc' := 141) rfl ?_)
                            obtain ⟨v15843, e15844⟩ : ∃ x : Int, x = wq_w (H15829 r0 18) := ⟨_, rfl⟩
                            rw [← e15844]
                            have b15845 : -2147483648 ≤ v15843 ∧ v15843 ≤ 2147483647 := by
                              rw [e15844]
                              exact wI_w _
                            have b15846 : (-2147483648 ≤ (H15829 r0 18) ∧ (H15829 r0 18) ≤ 2147483647) → v15843 = (H15829 r0 18) := by
                              rw [e15844]
                              exact fun h => wq_w_id h
                            refine wp_of e44 c44_141 (xp_I (pc' := 144) lf_7_107 w15833 g15770 sh_35 (by decide) (by decide) ty_35_17 rfl rfl (by omega) (by omega) ⟨by omega, by omega⟩ rfl (fun H15847 e15848 w15849 => ?_))
                            have f15850 := f15835.put' e15848 g15770 rfl
                            have f15851 := f15836.put' e15848 g15770 rfl
                            have k15852 : H15847 r15768 17 = v15843 := wq_u_s e15848
                            refine wp_of e44 c44_144 (rw_aload_n (pc' := 145) (v := .ref r0) rfl rfl rfl ?_)
                            refine wp_of e44 c44_145 (rw_dup (pc' := 146) rfl rfl ?_)
                            have k15853 : H15847 r0 18 = H15829 r0 18 := (wq_u_t e15848 g15770 g0 rfl 18)
                            refine wp_of e44 c44_146 (xg_L (pc' := 149) lf_7_71 w15849 g0 sh_27 (by decide) (by decide) ty_27_18 rfl rfl (fun b15854 b15855 => ?_))
                            refine wp_of e44 c44_149 (rw_aload_n (pc' := 150) (v := .ref r0) rfl rfl rfl ?_)
                            have k15856 : H15847 r0 0 = H15829 r0 0 := (wq_u_t e15848 g15770 g0 rfl 0)
                            have q15857 : H15847 r0 0 = (r15765 : Int) := k15856.trans q15838
                            refine wp_of e44 c44_150 (xg_K (pc' := 153) lf_7_11 w15849 g0 sh_27 (by decide) (by decide) rfl q15857 rfl ?_)
                            refine wp_of e44 c44_153 (rw_iload_n (pc' := 154) (z := v15757) rfl rfl ?_)
                            have k15858 : H15847 r15765 (v15757.toNat) = H15829 r15765 (v15757.toNat) := (wq_u_t e15848 g15770 g15767 rfl (v15757.toNat))
                            have q15859 : H15847 r15765 (v15757.toNat) = (r15768 : Int) := k15858.trans q15840
                            refine wp_of e44 c44_154 (xa_K (pc' := 155) (by decide) w15849 g15767 sh_28 (by decide) (by omega) (by omega) q15859 rfl ?_)
                            refine wp_of e44 c44_155 (xg_I (pc' := 158) lf_7_110 w15849 g15770 sh_35 (by decide) (by decide) ty_35_15 rfl rfl (fun b15860 b15861 => ?_))
                            refine wp_of e44 c44_158 (rw_i2l (pc' := 159) rfl ⟨by omega, by omega⟩ ?_)
                            refine wp_of e44 c44_159 (rw_lmulw (pc' := 160) rfl ?_)
                            obtain ⟨v15862, e15863⟩ : ∃ x : Int, x = wl_w ((H15847 r0 18) * (H15847 r15768 15)) := ⟨_, rfl⟩
                            rw [← e15863]
                            have b15864 : -9223372036854775808 ≤ v15862 ∧ v15862 ≤ 9223372036854775807 := by
                              rw [e15863]
                              exact wL_w _
                            refine wp_of e44 c44_160 (xp_L (pc' := 163) lf_7_71 w15849 g0 sh_27 (by decide) (by decide) ty_27_18 rfl rfl (by omega) (by omega) ⟨by omega, by omega⟩ rfl (fun H15865 e15866 w15867 => ?_))
                            have f15868 := f15850.put' e15866 g0 rfl
                            have f15869 := f15851.put' e15866 g0 rfl
                            have k15870 : H15865 r0 18 = v15862 := wq_u_s e15866
                            refine wp_of e44 c44_163 (rw_iinc (pc' := 166) (z := v15757) (L' := [(2, vI (v15757 + (-1))), (1, vI z15321), (0, .ref r0)]) rfl rfl rfl rfl ?_)
                            refine wp_of e44 c44_166 (rw_goto (p1 := 98) (by decide) ?_)
                            exact wp_lc (ks := [2, 1, 0]) (wl_c rfl (wl_c rfl (wl_c rfl wl_n))) rfl (by decide) (ih15756 _ (by omega) (v15757 + (-1)) H15865 w15867 f15869 ⟨by omega, by omega⟩ rfl)
                    exact wp_lc (ks := [2, 1, 0]) (wl_c rfl (wl_c rfl (wl_c rfl wl_n))) rfl (by decide) (lp15754 _ ((H15555 r0 10) - 1) H15555 w15557 wfr.rf ⟨by omega, by omega⟩ rfl)
                  · refine wp_of e44 c44_70 (rw_aload_n (pc' := 71) (v := .ref r0) rfl rfl rfl ?_)
                    refine wp_of e44 c44_71 (xg_R (pc' := 74) lf_7_33 w15547 g0 sh_27 (by decide) (by decide) ty_27_6 rfl rfl (fun r15871 q15872 g15873 => ?_))
                    refine wp_of e44 c44_74 (rw_iload_n (pc' := 75) (z := v15545) rfl rfl ?_)
                    refine wp_of e44 c44_75 (rw_dup2 (pc' := 76) rfl rfl rfl ?_)
                    refine wp_of e44 c44_76 (xa_I (so := 0) (pc' := 77) w15547 g15873 sh_34 (by decide) (ty_34 _) (by omega) (by omega) rfl (fun b15874 b15875 => ?_))
                    refine wp_of e44 c44_77 (rw_iload_n (pc' := 78) (z := z15321) rfl rfl ?_)
                    refine wp_of e44 c44_78 (rw_iand (pc' := 79) rfl ?_)
                    obtain ⟨v15876, e15877⟩ : ∃ x : Int, x = wq_and (H15546 r15871 (v15545.toNat)) z15321 := ⟨_, rfl⟩
                    rw [← e15877]
                    have b15878 : -2147483648 ≤ v15876 ∧ v15876 ≤ 2147483647 := by
                      rw [e15877]
                      exact wI_and _ _
                    refine wp_of e44 c44_79 (xs_I (pc' := 80) w15547 g15873 (by decide) sh_34 (by decide) (ty_34 _) (by omega) (by omega) ⟨by omega, by omega⟩ (by omega) (by omega) rfl (fun H15879 e15880 w15881 => ?_))
                    have f15882 := f15551.put' e15880 g15873 rfl
                    have f15883 := f15548.put' e15880 g15873 rfl
                    refine wp_of e44 c44_80 (rw_iinc (pc' := 83) (z := v15545) (L' := [(2, vI (v15545 + 1)), (1, vI z15321), (0, .ref r0)]) rfl rfl rfl rfl ?_)
                    refine wp_of e44 c44_83 (rw_goto (p1 := 62) (by decide) ?_)
                    exact wp_lc (ks := [2, 1, 0]) (wl_c rfl (wl_c rfl (wl_c rfl wl_n))) rfl (by decide) (ih15544 _ (by omega) (v15545 + 1) H15879 w15881 f15883 ⟨by omega, by omega⟩ rfl)
              exact wp_lc (ks := [2, 1, 0]) (wl_c rfl (wl_c rfl (wl_c rfl wl_n))) rfl (by decide) (lp15542 _ 0 H15435 w15436 wfr.rf ⟨by omega, by omega⟩ rfl)
            · refine wp_of e44 c44_44 (rw_aload_n (pc' := 45) (v := .ref r0) rfl rfl rfl ?_)
              refine wp_of e44 c44_45 (xg_R (pc' := 48) lf_7_30 w15436 g0 sh_27 (by decide) (by decide) ty_27_5 rfl rfl (fun r15884 q15885 g15886 => ?_))
              refine wp_of e44 c44_48 (rw_iload_n (pc' := 49) (z := v15434) rfl rfl ?_)
              refine wp_of e44 c44_49 (rw_dup2 (pc' := 50) rfl rfl rfl ?_)
              refine wp_of e44 c44_50 (xa_I (so := 0) (pc' := 51) w15436 g15886 sh_33 (by decide) (ty_33 _) (by omega) (by omega) rfl (fun b15887 b15888 => ?_))
              refine wp_of e44 c44_51 (rw_iload_n (pc' := 52) (z := z15321) rfl rfl ?_)
              refine wp_of e44 c44_52 (rw_iand (pc' := 53) rfl ?_)
              obtain ⟨v15889, e15890⟩ : ∃ x : Int, x = wq_and (H15435 r15884 (v15434.toNat)) z15321 := ⟨_, rfl⟩
              rw [← e15890]
              have b15891 : -2147483648 ≤ v15889 ∧ v15889 ≤ 2147483647 := by
                rw [e15890]
                exact wI_and _ _
              refine wp_of e44 c44_53 (xs_I (pc' := 54) w15436 g15886 (by decide) sh_33 (by decide) (ty_33 _) (by omega) (by omega) ⟨by omega, by omega⟩ (by omega) (by omega) rfl (fun H15892 e15893 w15894 => ?_))
              have f15895 := f15440.put' e15893 g15886 rfl
              have f15896 := f15437.put' e15893 g15886 rfl
              refine wp_of e44 c44_54 (rw_iinc (pc' := 57) (z := v15434) (L' := [(2, vI (v15434 + 1)), (1, vI z15321), (0, .ref r0)]) rfl rfl rfl rfl ?_)
              refine wp_of e44 c44_57 (rw_goto (p1 := 36) (by decide) ?_)
              exact wp_lc (ks := [2, 1, 0]) (wl_c rfl (wl_c rfl (wl_c rfl wl_n))) rfl (by decide) (ih15433 _ (by omega) (v15434 + 1) H15892 w15894 f15896 ⟨by omega, by omega⟩ rfl)
        exact wp_lc (ks := [2, 1, 0]) (wl_c rfl (wl_c rfl (wl_c rfl wl_n))) rfl (by decide) (lp15431 _ 0 H15354 w15358 wfr.rf ⟨by omega, by omega⟩ rfl)
      · refine wp_of e44 c44_16 (rw_aload_n (pc' := 17) (v := .ref r0) rfl rfl rfl ?_)
        refine wp_of e44 c44_17 (xg_R (pc' := 20) lf_7_17 w15346 g0 sh_27 (by decide) (by decide) ty_27_1 rfl rfl (fun r15897 q15898 g15899 => ?_))
        refine wp_of e44 c44_20 (rw_iload_n (pc' := 21) (z := v15344) rfl rfl ?_)
        refine wp_of e44 c44_21 (rw_bipush (pc' := 23) (z := -2) rfl (by decide) ?_)
        refine wp_of e44 c44_23 (xs_I (pc' := 24) w15346 g15899 (by decide) sh_29 (by decide) (ty_29 _) (by omega) (by omega) ⟨by omega, by omega⟩ (by omega) (by omega) rfl (fun H15900 e15901 w15902 => ?_))
        have f15903 := f15350.put' e15901 g15899 rfl
        have f15904 := f15347.put' e15901 g15899 rfl
        refine wp_of e44 c44_24 (rw_iinc (pc' := 27) (z := v15344) (L' := [(2, vI (v15344 + 1)), (1, vI z15321), (0, .ref r0)]) rfl rfl rfl rfl ?_)
        refine wp_of e44 c44_27 (rw_goto (p1 := 10) (by decide) ?_)
        exact wp_lc (ks := [2, 1, 0]) (wl_c rfl (wl_c rfl (wl_c rfl wl_n))) rfl (by decide) (ih15343 _ (by omega) (v15344 + 1) H15900 w15902 f15904 ⟨by omega, by omega⟩ rfl)
  exact wp_lc (ks := [2, 1, 0]) (wl_c rfl (wl_c rfl (wl_c rfl wl_n))) rfl (by decide) (lp15341 _ (H r0 7) H hW wfr.rf ⟨by omega, by omega⟩ rfl)
/-! StrikeAwake$Census.forget()V -/
theorem e50 : wq_en 50 = some (4, 1, false, none) := rfl
theorem c50_0 : mc_cd 50 0 = some (.aload_n 0, 1) := by decide +kernel
theorem c50_1 : mc_cd 50 1 = some (.iconst 0, 1) := by decide +kernel
theorem c50_2 : mc_cd 50 2 = some (.putfield 32, 3) := by decide +kernel
theorem c50_5 : mc_cd 50 5 = some (.return_, 1) := by decide +kernel
abbrev q_50 (r0 : Nat) (T : wq_T) (H : wq_H) : Option Value → wq_T → wq_H → Prop := fun r T' H' => T = T' ∧ WT T H' ∧ wfr [(12, 9)] T H H' ∧ none = r
set_option maxHeartbeats 4000000 in
theorem s_50 {kt : Nat → Option mc_E} {T : wq_T} {H : wq_H} {r0 : Nat} (hW : WT T H) (g0 : T.2.2.2 r0 = some 12) : wpc kt 1 50 [.ref r0] T H (q_50 r0 T H) := by
  refine wp_enter e50 (Nat.le_of_ble_eq_true rfl) rfl ?_
  have f0 : wfr [(12, 9)] T H H := wfr.rf
  show wp _ _ 50 0 [(0, .ref r0)] [] _ H _
  refine wp_of e50 c50_0 (rw_aload_n (pc' := 1) (v := .ref r0) rfl rfl rfl ?_)
  refine wp_of e50 c50_1 (rw_iconst (pc' := 2) rfl ?_)
  refine wp_of e50 c50_2 (xp_Z (pc' := 5) lf_4_32 hW g0 sh_12 (by decide) (by decide) ty_12_9 rfl rfl (by omega) (by omega) rfl (fun H15910 e15911 w15912 => ?_))
  have f15913 := f0.put' e15911 g0 rfl
  have k15914 : H15910 r0 9 = 0 := wq_u_s e15911
  exact wp_return e50 c50_5 rfl ⟨rfl, w15912, f15913, rfl⟩
/-! StrikeAwake.answer(I)I -/
theorem e51 : wq_en 51 = some (0, 2, false, some FieldType.int) := rfl
theorem c51_0 : mc_cd 51 0 = some (.aload_n 0, 1) := by decide +kernel
theorem c51_1 : mc_cd 51 1 = some (.iconst 0, 1) := by decide +kernel
theorem c51_2 : mc_cd 51 2 = some (.putfield 102, 3) := by decide +kernel
theorem c51_5 : mc_cd 51 5 = some (.iload_n 1, 1) := by decide +kernel
theorem c51_6 : mc_cd 51 6 = some (.ireturn, 1) := by decide +kernel
abbrev q_51 (r0 : Nat) (a1 : Int) (T : wq_T) (H : wq_H) : Option Value → wq_T → wq_H → Prop := fun r T' H' => T = T' ∧ WT T H' ∧ wfr [(1, 10)] T H H' ∧ ∃ z : Int, some (vI z) = r ∧ ((-2147483648) ≤ z ∧ z ≤ 2147483647)
set_option maxHeartbeats 4000000 in
theorem s_51 {kt : Nat → Option mc_E} {T : wq_T} {H : wq_H} {r0 : Nat} {a1 : Int} (hW : WT T H) (g0 : T.2.2.2 r0 = some 1) (i1 : (-2147483648) ≤ a1 ∧ a1 ≤ 2147483647) : wpc kt 1 51 [.ref r0, vI a1] T H (q_51 r0 a1 T H) := by
  refine wp_enter e51 (Nat.le_of_ble_eq_true rfl) rfl ?_
  have f0 : wfr [(1, 10)] T H H := wfr.rf
  show wp _ _ 51 0 [(0, .ref r0), (1, vI a1)] [] _ H _
  refine wp_of e51 c51_0 (rw_aload_n (pc' := 1) (v := .ref r0) rfl rfl rfl ?_)
  refine wp_of e51 c51_1 (rw_iconst (pc' := 2) rfl ?_)
  refine wp_of e51 c51_2 (xp_I (pc' := 5) lf_0_102 hW g0 sh_1 (by decide) (by decide) ty_1_10 rfl rfl (by omega) (by omega) ⟨by omega, by omega⟩ rfl (fun H15920 e15921 w15922 => ?_))
  have f15923 := f0.put' e15921 g0 rfl
  have k15924 : H15920 r0 10 = 0 := wq_u_s e15921
  refine wp_of e51 c51_5 (rw_iload_n (pc' := 6) (z := a1) rfl rfl ?_)
  exact wp_ireturn e51 c51_6 rfl ⟨rfl, w15922, f15923, a1, rfl, ⟨by omega, by omega⟩⟩
/-! StrikeAwake.parish(I)I -/
theorem e11 : wq_en 11 = some (0, 4, false, some FieldType.int) := rfl
theorem c11_0 : mc_cd 11 0 = some (.iload_n 1, 1) := by decide +kernel
theorem c11_1 : mc_cd 11 1 = some (.ifCond .lt 11, 3) := by decide +kernel
theorem c11_4 : mc_cd 11 4 = some (.iload_n 1, 1) := by decide +kernel
theorem c11_5 : mc_cd 11 5 = some (.aload_n 0, 1) := by decide +kernel
theorem c11_6 : mc_cd 11 6 = some (.getfield 62, 3) := by decide +kernel
theorem c11_9 : mc_cd 11 9 = some (.if_icmp .le 9, 3) := by decide +kernel
theorem c11_12 : mc_cd 11 12 = some (.aload_n 0, 1) := by decide +kernel
theorem c11_13 : mc_cd 11 13 = some (.iconst 2, 1) := by decide +kernel
theorem c11_14 : mc_cd 11 14 = some (.invokevirtual 70, 3) := by decide +kernel
theorem c11_17 : mc_cd 11 17 = some (.ireturn, 1) := by decide +kernel
theorem c11_18 : mc_cd 11 18 = some (.aload_n 0, 1) := by decide +kernel
theorem c11_19 : mc_cd 11 19 = some (.iconst 0, 1) := by decide +kernel
theorem c11_20 : mc_cd 11 20 = some (.putfield 62, 3) := by decide +kernel
theorem c11_23 : mc_cd 11 23 = some (.aload_n 0, 1) := by decide +kernel
theorem c11_24 : mc_cd 11 24 = some (.getfield 16, 3) := by decide +kernel
theorem c11_27 : mc_cd 11 27 = some (.aload_n 0, 1) := by decide +kernel
theorem c11_28 : mc_cd 11 28 = some (.getfield 9, 3) := by decide +kernel
theorem c11_31 : mc_cd 11 31 = some (.iload_n 1, 1) := by decide +kernel
theorem c11_32 : mc_cd 11 32 = some (.aload_n 0, 1) := by decide +kernel
theorem c11_33 : mc_cd 11 33 = some (.getfield 55, 3) := by decide +kernel
theorem c11_36 : mc_cd 11 36 = some (.invokevirtual 74, 3) := by decide +kernel
theorem c11_39 : mc_cd 11 39 = some (.istore_n 2, 1) := by decide +kernel
theorem c11_40 : mc_cd 11 40 = some (.aload_n 0, 1) := by decide +kernel
theorem c11_41 : mc_cd 11 41 = some (.aload_n 0, 1) := by decide +kernel
theorem c11_42 : mc_cd 11 42 = some (.getfield 16, 3) := by decide +kernel
theorem c11_45 : mc_cd 11 45 = some (.getfield 78, 3) := by decide +kernel
theorem c11_48 : mc_cd 11 48 = some (.putfield 81, 3) := by decide +kernel
theorem c11_51 : mc_cd 11 51 = some (.aload_n 0, 1) := by decide +kernel
theorem c11_52 : mc_cd 11 52 = some (.aload_n 0, 1) := by decide +kernel
theorem c11_53 : mc_cd 11 53 = some (.getfield 16, 3) := by decide +kernel
theorem c11_56 : mc_cd 11 56 = some (.getfield 84, 3) := by decide +kernel
theorem c11_59 : mc_cd 11 59 = some (.putfield 87, 3) := by decide +kernel
theorem c11_62 : mc_cd 11 62 = some (.iload_n 2, 1) := by decide +kernel
theorem c11_63 : mc_cd 11 63 = some (.ifCond .ne 9, 3) := by decide +kernel
theorem c11_66 : mc_cd 11 66 = some (.aload_n 0, 1) := by decide +kernel
theorem c11_67 : mc_cd 11 67 = some (.iconst 4, 1) := by decide +kernel
theorem c11_68 : mc_cd 11 68 = some (.invokevirtual 70, 3) := by decide +kernel
theorem c11_71 : mc_cd 11 71 = some (.ireturn, 1) := by decide +kernel
theorem c11_72 : mc_cd 11 72 = some (.aload_n 0, 1) := by decide +kernel
theorem c11_73 : mc_cd 11 73 = some (.getfield 55, 3) := by decide +kernel
theorem c11_76 : mc_cd 11 76 = some (.invokevirtual 90, 3) := by decide +kernel
theorem c11_79 : mc_cd 11 79 = some (.aload_n 0, 1) := by decide +kernel
theorem c11_80 : mc_cd 11 80 = some (.getfield 51, 3) := by decide +kernel
theorem c11_83 : mc_cd 11 83 = some (.astore_n 3, 1) := by decide +kernel
theorem c11_84 : mc_cd 11 84 = some (.aload_n 0, 1) := by decide +kernel
theorem c11_85 : mc_cd 11 85 = some (.aload_n 0, 1) := by decide +kernel
theorem c11_86 : mc_cd 11 86 = some (.getfield 55, 3) := by decide +kernel
theorem c11_89 : mc_cd 11 89 = some (.putfield 51, 3) := by decide +kernel
theorem c11_92 : mc_cd 11 92 = some (.aload_n 0, 1) := by decide +kernel
theorem c11_93 : mc_cd 11 93 = some (.aload_n 3, 1) := by decide +kernel
theorem c11_94 : mc_cd 11 94 = some (.putfield 55, 3) := by decide +kernel
theorem c11_97 : mc_cd 11 97 = some (.aload_n 0, 1) := by decide +kernel
theorem c11_98 : mc_cd 11 98 = some (.iconst 1, 1) := by decide +kernel
theorem c11_99 : mc_cd 11 99 = some (.putfield 58, 3) := by decide +kernel
theorem c11_102 : mc_cd 11 102 = some (.aload_n 0, 1) := by decide +kernel
theorem c11_103 : mc_cd 11 103 = some (.getfield 30, 3) := by decide +kernel
theorem c11_106 : mc_cd 11 106 = some (.invokevirtual 93, 3) := by decide +kernel
theorem c11_109 : mc_cd 11 109 = some (.aload_n 0, 1) := by decide +kernel
theorem c11_110 : mc_cd 11 110 = some (.aload_n 0, 1) := by decide +kernel
theorem c11_111 : mc_cd 11 111 = some (.getfield 51, 3) := by decide +kernel
theorem c11_114 : mc_cd 11 114 = some (.getfield 96, 3) := by decide +kernel
theorem c11_117 : mc_cd 11 117 = some (.invokevirtual 99, 3) := by decide +kernel
theorem c11_120 : mc_cd 11 120 = some (.ireturn, 1) := by decide +kernel
abbrev q_11 (r0 : Nat) (a1 : Int) (T : wq_T) (H : wq_H) : Option Value → wq_T → wq_H → Prop := fun r T' H' => T = T' ∧ WT T H' ∧ wfr [(12, 9), (27, 7), (27, 8), (27, 9), (27, 10), (27, 11), (27, 12), (27, 13), (27, 14), (27, 15), (27, 16), (27, 17), (27, 18), (35, 6), (35, 7), (35, 8), (35, 9), (35, 10), (35, 11), (35, 12), (35, 13), (35, 14), (35, 15), (35, 16), (35, 17), (3, 1), (3, 2), (3, 3), (3, 4), (1, 6), (1, 7), (1, 8), (1, 9), (1, 10), (1, 11), (1, 12), (4, 0), (4, 1), (4, 2), (4, 3), (4, 4), (4, 5), (4, 6), (38, 999), (39, 999), (36, 999), (31, 999), (40, 999), (41, 999), (34, 999), (37, 999), (29, 999), (30, 999), (33, 999), (32, 999)] T H H' ∧ ∃ z : Int, some (vI z) = r ∧ ((-2147483648) ≤ z ∧ z ≤ 2147483647) ∧ (((a1 < 0 ∨ H r0 9 < a1) ∧ H' r0 9 = H r0 9) ∨ (0 ≤ a1 ∧ a1 ≤ H r0 9 ∧ H' r0 9 = 0))
set_option maxHeartbeats 4000000 in
theorem s_11 {kt : Nat → Option mc_E} {T : wq_T} {H : wq_H} {r0 : Nat} {a1 : Int} (hW : WT T H) (g0 : T.2.2.2 r0 = some 1) (i1 : (-2147483648) ≤ a1 ∧ a1 ≤ 2147483647) : wpc kt 8 11 [.ref r0, vI a1] T H (q_11 r0 a1 T H) := by
  refine wp_enter e11 (Nat.le_of_ble_eq_true rfl) rfl ?_
  have f0 : wfr [(12, 9), (27, 7), (27, 8), (27, 9), (27, 10), (27, 11), (27, 12), (27, 13), (27, 14), (27, 15), (27, 16), (27, 17), (27, 18), (35, 6), (35, 7), (35, 8), (35, 9), (35, 10), (35, 11), (35, 12), (35, 13), (35, 14), (35, 15), (35, 16), (35, 17), (3, 1), (3, 2), (3, 3), (3, 4), (1, 6), (1, 7), (1, 8), (1, 9), (1, 10), (1, 11), (1, 12), (4, 0), (4, 1), (4, 2), (4, 3), (4, 4), (4, 5), (4, 6), (38, 999), (39, 999), (36, 999), (31, 999), (40, 999), (41, 999), (34, 999), (37, 999), (29, 999), (30, 999), (33, 999), (32, 999)] T H H := wfr.rf
  show wp _ _ 11 0 [(0, .ref r0), (1, vI a1)] [] _ H _
  have b16068 : 0 ≤ H r0 9 ∧ H r0 9 ≤ 900 := hW.box g0 (n := 13) rfl (by decide) rfl
  refine wp_of e11 c11_0 (rw_iload_n (pc' := 1) (z := a1) rfl rfl ?_)
  refine wp_of e11 c11_1 (rw_if_lt (p1 := 12) (p2 := 4) (by decide) rfl ⟨by omega, by omega⟩ (fun c16069 => ?_) (fun c16069 => ?_))
  · refine wp_of e11 c11_12 (rw_aload_n (pc' := 13) (v := .ref r0) rfl rfl rfl ?_)
    refine wp_of e11 c11_13 (rw_iconst (pc' := 14) rfl ?_)
    refine wp_of e11 c11_14 (xc_V (pc' := 17) (r := r0) (as := [vI 2]) (st := []) (lm_0_70) rfl rfl (Nat.le_of_ble_eq_true rfl) hW g0 sh_1 (by decide) rfl (by decide) (s_12 hW g0 ⟨by omega, by omega⟩) (fun R16070 T16071 H16072 p16073 => ?_))
    obtain ⟨e16074, w16076, f16077, z16078, e16075, b16079⟩ := p16073
    subst e16074
    subst e16075
    have f16080 := f0.tr f16077 rfl
    show wp _ _ 11 17 [(0, .ref r0), (1, vI a1)] [vI z16078] _ H16072 _
    have k16081 : H16072 r0 9 = H r0 9 := (f16077 r0 9 _ g0 rfl)
    exact wp_ireturn e11 c11_17 rfl ⟨rfl, w16076, f16080, z16078, rfl, ⟨by omega, by omega⟩, by omega⟩
  · refine wp_of e11 c11_4 (rw_iload_n (pc' := 5) (z := a1) rfl rfl ?_)
    refine wp_of e11 c11_5 (rw_aload_n (pc' := 6) (v := .ref r0) rfl rfl rfl ?_)
    refine wp_of e11 c11_6 (xg_I (pc' := 9) lf_0_62 hW g0 sh_1 (by decide) (by decide) ty_1_9 rfl rfl (fun b16082 b16083 => ?_))
    refine wp_of e11 c11_9 (rw_icmp_le (p1 := 18) (p2 := 12) (by decide) rfl ⟨by omega, by omega⟩ ⟨by omega, by omega⟩ (fun c16084 => ?_) (fun c16084 => ?_))
    · refine wp_of e11 c11_18 (rw_aload_n (pc' := 19) (v := .ref r0) rfl rfl rfl ?_)
      refine wp_of e11 c11_19 (rw_iconst (pc' := 20) rfl ?_)
      refine wp_of e11 c11_20 (xp_I (pc' := 23) lf_0_62 hW g0 sh_1 (by decide) (by decide) ty_1_9 rfl rfl (by omega) (by omega) ⟨by omega, by omega⟩ rfl (fun H16085 e16086 w16087 => ?_))
      have f16088 := f0.put' e16086 g0 rfl
      have k16089 : H16085 r0 9 = 0 := wq_u_s e16086
      refine wp_of e11 c11_23 (rw_aload_n (pc' := 24) (v := .ref r0) rfl rfl rfl ?_)
      refine wp_of e11 c11_24 (xg_R (pc' := 27) lf_0_16 w16087 g0 sh_1 (by decide) (by decide) ty_1_1 rfl rfl (fun r16090 q16091 g16092 => ?_))
      refine wp_of e11 c11_27 (rw_aload_n (pc' := 28) (v := .ref r0) rfl rfl rfl ?_)
      refine wp_of e11 c11_28 (xg_R (pc' := 31) lf_0_9 w16087 g0 sh_1 (by decide) (by decide) ty_1_0 rfl rfl (fun r16093 q16094 g16095 => ?_))
      refine wp_of e11 c11_31 (rw_iload_n (pc' := 32) (z := a1) rfl rfl ?_)
      refine wp_of e11 c11_32 (rw_aload_n (pc' := 33) (v := .ref r0) rfl rfl rfl ?_)
      refine wp_of e11 c11_33 (xg_R (pc' := 36) lf_0_55 w16087 g0 sh_1 (by decide) (by decide) ty_1_7 rfl rfl (fun r16096 q16097 g16098 => ?_))
      refine wp_of e11 c11_36 (xc_V (pc' := 39) (r := r16090) (as := [.ref r16093, vI a1, .ref r16096]) (st := []) (lm_0_74) rfl rfl (Nat.le_of_ble_eq_true rfl) w16087 g16092 sh_3 (by decide) rfl (by decide) (s_13 w16087 g16092 g16095 ⟨by omega, by omega⟩ g16098) (fun R16099 T16100 H16101 p16102 => ?_))
      obtain ⟨e16103, w16105, f16106, z16107, e16104, b16108⟩ := p16102
      subst e16103
      subst e16104
      have f16109 := f16088.tr f16106 rfl
      show wp _ _ 11 39 [(0, .ref r0), (1, vI a1)] [vI z16107] _ H16101 _
      refine wp_of e11 c11_39 (rw_istore_n (pc' := 40) (z := z16107) (L' := [(2, vI z16107), (0, .ref r0), (1, vI a1)]) rfl rfl rfl ?_)
      refine wp_of e11 c11_40 (rw_aload_n (pc' := 41) (v := .ref r0) rfl rfl rfl ?_)
      refine wp_of e11 c11_41 (rw_aload_n (pc' := 42) (v := .ref r0) rfl rfl rfl ?_)
      have k16110 : H16101 r0 1 = H16085 r0 1 := (f16106 r0 1 _ g0 rfl)
      have q16111 : H16101 r0 1 = (r16090 : Int) := k16110.trans q16091
      refine wp_of e11 c11_42 (xg_K (pc' := 45) lf_0_16 w16105 g0 sh_1 (by decide) (by decide) rfl q16111 rfl ?_)
      refine wp_of e11 c11_45 (xg_I (pc' := 48) lf_0_78 w16105 g16092 sh_3 (by decide) (by decide) ty_3_3 rfl rfl (fun b16112 b16113 => ?_))
      refine wp_of e11 c11_48 (xp_I (pc' := 51) lf_0_81 w16105 g0 sh_1 (by decide) (by decide) ty_1_11 rfl rfl (by omega) (by omega) ⟨by omega, by omega⟩ rfl (fun H16114 e16115 w16116 => ?_))
      have f16117 := f16109.put' e16115 g0 rfl
      have k16118 : H16114 r0 11 = H16101 r16090 3 := wq_u_s e16115
      refine wp_of e11 c11_51 (rw_aload_n (pc' := 52) (v := .ref r0) rfl rfl rfl ?_)
      refine wp_of e11 c11_52 (rw_aload_n (pc' := 53) (v := .ref r0) rfl rfl rfl ?_)
      have k16119 : H16114 r0 1 = H16101 r0 1 := (wq_u_j e16115 rfl)
      have q16120 : H16114 r0 1 = (r16090 : Int) := k16119.trans q16111
      refine wp_of e11 c11_53 (xg_K (pc' := 56) lf_0_16 w16116 g0 sh_1 (by decide) (by decide) rfl q16120 rfl ?_)
      refine wp_of e11 c11_56 (xg_I (pc' := 59) lf_0_84 w16116 g16092 sh_3 (by decide) (by decide) ty_3_4 rfl rfl (fun b16121 b16122 => ?_))
      refine wp_of e11 c11_59 (xp_I (pc' := 62) lf_0_87 w16116 g0 sh_1 (by decide) (by decide) ty_1_12 rfl rfl (by omega) (by omega) ⟨by omega, by omega⟩ rfl (fun H16123 e16124 w16125 => ?_))
      have f16126 := f16117.put' e16124 g0 rfl
      have k16127 : H16123 r0 12 = H16114 r16090 4 := wq_u_s e16124
      refine wp_of e11 c11_62 (rw_iload_n (pc' := 63) (z := z16107) rfl rfl ?_)
      refine wp_of e11 c11_63 (rw_if_ne (p1 := 72) (p2 := 66) (by decide) rfl ⟨by omega, by omega⟩ (fun c16128 => ?_) (fun c16128 => ?_))
      · refine wp_of e11 c11_72 (rw_aload_n (pc' := 73) (v := .ref r0) rfl rfl rfl ?_)
        have k16129 : H16123 r0 7 = H16085 r0 7 := ((wq_u_j e16124 rfl).trans ((wq_u_j e16115 rfl).trans (f16106 r0 7 _ g0 rfl)))
        have q16130 : H16123 r0 7 = (r16096 : Int) := k16129.trans q16097
        refine wp_of e11 c11_73 (xg_K (pc' := 76) lf_0_55 w16125 g0 sh_1 (by decide) (by decide) rfl q16130 rfl ?_)
        refine wp_of e11 c11_76 (xc_V (pc' := 79) (r := r16096) (as := []) (st := []) (lm_0_90) rfl rfl (Nat.le_of_ble_eq_true rfl) w16125 g16098 sh_27 (by decide) rfl (by decide) (s_44 w16125 g16098) (fun R16131 T16132 H16133 p16134 => ?_))
        obtain ⟨e16135, w16137, f16138, e16136⟩ := p16134
        subst e16135
        subst e16136
        have f16139 := f16126.tr f16138 rfl
        show wp _ _ 11 79 [(2, vI z16107), (0, .ref r0), (1, vI a1)] [] _ H16133 _
        refine wp_of e11 c11_79 (rw_aload_n (pc' := 80) (v := .ref r0) rfl rfl rfl ?_)
        refine wp_of e11 c11_80 (xg_R (pc' := 83) lf_0_51 w16137 g0 sh_1 (by decide) (by decide) ty_1_6 rfl rfl (fun r16140 q16141 g16142 => ?_))
        refine wp_of e11 c11_83 (rw_astore_n (pc' := 84) (v := .ref r16140) (L' := [(3, .ref r16140), (2, vI z16107), (0, .ref r0), (1, vI a1)]) rfl rfl rfl rfl ?_)
        refine wp_of e11 c11_84 (rw_aload_n (pc' := 85) (v := .ref r0) rfl rfl rfl ?_)
        refine wp_of e11 c11_85 (rw_aload_n (pc' := 86) (v := .ref r0) rfl rfl rfl ?_)
        have k16143 : H16133 r0 7 = H16123 r0 7 := (f16138 r0 7 _ g0 rfl)
        have q16144 : H16133 r0 7 = (r16096 : Int) := k16143.trans q16130
        refine wp_of e11 c11_86 (xg_K (pc' := 89) lf_0_55 w16137 g0 sh_1 (by decide) (by decide) rfl q16144 rfl ?_)
        refine wp_of e11 c11_89 (xp_R (pc' := 92) lf_0_51 w16137 g0 sh_1 (by decide) (by decide) rfl rfl (wok_2 ty_1_6 g16098) rfl (fun H16145 e16146 w16147 => ?_))
        have f16148 := f16139.put' e16146 g0 rfl
        have q16149 : H16145 r0 6 = (r16096 : Int) := wq_u_s e16146
        refine wp_of e11 c11_92 (rw_aload_n (pc' := 93) (v := .ref r0) rfl rfl rfl ?_)
        refine wp_of e11 c11_93 (rw_aload_n (pc' := 94) (v := .ref r16140) rfl rfl rfl ?_)
        refine wp_of e11 c11_94 (xp_R (pc' := 97) lf_0_55 w16147 g0 sh_1 (by decide) (by decide) rfl rfl (wok_2 ty_1_7 g16142) rfl (fun H16150 e16151 w16152 => ?_))
        have f16153 := f16148.put' e16151 g0 rfl
        have q16154 : H16150 r0 7 = (r16140 : Int) := wq_u_s e16151
        refine wp_of e11 c11_97 (rw_aload_n (pc' := 98) (v := .ref r0) rfl rfl rfl ?_)
        refine wp_of e11 c11_98 (rw_iconst (pc' := 99) rfl ?_)
        refine wp_of e11 c11_99 (xp_Z (pc' := 102) lf_0_58 w16152 g0 sh_1 (by decide) (by decide) ty_1_8 rfl rfl (by omega) (by omega) rfl (fun H16155 e16156 w16157 => ?_))
        have f16158 := f16153.put' e16156 g0 rfl
        have k16159 : H16155 r0 8 = 1 := wq_u_s e16156
        refine wp_of e11 c11_102 (rw_aload_n (pc' := 103) (v := .ref r0) rfl rfl rfl ?_)
        refine wp_of e11 c11_103 (xg_R (pc' := 106) lf_0_30 w16157 g0 sh_1 (by decide) (by decide) ty_1_3 rfl rfl (fun r16160 q16161 g16162 => ?_))
        refine wp_of e11 c11_106 (xc_V (pc' := 109) (r := r16160) (as := []) (st := []) (lm_0_93) rfl rfl (Nat.le_of_ble_eq_true rfl) w16157 g16162 sh_12 (by decide) rfl (by decide) (s_50 w16157 g16162) (fun R16163 T16164 H16165 p16166 => ?_))
        obtain ⟨e16167, w16169, f16170, e16168⟩ := p16166
        subst e16167
        subst e16168
        have f16171 := f16158.tr f16170 rfl
        show wp _ _ 11 109 [(3, .ref r16140), (2, vI z16107), (0, .ref r0), (1, vI a1)] [] _ H16165 _
        refine wp_of e11 c11_109 (rw_aload_n (pc' := 110) (v := .ref r0) rfl rfl rfl ?_)
        refine wp_of e11 c11_110 (rw_aload_n (pc' := 111) (v := .ref r0) rfl rfl rfl ?_)
        have k16172 : H16165 r0 6 = H16145 r0 6 := ((f16170 r0 6 _ g0 rfl).trans ((wq_u_j e16156 rfl).trans (wq_u_j e16151 rfl)))
        have q16173 : H16165 r0 6 = (r16096 : Int) := k16172.trans q16149
        refine wp_of e11 c11_111 (xg_K (pc' := 114) lf_0_51 w16169 g0 sh_1 (by decide) (by decide) rfl q16173 rfl ?_)
        refine wp_of e11 c11_114 (xg_I (pc' := 117) lf_0_96 w16169 g16098 sh_27 (by decide) (by decide) ty_27_10 rfl rfl (fun b16174 b16175 => ?_))
        refine wp_of e11 c11_117 (xc_V (pc' := 120) (r := r0) (as := [vI (H16165 r16096 10)]) (st := []) (lm_0_99) rfl rfl (Nat.le_of_ble_eq_true rfl) w16169 g0 sh_1 (by decide) rfl (by decide) (s_51 w16169 g0 ⟨by omega, by omega⟩) (fun R16176 T16177 H16178 p16179 => ?_))
        obtain ⟨e16180, w16182, f16183, z16184, e16181, b16185⟩ := p16179
        subst e16180
        subst e16181
        have f16186 := f16171.tr f16183 rfl
        show wp _ _ 11 120 [(3, .ref r16140), (2, vI z16107), (0, .ref r0), (1, vI a1)] [vI z16184] _ H16178 _
        have k16187 : H16178 r0 9 = H16085 r0 9 := ((f16183 r0 9 _ g0 rfl).trans ((f16170 r0 9 _ g0 rfl).trans ((wq_u_j e16156 rfl).trans ((wq_u_j e16151 rfl).trans ((wq_u_j e16146 rfl).trans ((f16138 r0 9 _ g0 rfl).trans ((wq_u_j e16124 rfl).trans ((wq_u_j e16115 rfl).trans (f16106 r0 9 _ g0 rfl)))))))))
        exact wp_ireturn e11 c11_120 rfl ⟨rfl, w16182, f16186, z16184, rfl, ⟨by omega, by omega⟩, by omega⟩
      · refine wp_of e11 c11_66 (rw_aload_n (pc' := 67) (v := .ref r0) rfl rfl rfl ?_)
        refine wp_of e11 c11_67 (rw_iconst (pc' := 68) rfl ?_)
        refine wp_of e11 c11_68 (xc_V (pc' := 71) (r := r0) (as := [vI 4]) (st := []) (lm_0_70) rfl rfl (Nat.le_of_ble_eq_true rfl) w16125 g0 sh_1 (by decide) rfl (by decide) (s_12 w16125 g0 ⟨by omega, by omega⟩) (fun R16188 T16189 H16190 p16191 => ?_))
        obtain ⟨e16192, w16194, f16195, z16196, e16193, b16197⟩ := p16191
        subst e16192
        subst e16193
        have f16198 := f16126.tr f16195 rfl
        show wp _ _ 11 71 [(2, vI z16107), (0, .ref r0), (1, vI a1)] [vI z16196] _ H16190 _
        have k16199 : H16190 r0 9 = H16085 r0 9 := ((f16195 r0 9 _ g0 rfl).trans ((wq_u_j e16124 rfl).trans ((wq_u_j e16115 rfl).trans (f16106 r0 9 _ g0 rfl))))
        exact wp_ireturn e11 c11_71 rfl ⟨rfl, w16194, f16198, z16196, rfl, ⟨by omega, by omega⟩, by omega⟩
    · refine wp_of e11 c11_12 (rw_aload_n (pc' := 13) (v := .ref r0) rfl rfl rfl ?_)
      refine wp_of e11 c11_13 (rw_iconst (pc' := 14) rfl ?_)
      refine wp_of e11 c11_14 (xc_V (pc' := 17) (r := r0) (as := [vI 2]) (st := []) (lm_0_70) rfl rfl (Nat.le_of_ble_eq_true rfl) hW g0 sh_1 (by decide) rfl (by decide) (s_12 hW g0 ⟨by omega, by omega⟩) (fun R16200 T16201 H16202 p16203 => ?_))
      obtain ⟨e16204, w16206, f16207, z16208, e16205, b16209⟩ := p16203
      subst e16204
      subst e16205
      have f16210 := f0.tr f16207 rfl
      show wp _ _ 11 17 [(0, .ref r0), (1, vI a1)] [vI z16208] _ H16202 _
      have k16211 : H16202 r0 9 = H r0 9 := (f16207 r0 9 _ g0 rfl)
      exact wp_ireturn e11 c11_17 rfl ⟨rfl, w16206, f16210, z16208, rfl, ⟨by omega, by omega⟩, by omega⟩
/-! StrikeAwake.fault()I -/
theorem e52 : wq_en 52 = some (0, 1, false, some FieldType.int) := rfl
theorem c52_0 : mc_cd 52 0 = some (.aload_n 0, 1) := by decide +kernel
theorem c52_1 : mc_cd 52 1 = some (.getfield 81, 3) := by decide +kernel
theorem c52_4 : mc_cd 52 4 = some (.ireturn, 1) := by decide +kernel
abbrev q_52 (r0 : Nat) (T : wq_T) (H : wq_H) : Option Value → wq_T → wq_H → Prop := fun r T' H' => T = T' ∧ H = H' ∧ ∃ z : Int, some (vI z) = r ∧ ((-2147483648) ≤ z ∧ z ≤ 2147483647)
set_option maxHeartbeats 4000000 in
theorem s_52 {kt : Nat → Option mc_E} {T : wq_T} {H : wq_H} {r0 : Nat} (hW : WT T H) (g0 : T.2.2.2 r0 = some 1) : wpc kt 1 52 [.ref r0] T H (q_52 r0 T H) := by
  refine wp_enter e52 (Nat.le_of_ble_eq_true rfl) rfl ?_
  show wp _ _ 52 0 [(0, .ref r0)] [] _ H _
  refine wp_of e52 c52_0 (rw_aload_n (pc' := 1) (v := .ref r0) rfl rfl rfl ?_)
  refine wp_of e52 c52_1 (xg_I (pc' := 4) lf_0_81 hW g0 sh_1 (by decide) (by decide) ty_1_11 rfl rfl (fun b16214 b16215 => ?_))
  exact wp_ireturn e52 c52_4 rfl ⟨rfl, rfl, H r0 11, rfl, ⟨by omega, by omega⟩⟩
/-! StrikeAwake.where()I -/
theorem e53 : wq_en 53 = some (0, 1, false, some FieldType.int) := rfl
theorem c53_0 : mc_cd 53 0 = some (.aload_n 0, 1) := by decide +kernel
theorem c53_1 : mc_cd 53 1 = some (.getfield 102, 3) := by decide +kernel
theorem c53_4 : mc_cd 53 4 = some (.iconst 4, 1) := by decide +kernel
theorem c53_5 : mc_cd 53 5 = some (.if_icmp .ne 10, 3) := by decide +kernel
theorem c53_8 : mc_cd 53 8 = some (.aload_n 0, 1) := by decide +kernel
theorem c53_9 : mc_cd 53 9 = some (.getfield 87, 3) := by decide +kernel
theorem c53_12 : mc_cd 53 12 = some (.goto 4, 3) := by decide +kernel
theorem c53_15 : mc_cd 53 15 = some (.iconst (-1), 1) := by decide +kernel
theorem c53_16 : mc_cd 53 16 = some (.ireturn, 1) := by decide +kernel
abbrev q_53 (r0 : Nat) (T : wq_T) (H : wq_H) : Option Value → wq_T → wq_H → Prop := fun r T' H' => T = T' ∧ H = H' ∧ ∃ z : Int, some (vI z) = r ∧ ((-2147483648) ≤ z ∧ z ≤ 2147483647)
set_option maxHeartbeats 4000000 in
theorem s_53 {kt : Nat → Option mc_E} {T : wq_T} {H : wq_H} {r0 : Nat} (hW : WT T H) (g0 : T.2.2.2 r0 = some 1) : wpc kt 1 53 [.ref r0] T H (q_53 r0 T H) := by
  refine wp_enter e53 (Nat.le_of_ble_eq_true rfl) rfl ?_
  show wp _ _ 53 0 [(0, .ref r0)] [] _ H _
  refine wp_of e53 c53_0 (rw_aload_n (pc' := 1) (v := .ref r0) rfl rfl rfl ?_)
  refine wp_of e53 c53_1 (xg_I (pc' := 4) lf_0_102 hW g0 sh_1 (by decide) (by decide) ty_1_10 rfl rfl (fun b16221 b16222 => ?_))
  refine wp_of e53 c53_4 (rw_iconst (pc' := 5) rfl ?_)
  refine wp_of e53 c53_5 (rw_icmp_ne (p1 := 15) (p2 := 8) (by decide) rfl ⟨by omega, by omega⟩ ⟨by omega, by omega⟩ (fun c16223 => ?_) (fun c16223 => ?_))
  · refine wp_of e53 c53_15 (rw_iconst (pc' := 16) rfl ?_)
    exact wp_ireturn e53 c53_16 rfl ⟨rfl, rfl, -1, rfl, ⟨by omega, by omega⟩⟩
  · refine wp_of e53 c53_8 (rw_aload_n (pc' := 9) (v := .ref r0) rfl rfl rfl ?_)
    refine wp_of e53 c53_9 (xg_I (pc' := 12) lf_0_87 hW g0 sh_1 (by decide) (by decide) ty_1_12 rfl rfl (fun b16224 b16225 => ?_))
    refine wp_of e53 c53_12 (rw_goto (p1 := 16) (by decide) ?_)
    exact wp_ireturn e53 c53_16 rfl ⟨rfl, rfl, H r0 12, rfl, ⟨by omega, by omega⟩⟩
/-! StrikeAwake.isPerson(I)Z -/
theorem e55 : wq_en 55 = some (0, 2, false, some FieldType.boolean) := rfl
theorem c55_0 : mc_cd 55 0 = some (.iload_n 1, 1) := by decide +kernel
theorem c55_1 : mc_cd 55 1 = some (.ifCond .lt 18, 3) := by decide +kernel
theorem c55_4 : mc_cd 55 4 = some (.iload_n 1, 1) := by decide +kernel
theorem c55_5 : mc_cd 55 5 = some (.aload_n 0, 1) := by decide +kernel
theorem c55_6 : mc_cd 55 6 = some (.getfield 51, 3) := by decide +kernel
theorem c55_9 : mc_cd 55 9 = some (.getfield 96, 3) := by decide +kernel
theorem c55_12 : mc_cd 55 12 = some (.if_icmp .ge 7, 3) := by decide +kernel
theorem c55_15 : mc_cd 55 15 = some (.iconst 1, 1) := by decide +kernel
theorem c55_16 : mc_cd 55 16 = some (.goto 4, 3) := by decide +kernel
theorem c55_19 : mc_cd 55 19 = some (.iconst 0, 1) := by decide +kernel
theorem c55_20 : mc_cd 55 20 = some (.ireturn, 1) := by decide +kernel
abbrev q_55 (r0 : Nat) (a1 : Int) (T : wq_T) (H : wq_H) : Option Value → wq_T → wq_H → Prop := fun r T' H' => T = T' ∧ H = H' ∧ ∃ z : Int, some (vI z) = r ∧ (0 ≤ z ∧ z ≤ 1) ∧ (z = 0 ∨ (0 ≤ a1 ∧ a1 ≤ 5))
set_option maxHeartbeats 4000000 in
theorem s_55 {kt : Nat → Option mc_E} {T : wq_T} {H : wq_H} {r0 : Nat} {a1 : Int} (hW : WT T H) (g0 : T.2.2.2 r0 = some 1) (i1 : (-2147483648) ≤ a1 ∧ a1 ≤ 2147483647) : wpc kt 1 55 [.ref r0, vI a1] T H (q_55 r0 a1 T H) := by
  refine wp_enter e55 (Nat.le_of_ble_eq_true rfl) rfl ?_
  show wp _ _ 55 0 [(0, .ref r0), (1, vI a1)] [] _ H _
  refine wp_of e55 c55_0 (rw_iload_n (pc' := 1) (z := a1) rfl rfl ?_)
  refine wp_of e55 c55_1 (rw_if_lt (p1 := 19) (p2 := 4) (by decide) rfl ⟨by omega, by omega⟩ (fun c16233 => ?_) (fun c16233 => ?_))
  · refine wp_of e55 c55_19 (rw_iconst (pc' := 20) rfl ?_)
    exact wp_zreturn e55 c55_20 rfl (by omega) ⟨rfl, rfl, 0, rfl, ⟨by omega, by omega⟩, by omega⟩
  · refine wp_of e55 c55_4 (rw_iload_n (pc' := 5) (z := a1) rfl rfl ?_)
    refine wp_of e55 c55_5 (rw_aload_n (pc' := 6) (v := .ref r0) rfl rfl rfl ?_)
    refine wp_of e55 c55_6 (xg_R (pc' := 9) lf_0_51 hW g0 sh_1 (by decide) (by decide) ty_1_6 rfl rfl (fun r16234 q16235 g16236 => ?_))
    refine wp_of e55 c55_9 (xg_I (pc' := 12) lf_0_96 hW g16236 sh_27 (by decide) (by decide) ty_27_10 rfl rfl (fun b16237 b16238 => ?_))
    refine wp_of e55 c55_12 (rw_icmp_ge (p1 := 19) (p2 := 15) (by decide) rfl ⟨by omega, by omega⟩ ⟨by omega, by omega⟩ (fun c16239 => ?_) (fun c16239 => ?_))
    · refine wp_of e55 c55_19 (rw_iconst (pc' := 20) rfl ?_)
      exact wp_zreturn e55 c55_20 rfl (by omega) ⟨rfl, rfl, 0, rfl, ⟨by omega, by omega⟩, by omega⟩
    · refine wp_of e55 c55_15 (rw_iconst (pc' := 16) rfl ?_)
      refine wp_of e55 c55_16 (rw_goto (p1 := 20) (by decide) ?_)
      exact wp_zreturn e55 c55_20 rfl (by omega) ⟨rfl, rfl, 1, rfl, ⟨by omega, by omega⟩, by omega⟩
/-! StrikeAwake.spans(I)I -/
theorem e54 : wq_en 54 = some (0, 2, false, some FieldType.int) := rfl
theorem c54_0 : mc_cd 54 0 = some (.aload_n 0, 1) := by decide +kernel
theorem c54_1 : mc_cd 54 1 = some (.iload_n 1, 1) := by decide +kernel
theorem c54_2 : mc_cd 54 2 = some (.invokevirtual 105, 3) := by decide +kernel
theorem c54_5 : mc_cd 54 5 = some (.ifCond .ne 9, 3) := by decide +kernel
theorem c54_8 : mc_cd 54 8 = some (.aload_n 0, 1) := by decide +kernel
theorem c54_9 : mc_cd 54 9 = some (.iconst 1, 1) := by decide +kernel
theorem c54_10 : mc_cd 54 10 = some (.invokevirtual 70, 3) := by decide +kernel
theorem c54_13 : mc_cd 54 13 = some (.ireturn, 1) := by decide +kernel
theorem c54_14 : mc_cd 54 14 = some (.aload_n 0, 1) := by decide +kernel
theorem c54_15 : mc_cd 54 15 = some (.aload_n 0, 1) := by decide +kernel
theorem c54_16 : mc_cd 54 16 = some (.getfield 51, 3) := by decide +kernel
theorem c54_19 : mc_cd 54 19 = some (.getfield 109, 3) := by decide +kernel
theorem c54_22 : mc_cd 54 22 = some (.iload_n 1, 1) := by decide +kernel
theorem c54_23 : mc_cd 54 23 = some (.aaload, 1) := by decide +kernel
theorem c54_24 : mc_cd 54 24 = some (.getfield 113, 3) := by decide +kernel
theorem c54_27 : mc_cd 54 27 = some (.invokevirtual 99, 3) := by decide +kernel
theorem c54_30 : mc_cd 54 30 = some (.ireturn, 1) := by decide +kernel
abbrev q_54 (r0 : Nat) (a1 : Int) (T : wq_T) (H : wq_H) : Option Value → wq_T → wq_H → Prop := fun r T' H' => T = T' ∧ WT T H' ∧ wfr [(1, 10)] T H H' ∧ ∃ z : Int, some (vI z) = r ∧ ((-2147483648) ≤ z ∧ z ≤ 2147483647)
set_option maxHeartbeats 4000000 in
theorem s_54 {kt : Nat → Option mc_E} {T : wq_T} {H : wq_H} {r0 : Nat} {a1 : Int} (hW : WT T H) (g0 : T.2.2.2 r0 = some 1) (i1 : (-2147483648) ≤ a1 ∧ a1 ≤ 2147483647) : wpc kt 2 54 [.ref r0, vI a1] T H (q_54 r0 a1 T H) := by
  refine wp_enter e54 (Nat.le_of_ble_eq_true rfl) rfl ?_
  have f0 : wfr [(1, 10)] T H H := wfr.rf
  show wp _ _ 54 0 [(0, .ref r0), (1, vI a1)] [] _ H _
  refine wp_of e54 c54_0 (rw_aload_n (pc' := 1) (v := .ref r0) rfl rfl rfl ?_)
  refine wp_of e54 c54_1 (rw_iload_n (pc' := 2) (z := a1) rfl rfl ?_)
  refine wp_of e54 c54_2 (xc_V (pc' := 5) (r := r0) (as := [vI a1]) (st := []) (lm_0_105) rfl rfl (Nat.le_of_ble_eq_true rfl) hW g0 sh_1 (by decide) rfl (by decide) (s_55 hW g0 ⟨by omega, by omega⟩) (fun R16284 T16285 H16286 p16287 => ?_))
  obtain ⟨e16288, e16290, z16292, e16289, b16293, p16291⟩ := p16287
  subst e16288
  subst e16289
  subst e16290
  show wp _ _ 54 5 [(0, .ref r0), (1, vI a1)] [vI z16292] _ H _
  refine wp_of e54 c54_5 (rw_if_ne (p1 := 14) (p2 := 8) (by decide) rfl ⟨by omega, by omega⟩ (fun c16294 => ?_) (fun c16294 => ?_))
  · refine wp_of e54 c54_14 (rw_aload_n (pc' := 15) (v := .ref r0) rfl rfl rfl ?_)
    refine wp_of e54 c54_15 (rw_aload_n (pc' := 16) (v := .ref r0) rfl rfl rfl ?_)
    refine wp_of e54 c54_16 (xg_R (pc' := 19) lf_0_51 hW g0 sh_1 (by decide) (by decide) ty_1_6 rfl rfl (fun r16295 q16296 g16297 => ?_))
    refine wp_of e54 c54_19 (xg_R (pc' := 22) lf_0_109 hW g16297 sh_27 (by decide) (by decide) ty_27_0 rfl rfl (fun r16298 q16299 g16300 => ?_))
    refine wp_of e54 c54_22 (rw_iload_n (pc' := 23) (z := a1) rfl rfl ?_)
    refine wp_of e54 c54_23 (xa_R (pc' := 24) (by decide) hW g16300 sh_28 (by decide) (ty_28 _) (by omega) (by omega) rfl (fun r16301 q16302 g16303 => ?_))
    refine wp_of e54 c54_24 (xg_I (pc' := 27) lf_0_113 hW g16303 sh_35 (by decide) (by decide) ty_35_15 rfl rfl (fun b16304 b16305 => ?_))
    refine wp_of e54 c54_27 (xc_V (pc' := 30) (r := r0) (as := [vI (H r16301 15)]) (st := []) (lm_0_99) rfl rfl (Nat.le_of_ble_eq_true rfl) hW g0 sh_1 (by decide) rfl (by decide) (s_51 hW g0 ⟨by omega, by omega⟩) (fun R16306 T16307 H16308 p16309 => ?_))
    obtain ⟨e16310, w16312, f16313, z16314, e16311, b16315⟩ := p16309
    subst e16310
    subst e16311
    have f16316 := f0.tr f16313 rfl
    show wp _ _ 54 30 [(0, .ref r0), (1, vI a1)] [vI z16314] _ H16308 _
    exact wp_ireturn e54 c54_30 rfl ⟨rfl, w16312, f16316, z16314, rfl, ⟨by omega, by omega⟩⟩
  · refine wp_of e54 c54_8 (rw_aload_n (pc' := 9) (v := .ref r0) rfl rfl rfl ?_)
    refine wp_of e54 c54_9 (rw_iconst (pc' := 10) rfl ?_)
    refine wp_of e54 c54_10 (xc_V (pc' := 13) (r := r0) (as := [vI 1]) (st := []) (lm_0_70) rfl rfl (Nat.le_of_ble_eq_true rfl) hW g0 sh_1 (by decide) rfl (by decide) (s_12 hW g0 ⟨by omega, by omega⟩) (fun R16317 T16318 H16319 p16320 => ?_))
    obtain ⟨e16321, w16323, f16324, z16325, e16322, b16326⟩ := p16320
    subst e16321
    subst e16322
    have f16327 := f0.tr f16324 rfl
    show wp _ _ 54 13 [(0, .ref r0), (1, vI a1)] [vI z16325] _ H16319 _
    exact wp_ireturn e54 c54_13 rfl ⟨rfl, w16323, f16327, z16325, rfl, ⟨by omega, by omega⟩⟩
/-! StrikeAwake.isSpan(II)Z -/
theorem e57 : wq_en 57 = some (0, 3, false, some FieldType.boolean) := rfl
theorem c57_0 : mc_cd 57 0 = some (.aload_n 0, 1) := by decide +kernel
theorem c57_1 : mc_cd 57 1 = some (.iload_n 1, 1) := by decide +kernel
theorem c57_2 : mc_cd 57 2 = some (.invokevirtual 105, 3) := by decide +kernel
theorem c57_5 : mc_cd 57 5 = some (.ifCond .eq 27, 3) := by decide +kernel
theorem c57_8 : mc_cd 57 8 = some (.iload_n 2, 1) := by decide +kernel
theorem c57_9 : mc_cd 57 9 = some (.ifCond .lt 23, 3) := by decide +kernel
theorem c57_12 : mc_cd 57 12 = some (.iload_n 2, 1) := by decide +kernel
theorem c57_13 : mc_cd 57 13 = some (.aload_n 0, 1) := by decide +kernel
theorem c57_14 : mc_cd 57 14 = some (.getfield 51, 3) := by decide +kernel
theorem c57_17 : mc_cd 57 17 = some (.getfield 109, 3) := by decide +kernel
theorem c57_20 : mc_cd 57 20 = some (.iload_n 1, 1) := by decide +kernel
theorem c57_21 : mc_cd 57 21 = some (.aaload, 1) := by decide +kernel
theorem c57_22 : mc_cd 57 22 = some (.getfield 113, 3) := by decide +kernel
theorem c57_25 : mc_cd 57 25 = some (.if_icmp .ge 7, 3) := by decide +kernel
theorem c57_28 : mc_cd 57 28 = some (.iconst 1, 1) := by decide +kernel
theorem c57_29 : mc_cd 57 29 = some (.goto 4, 3) := by decide +kernel
theorem c57_32 : mc_cd 57 32 = some (.iconst 0, 1) := by decide +kernel
theorem c57_33 : mc_cd 57 33 = some (.ireturn, 1) := by decide +kernel
abbrev q_57 (r0 : Nat) (a1 : Int) (a2 : Int) (T : wq_T) (H : wq_H) : Option Value → wq_T → wq_H → Prop := fun r T' H' => T = T' ∧ H = H' ∧ ∃ z : Int, some (vI z) = r ∧ (0 ≤ z ∧ z ≤ 1) ∧ (z = 0 ∨ (0 ≤ a1 ∧ a1 ≤ 5 ∧ 0 ≤ a2 ∧ a2 ≤ 39))
set_option maxHeartbeats 4000000 in
theorem s_57 {kt : Nat → Option mc_E} {T : wq_T} {H : wq_H} {r0 : Nat} {a1 : Int} {a2 : Int} (hW : WT T H) (g0 : T.2.2.2 r0 = some 1) (i1 : (-2147483648) ≤ a1 ∧ a1 ≤ 2147483647) (i2 : (-2147483648) ≤ a2 ∧ a2 ≤ 2147483647) : wpc kt 2 57 [.ref r0, vI a1, vI a2] T H (q_57 r0 a1 a2 T H) := by
  refine wp_enter e57 (Nat.le_of_ble_eq_true rfl) rfl ?_
  show wp _ _ 57 0 [(0, .ref r0), (1, vI a1), (2, vI a2)] [] _ H _
  refine wp_of e57 c57_0 (rw_aload_n (pc' := 1) (v := .ref r0) rfl rfl rfl ?_)
  refine wp_of e57 c57_1 (rw_iload_n (pc' := 2) (z := a1) rfl rfl ?_)
  refine wp_of e57 c57_2 (xc_V (pc' := 5) (r := r0) (as := [vI a1]) (st := []) (lm_0_105) rfl rfl (Nat.le_of_ble_eq_true rfl) hW g0 sh_1 (by decide) rfl (by decide) (s_55 hW g0 ⟨by omega, by omega⟩) (fun R16352 T16353 H16354 p16355 => ?_))
  obtain ⟨e16356, e16358, z16360, e16357, b16361, p16359⟩ := p16355
  subst e16356
  subst e16357
  subst e16358
  show wp _ _ 57 5 [(0, .ref r0), (1, vI a1), (2, vI a2)] [vI z16360] _ H _
  refine wp_of e57 c57_5 (rw_if_eq (p1 := 32) (p2 := 8) (by decide) rfl ⟨by omega, by omega⟩ (fun c16362 => ?_) (fun c16362 => ?_))
  · refine wp_of e57 c57_32 (rw_iconst (pc' := 33) rfl ?_)
    exact wp_zreturn e57 c57_33 rfl (by omega) ⟨rfl, rfl, 0, rfl, ⟨by omega, by omega⟩, by omega⟩
  · refine wp_of e57 c57_8 (rw_iload_n (pc' := 9) (z := a2) rfl rfl ?_)
    refine wp_of e57 c57_9 (rw_if_lt (p1 := 32) (p2 := 12) (by decide) rfl ⟨by omega, by omega⟩ (fun c16363 => ?_) (fun c16363 => ?_))
    · refine wp_of e57 c57_32 (rw_iconst (pc' := 33) rfl ?_)
      exact wp_zreturn e57 c57_33 rfl (by omega) ⟨rfl, rfl, 0, rfl, ⟨by omega, by omega⟩, by omega⟩
    · refine wp_of e57 c57_12 (rw_iload_n (pc' := 13) (z := a2) rfl rfl ?_)
      refine wp_of e57 c57_13 (rw_aload_n (pc' := 14) (v := .ref r0) rfl rfl rfl ?_)
      refine wp_of e57 c57_14 (xg_R (pc' := 17) lf_0_51 hW g0 sh_1 (by decide) (by decide) ty_1_6 rfl rfl (fun r16364 q16365 g16366 => ?_))
      refine wp_of e57 c57_17 (xg_R (pc' := 20) lf_0_109 hW g16366 sh_27 (by decide) (by decide) ty_27_0 rfl rfl (fun r16367 q16368 g16369 => ?_))
      refine wp_of e57 c57_20 (rw_iload_n (pc' := 21) (z := a1) rfl rfl ?_)
      refine wp_of e57 c57_21 (xa_R (pc' := 22) (by decide) hW g16369 sh_28 (by decide) (ty_28 _) (by omega) (by omega) rfl (fun r16370 q16371 g16372 => ?_))
      refine wp_of e57 c57_22 (xg_I (pc' := 25) lf_0_113 hW g16372 sh_35 (by decide) (by decide) ty_35_15 rfl rfl (fun b16373 b16374 => ?_))
      refine wp_of e57 c57_25 (rw_icmp_ge (p1 := 32) (p2 := 28) (by decide) rfl ⟨by omega, by omega⟩ ⟨by omega, by omega⟩ (fun c16375 => ?_) (fun c16375 => ?_))
      · refine wp_of e57 c57_32 (rw_iconst (pc' := 33) rfl ?_)
        exact wp_zreturn e57 c57_33 rfl (by omega) ⟨rfl, rfl, 0, rfl, ⟨by omega, by omega⟩, by omega⟩
      · refine wp_of e57 c57_28 (rw_iconst (pc' := 29) rfl ?_)
        refine wp_of e57 c57_29 (rw_goto (p1 := 33) (by decide) ?_)
        exact wp_zreturn e57 c57_33 rfl (by omega) ⟨rfl, rfl, 1, rfl, ⟨by omega, by omega⟩, by omega⟩
/-! StrikeAwake$Person.weightOf(I)I -/
theorem e58 : wq_en 58 = some (8, 2, false, some FieldType.int) := rfl
theorem c58_0 : mc_cd 58 0 = some (.aload_n 0, 1) := by decide +kernel
theorem c58_1 : mc_cd 58 1 = some (.getfield 35, 3) := by decide +kernel
theorem c58_4 : mc_cd 58 4 = some (.iconst (-1), 1) := by decide +kernel
theorem c58_5 : mc_cd 58 5 = some (.if_icmp .ne 5, 3) := by decide +kernel
theorem c58_8 : mc_cd 58 8 = some (.iconst 1, 1) := by decide +kernel
theorem c58_9 : mc_cd 58 9 = some (.ireturn, 1) := by decide +kernel
theorem c58_10 : mc_cd 58 10 = some (.iconst 1, 1) := by decide +kernel
theorem c58_11 : mc_cd 58 11 = some (.bipush 10, 2) := by decide +kernel
theorem c58_13 : mc_cd 58 13 = some (.aload_n 0, 1) := by decide +kernel
theorem c58_14 : mc_cd 58 14 = some (.getfield 9, 3) := by decide +kernel
theorem c58_17 : mc_cd 58 17 = some (.iload_n 1, 1) := by decide +kernel
theorem c58_18 : mc_cd 58 18 = some (.iaload, 1) := by decide +kernel
theorem c58_19 : mc_cd 58 19 = some (.aload_n 0, 1) := by decide +kernel
theorem c58_20 : mc_cd 58 20 = some (.getfield 35, 3) := by decide +kernel
theorem c58_23 : mc_cd 58 23 = some (.isub, 1) := by decide +kernel
theorem c58_24 : mc_cd 58 24 = some (.invokestatic 84, 3) := by decide +kernel
theorem c58_27 : mc_cd 58 27 = some (.isub, 1) := by decide +kernel
theorem c58_28 : mc_cd 58 28 = some (.invokestatic 90, 3) := by decide +kernel
theorem c58_31 : mc_cd 58 31 = some (.ireturn, 1) := by decide +kernel
abbrev q_58 (r0 : Nat) (a1 : Int) (T : wq_T) (H : wq_H) : Option Value → wq_T → wq_H → Prop := fun r T' H' => T = T' ∧ H = H' ∧ ∃ z : Int, some (vI z) = r ∧ (1 ≤ z ∧ z ≤ 10)
set_option maxHeartbeats 4000000 in
theorem s_58 {kt : Nat → Option mc_E} {T : wq_T} {H : wq_H} {r0 : Nat} {a1 : Int} (hW : WT T H) (g0 : T.2.2.2 r0 = some 35) (i1 : 0 ≤ a1 ∧ a1 ≤ 39) : wpc kt 1 58 [.ref r0, vI a1] T H (q_58 r0 a1 T H) := by
  refine wp_enter e58 (Nat.le_of_ble_eq_true rfl) rfl ?_
  show wp _ _ 58 0 [(0, .ref r0), (1, vI a1)] [] _ H _
  refine wp_of e58 c58_0 (rw_aload_n (pc' := 1) (v := .ref r0) rfl rfl rfl ?_)
  refine wp_of e58 c58_1 (xg_I (pc' := 4) lf_8_35 hW g0 sh_35 (by decide) (by decide) ty_35_11 rfl rfl (fun b16390 b16391 => ?_))
  refine wp_of e58 c58_4 (rw_iconst (pc' := 5) rfl ?_)
  refine wp_of e58 c58_5 (rw_icmp_ne (p1 := 10) (p2 := 8) (by decide) rfl ⟨by omega, by omega⟩ ⟨by omega, by omega⟩ (fun c16392 => ?_) (fun c16392 => ?_))
  · refine wp_of e58 c58_10 (rw_iconst (pc' := 11) rfl ?_)
    refine wp_of e58 c58_11 (rw_bipush (pc' := 13) (z := 10) rfl (by decide) ?_)
    refine wp_of e58 c58_13 (rw_aload_n (pc' := 14) (v := .ref r0) rfl rfl rfl ?_)
    refine wp_of e58 c58_14 (xg_R (pc' := 17) lf_8_9 hW g0 sh_35 (by decide) (by decide) ty_35_0 rfl rfl (fun r16393 q16394 g16395 => ?_))
    refine wp_of e58 c58_17 (rw_iload_n (pc' := 18) (z := a1) rfl rfl ?_)
    refine wp_of e58 c58_18 (xa_I (so := 0) (pc' := 19) hW g16395 sh_36 (by decide) (ty_36 _) (by omega) (by omega) rfl (fun b16396 b16397 => ?_))
    refine wp_of e58 c58_19 (rw_aload_n (pc' := 20) (v := .ref r0) rfl rfl rfl ?_)
    refine wp_of e58 c58_20 (xg_I (pc' := 23) lf_8_35 hW g0 sh_35 (by decide) (by decide) ty_35_11 rfl rfl (fun b16398 b16399 => ?_))
    refine wp_of e58 c58_23 (rw_isub (pc' := 24) rfl ?_)
    refine wp_of e58 c58_24 (rw_abs (pc' := 27) rfl rfl ⟨by omega, by omega⟩ rfl (Nat.le_of_ble_eq_true rfl) rfl ?_)
    obtain ⟨v16400, e16401⟩ : ∃ x : Int, x = if 0 ≤ ((H r16393 (a1.toNat)) - (H r0 11)) then ((H r16393 (a1.toNat)) - (H r0 11)) else 0 - ((H r16393 (a1.toNat)) - (H r0 11)) := ⟨_, rfl⟩
    rw [← e16401]
    have b16402 : (v16400 = ((H r16393 (a1.toNat)) - (H r0 11)) ∨ v16400 = 0 - ((H r16393 (a1.toNat)) - (H r0 11))) ∧ 0 ≤ v16400 := by
      rw [e16401]
      split <;> omega
    refine wp_of e58 c58_27 (rw_isub (pc' := 28) rfl ?_)
    refine wp_of e58 c58_28 (rw_math2 (pc' := 31) (z := max 1 (10 - v16400)) rfl rfl ⟨by omega, by omega⟩ ⟨by omega, by omega⟩ (Or.inr ⟨rfl, rfl⟩) (Nat.le_of_ble_eq_true rfl) rfl ?_)
    obtain ⟨v16403, e16404⟩ : ∃ x : Int, x = max 1 (10 - v16400) := ⟨_, rfl⟩
    rw [← e16404]
    have b16405 : v16403 = 1 ∨ v16403 = (10 - v16400) := by
      rw [e16404]
      omega
    have b16406 : 1 ≤ v16403 ∧ (10 - v16400) ≤ v16403 := by
      rw [e16404]
      omega
    exact wp_ireturn e58 c58_31 rfl ⟨rfl, rfl, v16403, rfl, ⟨by omega, by omega⟩⟩
  · refine wp_of e58 c58_8 (rw_iconst (pc' := 9) rfl ?_)
    exact wp_ireturn e58 c58_9 rfl ⟨rfl, rfl, 1, rfl, ⟨by omega, by omega⟩⟩
/-! StrikeAwake.span(III)I -/
theorem e56 : wq_en 56 = some (0, 5, false, some FieldType.int) := rfl
theorem c56_0 : mc_cd 56 0 = some (.aload_n 0, 1) := by decide +kernel
theorem c56_1 : mc_cd 56 1 = some (.iload_n 1, 1) := by decide +kernel
theorem c56_2 : mc_cd 56 2 = some (.iload_n 2, 1) := by decide +kernel
theorem c56_3 : mc_cd 56 3 = some (.invokevirtual 118, 3) := by decide +kernel
theorem c56_6 : mc_cd 56 6 = some (.ifCond .eq 12, 3) := by decide +kernel
theorem c56_9 : mc_cd 56 9 = some (.iload_n 3, 1) := by decide +kernel
theorem c56_10 : mc_cd 56 10 = some (.ifCond .lt 8, 3) := by decide +kernel
theorem c56_13 : mc_cd 56 13 = some (.iload_n 3, 1) := by decide +kernel
theorem c56_14 : mc_cd 56 14 = some (.iconst 2, 1) := by decide +kernel
theorem c56_15 : mc_cd 56 15 = some (.if_icmp .le 9, 3) := by decide +kernel
theorem c56_18 : mc_cd 56 18 = some (.aload_n 0, 1) := by decide +kernel
theorem c56_19 : mc_cd 56 19 = some (.iconst 1, 1) := by decide +kernel
theorem c56_20 : mc_cd 56 20 = some (.invokevirtual 70, 3) := by decide +kernel
theorem c56_23 : mc_cd 56 23 = some (.ireturn, 1) := by decide +kernel
theorem c56_24 : mc_cd 56 24 = some (.aload_n 0, 1) := by decide +kernel
theorem c56_25 : mc_cd 56 25 = some (.getfield 51, 3) := by decide +kernel
theorem c56_28 : mc_cd 56 28 = some (.getfield 109, 3) := by decide +kernel
theorem c56_31 : mc_cd 56 31 = some (.iload_n 1, 1) := by decide +kernel
theorem c56_32 : mc_cd 56 32 = some (.aaload, 1) := by decide +kernel
theorem c56_33 : mc_cd 56 33 = some (.astore 4, 2) := by decide +kernel
theorem c56_35 : mc_cd 56 35 = some (.iload_n 3, 1) := by decide +kernel
theorem c56_36 : mc_cd 56 36 = some (.iconst 2, 1) := by decide +kernel
theorem c56_37 : mc_cd 56 37 = some (.if_icmp .ne 14, 3) := by decide +kernel
theorem c56_40 : mc_cd 56 40 = some (.aload_n 0, 1) := by decide +kernel
theorem c56_41 : mc_cd 56 41 = some (.aload 4, 2) := by decide +kernel
theorem c56_43 : mc_cd 56 43 = some (.iload_n 2, 1) := by decide +kernel
theorem c56_44 : mc_cd 56 44 = some (.invokevirtual 122, 3) := by decide +kernel
theorem c56_47 : mc_cd 56 47 = some (.invokevirtual 99, 3) := by decide +kernel
theorem c56_50 : mc_cd 56 50 = some (.ireturn, 1) := by decide +kernel
theorem c56_51 : mc_cd 56 51 = some (.aload_n 0, 1) := by decide +kernel
theorem c56_52 : mc_cd 56 52 = some (.iload_n 3, 1) := by decide +kernel
theorem c56_53 : mc_cd 56 53 = some (.ifCond .ne 13, 3) := by decide +kernel
theorem c56_56 : mc_cd 56 56 = some (.aload 4, 2) := by decide +kernel
theorem c56_58 : mc_cd 56 58 = some (.getfield 125, 3) := by decide +kernel
theorem c56_61 : mc_cd 56 61 = some (.iload_n 2, 1) := by decide +kernel
theorem c56_62 : mc_cd 56 62 = some (.iaload, 1) := by decide +kernel
theorem c56_63 : mc_cd 56 63 = some (.goto 10, 3) := by decide +kernel
theorem c56_66 : mc_cd 56 66 = some (.aload 4, 2) := by decide +kernel
theorem c56_68 : mc_cd 56 68 = some (.getfield 129, 3) := by decide +kernel
theorem c56_71 : mc_cd 56 71 = some (.iload_n 2, 1) := by decide +kernel
theorem c56_72 : mc_cd 56 72 = some (.iaload, 1) := by decide +kernel
theorem c56_73 : mc_cd 56 73 = some (.invokevirtual 99, 3) := by decide +kernel
theorem c56_76 : mc_cd 56 76 = some (.ireturn, 1) := by decide +kernel
abbrev q_56 (r0 : Nat) (a1 : Int) (a2 : Int) (a3 : Int) (T : wq_T) (H : wq_H) : Option Value → wq_T → wq_H → Prop := fun r T' H' => T = T' ∧ WT T H' ∧ wfr [(1, 10)] T H H' ∧ ∃ z : Int, some (vI z) = r ∧ ((-2147483648) ≤ z ∧ z ≤ 2147483647)
set_option maxHeartbeats 4000000 in
theorem s_56 {kt : Nat → Option mc_E} {T : wq_T} {H : wq_H} {r0 : Nat} {a1 : Int} {a2 : Int} {a3 : Int} (hW : WT T H) (g0 : T.2.2.2 r0 = some 1) (i1 : (-2147483648) ≤ a1 ∧ a1 ≤ 2147483647) (i2 : (-2147483648) ≤ a2 ∧ a2 ≤ 2147483647) (i3 : (-2147483648) ≤ a3 ∧ a3 ≤ 2147483647) : wpc kt 3 56 [.ref r0, vI a1, vI a2, vI a3] T H (q_56 r0 a1 a2 a3 T H) := by
  refine wp_enter e56 (Nat.le_of_ble_eq_true rfl) rfl ?_
  have f0 : wfr [(1, 10)] T H H := wfr.rf
  show wp _ _ 56 0 [(0, .ref r0), (1, vI a1), (2, vI a2), (3, vI a3)] [] _ H _
  refine wp_of e56 c56_0 (rw_aload_n (pc' := 1) (v := .ref r0) rfl rfl rfl ?_)
  refine wp_of e56 c56_1 (rw_iload_n (pc' := 2) (z := a1) rfl rfl ?_)
  refine wp_of e56 c56_2 (rw_iload_n (pc' := 3) (z := a2) rfl rfl ?_)
  refine wp_of e56 c56_3 (xc_V (pc' := 6) (r := r0) (as := [vI a1, vI a2]) (st := []) (lm_0_118) rfl rfl (Nat.le_of_ble_eq_true rfl) hW g0 sh_1 (by decide) rfl (by decide) (s_57 hW g0 ⟨by omega, by omega⟩ ⟨by omega, by omega⟩) (fun R16516 T16517 H16518 p16519 => ?_))
  obtain ⟨e16520, e16522, z16524, e16521, b16525, p16523⟩ := p16519
  subst e16520
  subst e16521
  subst e16522
  show wp _ _ 56 6 [(0, .ref r0), (1, vI a1), (2, vI a2), (3, vI a3)] [vI z16524] _ H _
  refine wp_of e56 c56_6 (rw_if_eq (p1 := 18) (p2 := 9) (by decide) rfl ⟨by omega, by omega⟩ (fun c16526 => ?_) (fun c16526 => ?_))
  · refine wp_of e56 c56_18 (rw_aload_n (pc' := 19) (v := .ref r0) rfl rfl rfl ?_)
    refine wp_of e56 c56_19 (rw_iconst (pc' := 20) rfl ?_)
    refine wp_of e56 c56_20 (xc_V (pc' := 23) (r := r0) (as := [vI 1]) (st := []) (lm_0_70) rfl rfl (Nat.le_of_ble_eq_true rfl) hW g0 sh_1 (by decide) rfl (by decide) (s_12 hW g0 ⟨by omega, by omega⟩) (fun R16527 T16528 H16529 p16530 => ?_))
    obtain ⟨e16531, w16533, f16534, z16535, e16532, b16536⟩ := p16530
    subst e16531
    subst e16532
    have f16537 := f0.tr f16534 rfl
    show wp _ _ 56 23 [(0, .ref r0), (1, vI a1), (2, vI a2), (3, vI a3)] [vI z16535] _ H16529 _
    exact wp_ireturn e56 c56_23 rfl ⟨rfl, w16533, f16537, z16535, rfl, ⟨by omega, by omega⟩⟩
  · refine wp_of e56 c56_9 (rw_iload_n (pc' := 10) (z := a3) rfl rfl ?_)
    refine wp_of e56 c56_10 (rw_if_lt (p1 := 18) (p2 := 13) (by decide) rfl ⟨by omega, by omega⟩ (fun c16538 => ?_) (fun c16538 => ?_))
    · refine wp_of e56 c56_18 (rw_aload_n (pc' := 19) (v := .ref r0) rfl rfl rfl ?_)
      refine wp_of e56 c56_19 (rw_iconst (pc' := 20) rfl ?_)
      refine wp_of e56 c56_20 (xc_V (pc' := 23) (r := r0) (as := [vI 1]) (st := []) (lm_0_70) rfl rfl (Nat.le_of_ble_eq_true rfl) hW g0 sh_1 (by decide) rfl (by decide) (s_12 hW g0 ⟨by omega, by omega⟩) (fun R16539 T16540 H16541 p16542 => ?_))
      obtain ⟨e16543, w16545, f16546, z16547, e16544, b16548⟩ := p16542
      subst e16543
      subst e16544
      have f16549 := f0.tr f16546 rfl
      show wp _ _ 56 23 [(0, .ref r0), (1, vI a1), (2, vI a2), (3, vI a3)] [vI z16547] _ H16541 _
      exact wp_ireturn e56 c56_23 rfl ⟨rfl, w16545, f16549, z16547, rfl, ⟨by omega, by omega⟩⟩
    · refine wp_of e56 c56_13 (rw_iload_n (pc' := 14) (z := a3) rfl rfl ?_)
      refine wp_of e56 c56_14 (rw_iconst (pc' := 15) rfl ?_)
      refine wp_of e56 c56_15 (rw_icmp_le (p1 := 24) (p2 := 18) (by decide) rfl ⟨by omega, by omega⟩ ⟨by omega, by omega⟩ (fun c16550 => ?_) (fun c16550 => ?_))
      · refine wp_of e56 c56_24 (rw_aload_n (pc' := 25) (v := .ref r0) rfl rfl rfl ?_)
        refine wp_of e56 c56_25 (xg_R (pc' := 28) lf_0_51 hW g0 sh_1 (by decide) (by decide) ty_1_6 rfl rfl (fun r16551 q16552 g16553 => ?_))
        refine wp_of e56 c56_28 (xg_R (pc' := 31) lf_0_109 hW g16553 sh_27 (by decide) (by decide) ty_27_0 rfl rfl (fun r16554 q16555 g16556 => ?_))
        refine wp_of e56 c56_31 (rw_iload_n (pc' := 32) (z := a1) rfl rfl ?_)
        refine wp_of e56 c56_32 (xa_R (pc' := 33) (by decide) hW g16556 sh_28 (by decide) (ty_28 _) (by omega) (by omega) rfl (fun r16557 q16558 g16559 => ?_))
        refine wp_of e56 c56_33 (rw_astore (pc' := 35) (v := .ref r16557) (L' := [(4, .ref r16557), (0, .ref r0), (1, vI a1), (2, vI a2), (3, vI a3)]) rfl rfl rfl rfl ?_)
        refine wp_of e56 c56_35 (rw_iload_n (pc' := 36) (z := a3) rfl rfl ?_)
        refine wp_of e56 c56_36 (rw_iconst (pc' := 37) rfl ?_)
        refine wp_of e56 c56_37 (rw_icmp_ne (p1 := 51) (p2 := 40) (by decide) rfl ⟨by omega, by omega⟩ ⟨by omega, by omega⟩ (fun c16560 => ?_) (fun c16560 => ?_))
        · refine wp_of e56 c56_51 (rw_aload_n (pc' := 52) (v := .ref r0) rfl rfl rfl ?_)
          refine wp_of e56 c56_52 (rw_iload_n (pc' := 53) (z := a3) rfl rfl ?_)
          refine wp_of e56 c56_53 (rw_if_ne (p1 := 66) (p2 := 56) (by decide) rfl ⟨by omega, by omega⟩ (fun c16561 => ?_) (fun c16561 => ?_))
          · refine wp_of e56 c56_66 (rw_aload (pc' := 68) (v := .ref r16557) rfl rfl rfl ?_)
            refine wp_of e56 c56_68 (xg_R (pc' := 71) lf_0_129 hW g16559 sh_35 (by decide) (by decide) ty_35_1 rfl rfl (fun r16562 q16563 g16564 => ?_))
            refine wp_of e56 c56_71 (rw_iload_n (pc' := 72) (z := a2) rfl rfl ?_)
            refine wp_of e56 c56_72 (xa_I (so := 0) (pc' := 73) hW g16564 sh_37 (by decide) (ty_37 _) (by omega) (by omega) rfl (fun b16565 b16566 => ?_))
            refine wp_of e56 c56_73 (xc_V (pc' := 76) (r := r0) (as := [vI (H r16562 (a2.toNat))]) (st := []) (lm_0_99) rfl rfl (Nat.le_of_ble_eq_true rfl) hW g0 sh_1 (by decide) rfl (by decide) (s_51 hW g0 ⟨by omega, by omega⟩) (fun R16567 T16568 H16569 p16570 => ?_))
            obtain ⟨e16571, w16573, f16574, z16575, e16572, b16576⟩ := p16570
            subst e16571
            subst e16572
            have f16577 := f0.tr f16574 rfl
            show wp _ _ 56 76 [(4, .ref r16557), (0, .ref r0), (1, vI a1), (2, vI a2), (3, vI a3)] [vI z16575] _ H16569 _
            exact wp_ireturn e56 c56_76 rfl ⟨rfl, w16573, f16577, z16575, rfl, ⟨by omega, by omega⟩⟩
          · refine wp_of e56 c56_56 (rw_aload (pc' := 58) (v := .ref r16557) rfl rfl rfl ?_)
            refine wp_of e56 c56_58 (xg_R (pc' := 61) lf_0_125 hW g16559 sh_35 (by decide) (by decide) ty_35_0 rfl rfl (fun r16578 q16579 g16580 => ?_))
            refine wp_of e56 c56_61 (rw_iload_n (pc' := 62) (z := a2) rfl rfl ?_)
            refine wp_of e56 c56_62 (xa_I (so := 0) (pc' := 63) hW g16580 sh_36 (by decide) (ty_36 _) (by omega) (by omega) rfl (fun b16581 b16582 => ?_))
            refine wp_of e56 c56_63 (rw_goto (p1 := 73) (by decide) ?_)
            refine wp_of e56 c56_73 (xc_V (pc' := 76) (r := r0) (as := [vI (H r16578 (a2.toNat))]) (st := []) (lm_0_99) rfl rfl (Nat.le_of_ble_eq_true rfl) hW g0 sh_1 (by decide) rfl (by decide) (s_51 hW g0 ⟨by omega, by omega⟩) (fun R16583 T16584 H16585 p16586 => ?_))
            obtain ⟨e16587, w16589, f16590, z16591, e16588, b16592⟩ := p16586
            subst e16587
            subst e16588
            have f16593 := f0.tr f16590 rfl
            show wp _ _ 56 76 [(4, .ref r16557), (0, .ref r0), (1, vI a1), (2, vI a2), (3, vI a3)] [vI z16591] _ H16585 _
            exact wp_ireturn e56 c56_76 rfl ⟨rfl, w16589, f16593, z16591, rfl, ⟨by omega, by omega⟩⟩
        · refine wp_of e56 c56_40 (rw_aload_n (pc' := 41) (v := .ref r0) rfl rfl rfl ?_)
          refine wp_of e56 c56_41 (rw_aload (pc' := 43) (v := .ref r16557) rfl rfl rfl ?_)
          refine wp_of e56 c56_43 (rw_iload_n (pc' := 44) (z := a2) rfl rfl ?_)
          refine wp_of e56 c56_44 (xc_V (pc' := 47) (r := r16557) (as := [vI a2]) (st := [.ref r0]) (lm_0_122) rfl rfl (Nat.le_of_ble_eq_true rfl) hW g16559 sh_35 (by decide) rfl (by decide) (s_58 hW g16559 ⟨by omega, by omega⟩) (fun R16594 T16595 H16596 p16597 => ?_))
          obtain ⟨e16598, e16600, z16601, e16599, b16602⟩ := p16597
          subst e16598
          subst e16599
          subst e16600
          show wp _ _ 56 47 [(4, .ref r16557), (0, .ref r0), (1, vI a1), (2, vI a2), (3, vI a3)] [vI z16601, .ref r0] _ H _
          refine wp_of e56 c56_47 (xc_V (pc' := 50) (r := r0) (as := [vI z16601]) (st := []) (lm_0_99) rfl rfl (Nat.le_of_ble_eq_true rfl) hW g0 sh_1 (by decide) rfl (by decide) (s_51 hW g0 ⟨by omega, by omega⟩) (fun R16603 T16604 H16605 p16606 => ?_))
          obtain ⟨e16607, w16609, f16610, z16611, e16608, b16612⟩ := p16606
          subst e16607
          subst e16608
          have f16613 := f0.tr f16610 rfl
          show wp _ _ 56 50 [(4, .ref r16557), (0, .ref r0), (1, vI a1), (2, vI a2), (3, vI a3)] [vI z16611] _ H16605 _
          exact wp_ireturn e56 c56_50 rfl ⟨rfl, w16609, f16613, z16611, rfl, ⟨by omega, by omega⟩⟩
      · refine wp_of e56 c56_18 (rw_aload_n (pc' := 19) (v := .ref r0) rfl rfl rfl ?_)
        refine wp_of e56 c56_19 (rw_iconst (pc' := 20) rfl ?_)
        refine wp_of e56 c56_20 (xc_V (pc' := 23) (r := r0) (as := [vI 1]) (st := []) (lm_0_70) rfl rfl (Nat.le_of_ble_eq_true rfl) hW g0 sh_1 (by decide) rfl (by decide) (s_12 hW g0 ⟨by omega, by omega⟩) (fun R16614 T16615 H16616 p16617 => ?_))
        obtain ⟨e16618, w16620, f16621, z16622, e16619, b16623⟩ := p16617
        subst e16618
        subst e16619
        have f16624 := f0.tr f16621 rfl
        show wp _ _ 56 23 [(0, .ref r0), (1, vI a1), (2, vI a2), (3, vI a3)] [vI z16622] _ H16616 _
        exact wp_ireturn e56 c56_23 rfl ⟨rfl, w16620, f16624, z16622, rfl, ⟨by omega, by omega⟩⟩
