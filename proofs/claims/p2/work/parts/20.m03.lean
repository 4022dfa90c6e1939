/-! methods (own work, written by wip/gen2/sx.py) -/
/-! StrikeAwake$Reader.reads([BILStrikeAwake$Parish;)Z -/
theorem e13 : wq_en 13 = some (1, 5, false, some FieldType.boolean) := rfl
theorem c13_0 : mc_cd 13 0 = some (.aload_n 0, 1) := by decide +kernel
theorem c13_1 : mc_cd 13 1 = some (.iconst 0, 1) := by decide +kernel
theorem c13_2 : mc_cd 13 2 = some (.putfield 18, 3) := by decide +kernel
theorem c13_5 : mc_cd 13 5 = some (.aload_n 0, 1) := by decide +kernel
theorem c13_6 : mc_cd 13 6 = some (.iconst (-1), 1) := by decide +kernel
theorem c13_7 : mc_cd 13 7 = some (.putfield 22, 3) := by decide +kernel
theorem c13_10 : mc_cd 13 10 = some (.aload_n 3, 1) := by decide +kernel
theorem c13_11 : mc_cd 13 11 = some (.invokevirtual 25, 3) := by decide +kernel
theorem c13_14 : mc_cd 13 14 = some (.aload_n 0, 1) := by decide +kernel
theorem c13_15 : mc_cd 13 15 = some (.getfield 12, 3) := by decide +kernel
theorem c13_18 : mc_cd 13 18 = some (.aload_n 1, 1) := by decide +kernel
theorem c13_19 : mc_cd 13 19 = some (.iload_n 2, 1) := by decide +kernel
theorem c13_20 : mc_cd 13 20 = some (.invokevirtual 30, 3) := by decide +kernel
theorem c13_23 : mc_cd 13 23 = some (.iconst 0, 1) := by decide +kernel
theorem c13_24 : mc_cd 13 24 = some (.istore 4, 2) := by decide +kernel
theorem c13_26 : mc_cd 13 26 = some (.iload 4, 2) := by decide +kernel
theorem c13_28 : mc_cd 13 28 = some (.sipush 900, 3) := by decide +kernel
theorem c13_31 : mc_cd 13 31 = some (.if_icmp .gt 68, 3) := by decide +kernel
theorem c13_34 : mc_cd 13 34 = some (.aload_n 0, 1) := by decide +kernel
theorem c13_35 : mc_cd 13 35 = some (.aload_n 3, 1) := by decide +kernel
theorem c13_36 : mc_cd 13 36 = some (.invokevirtual 34, 3) := by decide +kernel
theorem c13_39 : mc_cd 13 39 = some (.ifCond .ne 5, 3) := by decide +kernel
theorem c13_42 : mc_cd 13 42 = some (.iconst 0, 1) := by decide +kernel
theorem c13_43 : mc_cd 13 43 = some (.ireturn, 1) := by decide +kernel
theorem c13_44 : mc_cd 13 44 = some (.aload_n 0, 1) := by decide +kernel
theorem c13_45 : mc_cd 13 45 = some (.getfield 12, 3) := by decide +kernel
theorem c13_48 : mc_cd 13 48 = some (.getfield 38, 3) := by decide +kernel
theorem c13_51 : mc_cd 13 51 = some (.ifCond .ne 32, 3) := by decide +kernel
theorem c13_54 : mc_cd 13 54 = some (.aload_n 3, 1) := by decide +kernel
theorem c13_55 : mc_cd 13 55 = some (.getfield 41, 3) := by decide +kernel
theorem c13_58 : mc_cd 13 58 = some (.ifCond .le 10, 3) := by decide +kernel
theorem c13_61 : mc_cd 13 61 = some (.aload_n 3, 1) := by decide +kernel
theorem c13_62 : mc_cd 13 62 = some (.getfield 44, 3) := by decide +kernel
theorem c13_65 : mc_cd 13 65 = some (.ifCond .gt 12, 3) := by decide +kernel
theorem c13_68 : mc_cd 13 68 = some (.aload_n 0, 1) := by decide +kernel
theorem c13_69 : mc_cd 13 69 = some (.bipush 6, 2) := by decide +kernel
theorem c13_71 : mc_cd 13 71 = some (.invokevirtual 47, 3) := by decide +kernel
theorem c13_74 : mc_cd 13 74 = some (.ifCond .eq 7, 3) := by decide +kernel
theorem c13_77 : mc_cd 13 77 = some (.iconst 1, 1) := by decide +kernel
theorem c13_78 : mc_cd 13 78 = some (.goto 4, 3) := by decide +kernel
theorem c13_81 : mc_cd 13 81 = some (.iconst 0, 1) := by decide +kernel
theorem c13_82 : mc_cd 13 82 = some (.ireturn, 1) := by decide +kernel
theorem c13_83 : mc_cd 13 83 = some (.aload_n 0, 1) := by decide +kernel
theorem c13_84 : mc_cd 13 84 = some (.iconst 3, 1) := by decide +kernel
theorem c13_85 : mc_cd 13 85 = some (.invokevirtual 51, 3) := by decide +kernel
theorem c13_88 : mc_cd 13 88 = some (.ifCond .ne 5, 3) := by decide +kernel
theorem c13_91 : mc_cd 13 91 = some (.iconst 0, 1) := by decide +kernel
theorem c13_92 : mc_cd 13 92 = some (.ireturn, 1) := by decide +kernel
theorem c13_93 : mc_cd 13 93 = some (.iinc 4 1, 3) := by decide +kernel
theorem c13_96 : mc_cd 13 96 = some (.goto (-70), 3) := by decide +kernel
theorem c13_99 : mc_cd 13 99 = some (.aload_n 0, 1) := by decide +kernel
theorem c13_100 : mc_cd 13 100 = some (.iconst 1, 1) := by decide +kernel
theorem c13_101 : mc_cd 13 101 = some (.invokevirtual 47, 3) := by decide +kernel
theorem c13_104 : mc_cd 13 104 = some (.ireturn, 1) := by decide +kernel
abbrev q_13 (r0 : Nat) (r1 : Nat) (a2 : Int) (r3 : Nat) (T : wq_T) (H : wq_H) : Option Value → wq_T → wq_H → Prop := fun r T' H' => T = T' ∧ WT T H' ∧ wfr [(27, 7), (27, 8), (27, 9), (27, 10), (27, 11), (27, 12), (27, 13), (27, 14), (27, 15), (27, 16), (27, 17), (27, 18), (35, 6), (35, 7), (35, 8), (35, 9), (35, 10), (35, 11), (35, 12), (35, 13), (35, 14), (35, 15), (35, 16), (35, 17), (3, 1), (3, 2), (3, 3), (3, 4), (4, 0), (4, 1), (4, 2), (4, 3), (4, 4), (4, 5), (4, 6), (31, 999), (34, 999), (29, 999), (30, 999), (33, 999), (32, 999)] T H H' ∧ ∃ z : Int, some (vI z) = r ∧ (0 ≤ z ∧ z ≤ 1)
set_option maxHeartbeats 4000000 in
theorem s_13 {kt : Nat → Option mc_E} {T : wq_T} {H : wq_H} {r0 : Nat} {r1 : Nat} {a2 : Int} {r3 : Nat} (hW : WT T H) (g0 : T.2.2.2 r0 = some 3) (g1 : T.2.2.2 r1 = some 2) (i2 : 0 ≤ a2 ∧ a2 ≤ 900) (g3 : T.2.2.2 r3 = some 27) : wpc kt 7 13 [.ref r0, .ref r1, vI a2, .ref r3] T H (q_13 r0 r1 a2 r3 T H) := by
  refine wp_enter e13 (Nat.le_of_ble_eq_true rfl) rfl ?_
  have f0 : wfr [(27, 7), (27, 8), (27, 9), (27, 10), (27, 11), (27, 12), (27, 13), (27, 14), (27, 15), (27, 16), (27, 17), (27, 18), (35, 6), (35, 7), (35, 8), (35, 9), (35, 10), (35, 11), (35, 12), (35, 13), (35, 14), (35, 15), (35, 16), (35, 17), (3, 1), (3, 2), (3, 3), (3, 4), (4, 0), (4, 1), (4, 2), (4, 3), (4, 4), (4, 5), (4, 6), (31, 999), (34, 999), (29, 999), (30, 999), (33, 999), (32, 999)] T H H := wfr.rf
  show wp _ _ 13 0 [(0, .ref r0), (1, .ref r1), (2, vI a2), (3, .ref r3)] [] _ H _
  refine wp_of e13 c13_0 (rw_aload_n (pc' := 1) (v := .ref r0) rfl rfl rfl ?_)
  refine wp_of e13 c13_1 (rw_iconst (pc' := 2) rfl ?_)
  refine wp_of e13 c13_2 (xp_I (pc' := 5) lf_1_18 hW g0 sh_3 (by decide) (by decide) ty_3_3 rfl rfl (by omega) (by omega) ⟨by omega, by omega⟩ rfl (fun H12892 e12893 w12894 => ?_))
  have f12895 := f0.put' e12893 g0 rfl
  have k12896 : H12892 r0 3 = 0 := wq_u_s e12893
  refine wp_of e13 c13_5 (rw_aload_n (pc' := 6) (v := .ref r0) rfl rfl rfl ?_)
  refine wp_of e13 c13_6 (rw_iconst (pc' := 7) rfl ?_)
  refine wp_of e13 c13_7 (xp_I (pc' := 10) lf_1_22 w12894 g0 sh_3 (by decide) (by decide) ty_3_4 rfl rfl (by omega) (by omega) ⟨by omega, by omega⟩ rfl (fun H12897 e12898 w12899 => ?_))
  have f12900 := f12895.put' e12898 g0 rfl
  have k12901 : H12897 r0 4 = -1 := wq_u_s e12898
  refine wp_of e13 c13_10 (rw_aload_n (pc' := 11) (v := .ref r3) rfl rfl rfl ?_)
  refine wp_of e13 c13_11 (xc_V (pc' := 14) (r := r3) (as := []) (st := []) (lm_1_25) rfl rfl (Nat.le_of_ble_eq_true rfl) w12899 g3 sh_27 (by decide) rfl (by decide) (s_14 w12899 g3) (fun R12902 T12903 H12904 p12905 => ?_))
  obtain ⟨e12906, w12908, f12909, e12907⟩ := p12905
  subst e12906
  subst e12907
  have f12910 := f12900.tr f12909 rfl
  show wp _ _ 13 14 [(0, .ref r0), (1, .ref r1), (2, vI a2), (3, .ref r3)] [] _ H12904 _
  refine wp_of e13 c13_14 (rw_aload_n (pc' := 15) (v := .ref r0) rfl rfl rfl ?_)
  refine wp_of e13 c13_15 (xg_R (pc' := 18) lf_1_12 w12908 g0 sh_3 (by decide) (by decide) ty_3_0 rfl rfl (fun r12911 q12912 g12913 => ?_))
  refine wp_of e13 c13_18 (rw_aload_n (pc' := 19) (v := .ref r1) rfl rfl rfl ?_)
  refine wp_of e13 c13_19 (rw_iload_n (pc' := 20) (z := a2) rfl rfl ?_)
  refine wp_of e13 c13_20 (xc_V (pc' := 23) (r := r12911) (as := [.ref r1, vI a2]) (st := []) (lm_1_30) rfl rfl (Nat.le_of_ble_eq_true rfl) w12908 g12913 sh_4 (by decide) rfl (by decide) (s_15 w12908 g12913 g1 ⟨by omega, by omega⟩) (fun R12914 T12915 H12916 p12917 => ?_))
  obtain ⟨e12918, w12920, f12921, e12919, p12922⟩ := p12917
  subst e12918
  subst e12919
  have f12923 := f12910.tr f12921 rfl
  show wp _ _ 13 23 [(0, .ref r0), (1, .ref r1), (2, vI a2), (3, .ref r3)] [] _ H12916 _
  refine wp_of e13 c13_23 (rw_iconst (pc' := 24) rfl ?_)
  refine wp_of e13 c13_24 (rw_istore (pc' := 26) (z := 0) (L' := [(4, vI 0), (0, .ref r0), (1, .ref r1), (2, vI a2), (3, .ref r3)]) rfl rfl rfl ?_)
  have lp13212 : ∀ (n13213 : Nat) (v13215 : Int) (H13216 : wq_H), WT T H13216 → wfr [(27, 7), (27, 8), (27, 9), (27, 10), (27, 11), (27, 12), (27, 13), (27, 14), (27, 15), (27, 16), (35, 6), (35, 7), (35, 8), (35, 9), (35, 10), (35, 11), (35, 12), (35, 13), (35, 14), (35, 15), (35, 16), (35, 17), (3, 1), (3, 2), (3, 3), (3, 4), (4, 2), (4, 3), (4, 4), (4, 5), (4, 6), (31, 999), (34, 999), (29, 999), (30, 999), (33, 999), (32, 999)] T H12916 H13216 → (0 ≤ v13215 ∧ v13215 ≤ 901) → (901 - v13215).toNat = n13213 → wp kt 6 13 26 [(4, vI v13215), (0, .ref r0), (3, .ref r3)] [] T H13216 (q_13 r0 r1 a2 r3 T H) := by
    intro n13213
    induction n13213 using Nat.strongRecOn with
    | _ n13213 ih13214 =>
      intro v13215 H13216 w13217 f13218 b13219 m13220
      have f13221 := f12923.tr f13218 rfl
      refine wp_of e13 c13_26 (rw_iload (pc' := 28) (z := v13215) rfl rfl ?_)
      refine wp_of e13 c13_28 (rw_sipush (pc' := 31) (z := 900) rfl (by decide) ?_)
      refine wp_of e13 c13_31 (rw_icmp_gt (p1 := 99) (p2 := 34) (by decide) rfl ⟨by omega, by omega⟩ ⟨by omega, by omega⟩ (fun c13222 => ?_) (fun c13222 => ?_))
      · refine wp_of e13 c13_99 (rw_aload_n (pc' := 100) (v := .ref r0) rfl rfl rfl ?_)
        refine wp_of e13 c13_100 (rw_iconst (pc' := 101) rfl ?_)
        refine wp_of e13 c13_101 (xc_V (pc' := 104) (r := r0) (as := [vI 1]) (st := []) (lm_1_47) rfl rfl (Nat.le_of_ble_eq_true rfl) w13217 g0 sh_3 (by decide) rfl (by decide) (s_20 w13217 g0 ⟨by omega, by omega⟩) (fun R13223 T13224 H13225 p13226 => ?_))
        obtain ⟨e13227, w13229, f13230, z13231, e13228, b13232⟩ := p13226
        subst e13227
        subst e13228
        have f13233 := f13221.tr f13230 rfl
        show wp _ _ 13 104 [(4, vI v13215), (0, .ref r0), (3, .ref r3)] [vI z13231] _ H13225 _
        exact wp_zreturn e13 c13_104 rfl (by omega) ⟨rfl, w13229, f13233, z13231, rfl, ⟨by omega, by omega⟩⟩
      · refine wp_of e13 c13_34 (rw_aload_n (pc' := 35) (v := .ref r0) rfl rfl rfl ?_)
        refine wp_of e13 c13_35 (rw_aload_n (pc' := 36) (v := .ref r3) rfl rfl rfl ?_)
        have k13234 : H13216 r0 0 = H12904 r0 0 := ((f13218 r0 0 _ g0 rfl).trans (f12921 r0 0 _ g0 rfl))
        have q13235 : H13216 r0 0 = (r12911 : Int) := k13234.trans q12912
        have k13236 : H13216 r12911 0 = H12916 r12911 0 := (f13218 r12911 0 _ g12913 rfl)
        have q13237 : H13216 r12911 0 = (r1 : Int) := k13236.trans p12922
        refine wp_of e13 c13_36 (xc_V (pc' := 39) (r := r0) (as := [.ref r3]) (st := []) (lm_1_34) rfl rfl (Nat.le_of_ble_eq_true rfl) w13217 g0 sh_3 (by decide) rfl (by decide) (s_17 w13217 g0 g3 q13235 g12913 q13237 g1) (fun R13238 T13239 H13240 p13241 => ?_))
        obtain ⟨e13242, w13244, f13245, z13246, e13243, b13247⟩ := p13241
        subst e13242
        subst e13243
        have f13248 := f13221.tr f13245 rfl
        have f13249 := f13218.tr f13245 rfl
        show wp _ _ 13 39 [(4, vI v13215), (0, .ref r0), (3, .ref r3)] [vI z13246] _ H13240 _
        refine wp_of e13 c13_39 (rw_if_ne (p1 := 44) (p2 := 42) (by decide) rfl ⟨by omega, by omega⟩ (fun c13250 => ?_) (fun c13250 => ?_))
        · refine wp_of e13 c13_44 (rw_aload_n (pc' := 45) (v := .ref r0) rfl rfl rfl ?_)
          have k13251 : H13240 r0 0 = H13216 r0 0 := (f13245 r0 0 _ g0 rfl)
          have q13252 : H13240 r0 0 = (r12911 : Int) := k13251.trans q13235
          refine wp_of e13 c13_45 (xg_K (pc' := 48) lf_1_12 w13244 g0 sh_3 (by decide) (by decide) rfl q13252 rfl ?_)
          refine wp_of e13 c13_48 (xg_I (pc' := 51) lf_1_38 w13244 g12913 sh_4 (by decide) (by decide) ty_4_3 rfl rfl (fun b13253 b13254 => ?_))
          refine wp_of e13 c13_51 (rw_if_ne (p1 := 83) (p2 := 54) (by decide) rfl ⟨by omega, by omega⟩ (fun c13255 => ?_) (fun c13255 => ?_))
          · refine wp_of e13 c13_83 (rw_aload_n (pc' := 84) (v := .ref r0) rfl rfl rfl ?_)
            refine wp_of e13 c13_84 (rw_iconst (pc' := 85) rfl ?_)
            have k13256 : H13240 r12911 0 = H13216 r12911 0 := (f13245 r12911 0 _ g12913 rfl)
            have q13257 : H13240 r12911 0 = (r1 : Int) := k13256.trans q13237
            refine wp_of e13 c13_85 (xc_V (pc' := 88) (r := r0) (as := [vI 3]) (st := []) (lm_1_51) rfl rfl (Nat.le_of_ble_eq_true rfl) w13244 g0 sh_3 (by decide) rfl (by decide) (s_35 w13244 g0 ⟨by omega, by omega⟩ q13252 g12913 q13257 g1) (fun R13258 T13259 H13260 p13261 => ?_))
            obtain ⟨e13262, w13264, f13265, z13266, e13263, b13267⟩ := p13261
            subst e13262
            subst e13263
            have f13268 := f13248.tr f13265 rfl
            have f13269 := f13249.tr f13265 rfl
            show wp _ _ 13 88 [(4, vI v13215), (0, .ref r0), (3, .ref r3)] [vI z13266] _ H13260 _
            refine wp_of e13 c13_88 (rw_if_ne (p1 := 93) (p2 := 91) (by decide) rfl ⟨by omega, by omega⟩ (fun c13270 => ?_) (fun c13270 => ?_))
            · refine wp_of e13 c13_93 (rw_iinc (pc' := 96) (z := v13215) (L' := [(4, vI (v13215 + 1)), (0, .ref r0), (3, .ref r3)]) rfl rfl rfl rfl ?_)
              refine wp_of e13 c13_96 (rw_goto (p1 := 26) (by decide) ?_)
              exact wp_lc (ks := [4, 0, 3]) (wl_c rfl (wl_c rfl (wl_c rfl wl_n))) rfl (by decide) (ih13214 _ (by omega) (v13215 + 1) H13260 w13264 f13269 ⟨by omega, by omega⟩ rfl)
            · refine wp_of e13 c13_91 (rw_iconst (pc' := 92) rfl ?_)
              exact wp_zreturn e13 c13_92 rfl (by omega) ⟨rfl, w13264, f13268, 0, rfl, ⟨by omega, by omega⟩⟩
          · refine wp_of e13 c13_54 (rw_aload_n (pc' := 55) (v := .ref r3) rfl rfl rfl ?_)
            refine wp_of e13 c13_55 (xg_I (pc' := 58) lf_1_41 w13244 g3 sh_27 (by decide) (by decide) ty_27_7 rfl rfl (fun b13271 b13272 => ?_))
            refine wp_of e13 c13_58 (rw_if_le (p1 := 68) (p2 := 61) (by decide) rfl ⟨by omega, by omega⟩ (fun c13273 => ?_) (fun c13273 => ?_))
            · refine wp_of e13 c13_68 (rw_aload_n (pc' := 69) (v := .ref r0) rfl rfl rfl ?_)
              refine wp_of e13 c13_69 (rw_bipush (pc' := 71) (z := 6) rfl (by decide) ?_)
              refine wp_of e13 c13_71 (xc_V (pc' := 74) (r := r0) (as := [vI 6]) (st := []) (lm_1_47) rfl rfl (Nat.le_of_ble_eq_true rfl) w13244 g0 sh_3 (by decide) rfl (by decide) (s_20 w13244 g0 ⟨by omega, by omega⟩) (fun R13274 T13275 H13276 p13277 => ?_))
              obtain ⟨e13278, w13280, f13281, z13282, e13279, b13283⟩ := p13277
              subst e13278
              subst e13279
              have f13284 := f13248.tr f13281 rfl
              show wp _ _ 13 74 [(4, vI v13215), (0, .ref r0), (3, .ref r3)] [vI z13282] _ H13276 _
              refine wp_of e13 c13_74 (rw_if_eq (p1 := 81) (p2 := 77) (by decide) rfl ⟨by omega, by omega⟩ (fun c13285 => ?_) (fun c13285 => ?_))
              · refine wp_of e13 c13_81 (rw_iconst (pc' := 82) rfl ?_)
                exact wp_zreturn e13 c13_82 rfl (by omega) ⟨rfl, w13280, f13284, 0, rfl, ⟨by omega, by omega⟩⟩
              · refine wp_of e13 c13_77 (rw_iconst (pc' := 78) rfl ?_)
                refine wp_of e13 c13_78 (rw_goto (p1 := 82) (by decide) ?_)
                exact wp_zreturn e13 c13_82 rfl (by omega) ⟨rfl, w13280, f13284, 1, rfl, ⟨by omega, by omega⟩⟩
            · refine wp_of e13 c13_61 (rw_aload_n (pc' := 62) (v := .ref r3) rfl rfl rfl ?_)
              refine wp_of e13 c13_62 (xg_I (pc' := 65) lf_1_44 w13244 g3 sh_27 (by decide) (by decide) ty_27_10 rfl rfl (fun b13286 b13287 => ?_))
              refine wp_of e13 c13_65 (rw_if_gt (p1 := 77) (p2 := 68) (by decide) rfl ⟨by omega, by omega⟩ (fun c13288 => ?_) (fun c13288 => ?_))
              · refine wp_of e13 c13_77 (rw_iconst (pc' := 78) rfl ?_)
                refine wp_of e13 c13_78 (rw_goto (p1 := 82) (by decide) ?_)
                exact wp_zreturn e13 c13_82 rfl (by omega) ⟨rfl, w13244, f13248, 1, rfl, ⟨by omega, by omega⟩⟩
              · refine wp_of e13 c13_68 (rw_aload_n (pc' := 69) (v := .ref r0) rfl rfl rfl ?_)
                refine wp_of e13 c13_69 (rw_bipush (pc' := 71) (z := 6) rfl (by decide) ?_)
                refine wp_of e13 c13_71 (xc_V (pc' := 74) (r := r0) (as := [vI 6]) (st := []) (lm_1_47) rfl rfl (Nat.le_of_ble_eq_true rfl) w13244 g0 sh_3 (by decide) rfl (by decide) (s_20 w13244 g0 ⟨by omega, by omega⟩) (fun R13289 T13290 H13291 p13292 => ?_))
                obtain ⟨e13293, w13295, f13296, z13297, e13294, b13298⟩ := p13292
                subst e13293
                subst e13294
                have f13299 := f13248.tr f13296 rfl
                show wp _ _ 13 74 [(4, vI v13215), (0, .ref r0), (3, .ref r3)] [vI z13297] _ H13291 _
                refine wp_of e13 c13_74 (rw_if_eq (p1 := 81) (p2 := 77) (by decide) rfl ⟨by omega, by omega⟩ (fun c13300 => ?_) (fun c13300 => ?_))
                · refine wp_of e13 c13_81 (rw_iconst (pc' := 82) rfl ?_)
                  exact wp_zreturn e13 c13_82 rfl (by omega) ⟨rfl, w13295, f13299, 0, rfl, ⟨by omega, by omega⟩⟩
                · refine wp_of e13 c13_77 (rw_iconst (pc' := 78) rfl ?_)
                  refine wp_of e13 c13_78 (rw_goto (p1 := 82) (by decide) ?_)
                  exact wp_zreturn e13 c13_82 rfl (by omega) ⟨rfl, w13295, f13299, 1, rfl, ⟨by omega, by omega⟩⟩
        · refine wp_of e13 c13_42 (rw_iconst (pc' := 43) rfl ?_)
          exact wp_zreturn e13 c13_43 rfl (by omega) ⟨rfl, w13244, f13248, 0, rfl, ⟨by omega, by omega⟩⟩
  exact wp_lc (ks := [4, 0, 1, 2, 3]) (wl_c rfl (wl_c rfl (wl_c rfl wl_n))) rfl (by decide) (lp13212 _ 0 H12916 w12920 wfr.rf ⟨by omega, by omega⟩ rfl)
/-! StrikeAwake$Parish.allHours()I -/
theorem e45 : wq_en 45 = some (7, 1, false, some FieldType.int) := rfl
theorem c45_0 : mc_cd 45 0 = some (.iconst 0, 1) := by decide +kernel
theorem c45_1 : mc_cd 45 1 = some (.aload_n 0, 1) := by decide +kernel
theorem c45_2 : mc_cd 45 2 = some (.getfield 41, 3) := by decide +kernel
theorem c45_5 : mc_cd 45 5 = some (.invokestatic 92, 3) := by decide +kernel
theorem c45_8 : mc_cd 45 8 = some (.ireturn, 1) := by decide +kernel
abbrev q_45 (r0 : Nat) (T : wq_T) (H : wq_H) : Option Value → wq_T → wq_H → Prop := fun r T' H' => T = T' ∧ H = H' ∧ ∃ z : Int, some (vI z) = r ∧ ((-2147483648) ≤ z ∧ z ≤ 2147483647)
set_option maxHeartbeats 4000000 in
theorem s_45 {kt : Nat → Option mc_E} {T : wq_T} {H : wq_H} {r0 : Nat} (hW : WT T H) (g0 : T.2.2.2 r0 = some 27) : wpc kt 2 45 [.ref r0] T H (q_45 r0 T H) := by
  refine wp_enter e45 (Nat.le_of_ble_eq_true rfl) rfl ?_
  show wp _ _ 45 0 [(0, .ref r0)] [] _ H _
  refine wp_of e45 c45_0 (rw_iconst (pc' := 1) rfl ?_)
  refine wp_of e45 c45_1 (rw_aload_n (pc' := 2) (v := .ref r0) rfl rfl rfl ?_)
  refine wp_of e45 c45_2 (xg_I (pc' := 5) lf_7_41 hW g0 sh_27 (by decide) (by decide) ty_27_7 rfl rfl (fun b13312 b13313 => ?_))
  refine wp_of e45 c45_5 (xc_S (pc' := 8) (as := [vI 0, vI (H r0 7)]) (st := []) (lm_7_92) rfl rfl (Nat.le_of_ble_eq_true rfl) rfl (by decide) (s_31 hW ⟨by omega, by omega⟩ ⟨by omega, by omega⟩) (fun R13314 T13315 H13316 p13317 => ?_))
  obtain ⟨e13318, e13320, z13321, e13319, b13322⟩ := p13317
  subst e13318
  subst e13319
  subst e13320
  show wp _ _ 45 8 [(0, .ref r0)] [vI z13321] _ H _
  exact wp_ireturn e45 c45_8 rfl ⟨rfl, rfl, z13321, rfl, ⟨by omega, by omega⟩⟩
/-! StrikeAwake$Parish.hoursStruckUpTo(I)I -/
theorem e46 : wq_en 46 = some (7, 4, false, some FieldType.int) := rfl
theorem c46_0 : mc_cd 46 0 = some (.iconst 0, 1) := by decide +kernel
theorem c46_1 : mc_cd 46 1 = some (.istore_n 2, 1) := by decide +kernel
theorem c46_2 : mc_cd 46 2 = some (.iconst 0, 1) := by decide +kernel
theorem c46_3 : mc_cd 46 3 = some (.istore_n 3, 1) := by decide +kernel
theorem c46_4 : mc_cd 46 4 = some (.iload_n 3, 1) := by decide +kernel
theorem c46_5 : mc_cd 46 5 = some (.aload_n 0, 1) := by decide +kernel
theorem c46_6 : mc_cd 46 6 = some (.getfield 65, 3) := by decide +kernel
theorem c46_9 : mc_cd 46 9 = some (.if_icmp .ge 35, 3) := by decide +kernel
theorem c46_12 : mc_cd 46 12 = some (.aload_n 0, 1) := by decide +kernel
theorem c46_13 : mc_cd 46 13 = some (.getfield 17, 3) := by decide +kernel
theorem c46_16 : mc_cd 46 16 = some (.aload_n 0, 1) := by decide +kernel
theorem c46_17 : mc_cd 46 17 = some (.getfield 21, 3) := by decide +kernel
theorem c46_20 : mc_cd 46 20 = some (.iload_n 3, 1) := by decide +kernel
theorem c46_21 : mc_cd 46 21 = some (.iaload, 1) := by decide +kernel
theorem c46_22 : mc_cd 46 22 = some (.iaload, 1) := by decide +kernel
theorem c46_23 : mc_cd 46 23 = some (.iload_n 1, 1) := by decide +kernel
theorem c46_24 : mc_cd 46 24 = some (.if_icmp .gt 14, 3) := by decide +kernel
theorem c46_27 : mc_cd 46 27 = some (.iload_n 2, 1) := by decide +kernel
theorem c46_28 : mc_cd 46 28 = some (.iconst 1, 1) := by decide +kernel
theorem c46_29 : mc_cd 46 29 = some (.aload_n 0, 1) := by decide +kernel
theorem c46_30 : mc_cd 46 30 = some (.getfield 21, 3) := by decide +kernel
theorem c46_33 : mc_cd 46 33 = some (.iload_n 3, 1) := by decide +kernel
theorem c46_34 : mc_cd 46 34 = some (.iaload, 1) := by decide +kernel
theorem c46_35 : mc_cd 46 35 = some (.ishl, 1) := by decide +kernel
theorem c46_36 : mc_cd 46 36 = some (.ior, 1) := by decide +kernel
theorem c46_37 : mc_cd 46 37 = some (.istore_n 2, 1) := by decide +kernel
theorem c46_38 : mc_cd 46 38 = some (.iinc 3 1, 3) := by decide +kernel
theorem c46_41 : mc_cd 46 41 = some (.goto (-37), 3) := by decide +kernel
theorem c46_44 : mc_cd 46 44 = some (.iload_n 2, 1) := by decide +kernel
theorem c46_45 : mc_cd 46 45 = some (.ireturn, 1) := by decide +kernel
abbrev q_46 (r0 : Nat) (a1 : Int) (T : wq_T) (H : wq_H) : Option Value → wq_T → wq_H → Prop := fun r T' H' => T = T' ∧ H = H' ∧ ∃ z : Int, some (vI z) = r ∧ ((-2147483648) ≤ z ∧ z ≤ 2147483647)
set_option maxHeartbeats 4000000 in
theorem s_46 {kt : Nat → Option mc_E} {T : wq_T} {H : wq_H} {r0 : Nat} {a1 : Int} (hW : WT T H) (g0 : T.2.2.2 r0 = some 27) (i1 : (-2147483648) ≤ a1 ∧ a1 ≤ 2147483647) : wpc kt 1 46 [.ref r0, vI a1] T H (q_46 r0 a1 T H) := by
  refine wp_enter e46 (Nat.le_of_ble_eq_true rfl) rfl ?_
  show wp _ _ 46 0 [(0, .ref r0), (1, vI a1)] [] _ H _
  refine wp_of e46 c46_0 (rw_iconst (pc' := 1) rfl ?_)
  refine wp_of e46 c46_1 (rw_istore_n (pc' := 2) (z := 0) (L' := [(2, vI 0), (0, .ref r0), (1, vI a1)]) rfl rfl rfl ?_)
  refine wp_of e46 c46_2 (rw_iconst (pc' := 3) rfl ?_)
  refine wp_of e46 c46_3 (rw_istore_n (pc' := 4) (z := 0) (L' := [(3, vI 0), (2, vI 0), (0, .ref r0), (1, vI a1)]) rfl rfl rfl ?_)
  have lp13664 : ∀ (n13665 : Nat) (v13667 : Int) (v13668 : Int), (0 ≤ v13667 ∧ v13667 ≤ 24) → ((-2147483648) ≤ v13668 ∧ v13668 ≤ 2147483647) → (24 - v13667).toNat = n13665 → wp kt 0 46 4 [(3, vI v13667), (2, vI v13668), (0, .ref r0), (1, vI a1)] [] T H (q_46 r0 a1 T H) := by
    intro n13665
    induction n13665 using Nat.strongRecOn with
    | _ n13665 ih13666 =>
      intro v13667 v13668 b13671 b13672 m13673
      refine wp_of e46 c46_4 (rw_iload_n (pc' := 5) (z := v13667) rfl rfl ?_)
      refine wp_of e46 c46_5 (rw_aload_n (pc' := 6) (v := .ref r0) rfl rfl rfl ?_)
      refine wp_of e46 c46_6 (xg_I (pc' := 9) lf_7_65 hW g0 sh_27 (by decide) (by decide) ty_27_16 rfl rfl (fun b13674 b13675 => ?_))
      refine wp_of e46 c46_9 (rw_icmp_ge (p1 := 44) (p2 := 12) (by decide) rfl ⟨by omega, by omega⟩ ⟨by omega, by omega⟩ (fun c13676 => ?_) (fun c13676 => ?_))
      · refine wp_of e46 c46_44 (rw_iload_n (pc' := 45) (z := v13668) rfl rfl ?_)
        exact wp_ireturn e46 c46_45 rfl ⟨rfl, rfl, v13668, rfl, ⟨by omega, by omega⟩⟩
      · refine wp_of e46 c46_12 (rw_aload_n (pc' := 13) (v := .ref r0) rfl rfl rfl ?_)
        refine wp_of e46 c46_13 (xg_R (pc' := 16) lf_7_17 hW g0 sh_27 (by decide) (by decide) ty_27_1 rfl rfl (fun r13677 q13678 g13679 => ?_))
        refine wp_of e46 c46_16 (rw_aload_n (pc' := 17) (v := .ref r0) rfl rfl rfl ?_)
        refine wp_of e46 c46_17 (xg_R (pc' := 20) lf_7_21 hW g0 sh_27 (by decide) (by decide) ty_27_2 rfl rfl (fun r13680 q13681 g13682 => ?_))
        refine wp_of e46 c46_20 (rw_iload_n (pc' := 21) (z := v13667) rfl rfl ?_)
        refine wp_of e46 c46_21 (xa_I (so := 0) (pc' := 22) hW g13682 sh_30 (by decide) (ty_30 _) (by omega) (by omega) rfl (fun b13683 b13684 => ?_))
        refine wp_of e46 c46_22 (xa_I (so := 0) (pc' := 23) hW g13679 sh_29 (by decide) (ty_29 _) (by omega) (by omega) rfl (fun b13685 b13686 => ?_))
        refine wp_of e46 c46_23 (rw_iload_n (pc' := 24) (z := a1) rfl rfl ?_)
        refine wp_of e46 c46_24 (rw_icmp_gt (p1 := 38) (p2 := 27) (by decide) rfl ⟨by omega, by omega⟩ ⟨by omega, by omega⟩ (fun c13687 => ?_) (fun c13687 => ?_))
        · refine wp_of e46 c46_38 (rw_iinc (pc' := 41) (z := v13667) (L' := [(3, vI (v13667 + 1)), (2, vI v13668), (0, .ref r0), (1, vI a1)]) rfl rfl rfl rfl ?_)
          refine wp_of e46 c46_41 (rw_goto (p1 := 4) (by decide) ?_)
          exact wp_lc (ks := [3, 2, 0, 1]) (wl_c rfl (wl_c rfl (wl_c rfl (wl_c rfl wl_n)))) rfl (by decide) (ih13666 _ (by omega) (v13667 + 1) v13668 ⟨by omega, by omega⟩ ⟨by omega, by omega⟩ rfl)
        · refine wp_of e46 c46_27 (rw_iload_n (pc' := 28) (z := v13668) rfl rfl ?_)
          refine wp_of e46 c46_28 (rw_iconst (pc' := 29) rfl ?_)
          refine wp_of e46 c46_29 (rw_aload_n (pc' := 30) (v := .ref r0) rfl rfl rfl ?_)
          refine wp_of e46 c46_30 (xg_K (pc' := 33) lf_7_21 hW g0 sh_27 (by decide) (by decide) rfl q13681 rfl ?_)
          refine wp_of e46 c46_33 (rw_iload_n (pc' := 34) (z := v13667) rfl rfl ?_)
          refine wp_of e46 c46_34 (xa_I (so := 0) (pc' := 35) hW g13682 sh_30 (by decide) (ty_30 _) (by omega) (by omega) rfl (fun b13688 b13689 => ?_))
          refine wp_of e46 c46_35 (rw_ishl (pc' := 36) rfl ?_)
          obtain ⟨v13690, e13691⟩ : ∃ x : Int, x = wq_shl 1 (H r13680 (v13667.toNat)) := ⟨_, rfl⟩
          rw [← e13691]
          have b13692 : -2147483648 ≤ v13690 ∧ v13690 ≤ 2147483647 := by
            rw [e13691]
            exact wI_shl _ _
          refine wp_of e46 c46_36 (rw_ior (pc' := 37) rfl ?_)
          obtain ⟨v13693, e13694⟩ : ∃ x : Int, x = wq_or v13668 v13690 := ⟨_, rfl⟩
          rw [← e13694]
          have b13695 : -2147483648 ≤ v13693 ∧ v13693 ≤ 2147483647 := by
            rw [e13694]
            exact wI_or _ _
          refine wp_of e46 c46_37 (rw_istore_n (pc' := 38) (z := v13693) (L' := [(2, vI v13693), (3, vI v13667), (0, .ref r0), (1, vI a1)]) rfl rfl rfl ?_)
          refine wp_of e46 c46_38 (rw_iinc (pc' := 41) (z := v13667) (L' := [(3, vI (v13667 + 1)), (2, vI v13693), (0, .ref r0), (1, vI a1)]) rfl rfl rfl rfl ?_)
          refine wp_of e46 c46_41 (rw_goto (p1 := 4) (by decide) ?_)
          exact wp_lc (ks := [3, 2, 0, 1]) (wl_c rfl (wl_c rfl (wl_c rfl (wl_c rfl wl_n)))) rfl (by decide) (ih13666 _ (by omega) (v13667 + 1) v13693 ⟨by omega, by omega⟩ ⟨by omega, by omega⟩ rfl)
  exact wp_lc (ks := [3, 2, 0, 1]) (wl_c rfl (wl_c rfl (wl_c rfl (wl_c rfl wl_n)))) rfl (by decide) (lp13664 _ 0 0 ⟨by omega, by omega⟩ ⟨by omega, by omega⟩ rfl)
/-! StrikeAwake$Walk.tallyOf(I)J -/
theorem e49 : wq_en 49 = some (3, 4, false, some FieldType.long) := rfl
theorem c49_0 : mc_cd 49 0 = some (.lconst 0, 1) := by decide +kernel
theorem c49_1 : mc_cd 49 1 = some (.lstore_n 1, 1) := by decide +kernel
theorem c49_2 : mc_cd 49 2 = some (.iconst 0, 1) := by decide +kernel
theorem c49_3 : mc_cd 49 3 = some (.istore_n 3, 1) := by decide +kernel
theorem c49_4 : mc_cd 49 4 = some (.iload_n 3, 1) := by decide +kernel
theorem c49_5 : mc_cd 49 5 = some (.bipush 12, 2) := by decide +kernel
theorem c49_7 : mc_cd 49 7 = some (.if_icmp .ge 22, 3) := by decide +kernel
theorem c49_10 : mc_cd 49 10 = some (.lload_n 1, 1) := by decide +kernel
theorem c49_11 : mc_cd 49 11 = some (.iload_n 0, 1) := by decide +kernel
theorem c49_12 : mc_cd 49 12 = some (.iload_n 3, 1) := by decide +kernel
theorem c49_13 : mc_cd 49 13 = some (.ishr, 1) := by decide +kernel
theorem c49_14 : mc_cd 49 14 = some (.i2l, 1) := by decide +kernel
theorem c49_15 : mc_cd 49 15 = some (.lconst 1, 1) := by decide +kernel
theorem c49_16 : mc_cd 49 16 = some (.land, 1) := by decide +kernel
theorem c49_17 : mc_cd 49 17 = some (.iload_n 3, 1) := by decide +kernel
theorem c49_18 : mc_cd 49 18 = some (.iconst 4, 1) := by decide +kernel
theorem c49_19 : mc_cd 49 19 = some (.imul, 1) := by decide +kernel
theorem c49_20 : mc_cd 49 20 = some (.lshl, 1) := by decide +kernel
theorem c49_21 : mc_cd 49 21 = some (.lor, 1) := by decide +kernel
theorem c49_22 : mc_cd 49 22 = some (.lstore_n 1, 1) := by decide +kernel
theorem c49_23 : mc_cd 49 23 = some (.iinc 3 1, 3) := by decide +kernel
theorem c49_26 : mc_cd 49 26 = some (.goto (-22), 3) := by decide +kernel
theorem c49_29 : mc_cd 49 29 = some (.lload_n 1, 1) := by decide +kernel
theorem c49_30 : mc_cd 49 30 = some (.lreturn, 1) := by decide +kernel
abbrev q_49 (a0 : Int) (T : wq_T) (H : wq_H) : Option Value → wq_T → wq_H → Prop := fun r T' H' => T = T' ∧ H = H' ∧ ∃ z : Int, some (vL z) = r ∧ ((-9223372036854775808) ≤ z ∧ z ≤ 9223372036854775807)
set_option maxHeartbeats 4000000 in
theorem s_49 {kt : Nat → Option mc_E} {T : wq_T} {H : wq_H} {a0 : Int} (hW : WT T H) (i0 : (-2147483648) ≤ a0 ∧ a0 ≤ 2147483647) : wpc kt 1 49 [vI a0] T H (q_49 a0 T H) := by
  refine wp_enter e49 (Nat.le_of_ble_eq_true rfl) rfl ?_
  show wp _ _ 49 0 [(0, vI a0)] [] _ H _
  refine wp_of e49 c49_0 (rw_lconst (pc' := 1) (z := 0) rfl rfl ?_)
  refine wp_of e49 c49_1 (rw_lstore_n (pc' := 2) (z := 0) (L' := [(1, vL 0), (0, vI a0)]) rfl rfl rfl ?_)
  refine wp_of e49 c49_2 (rw_iconst (pc' := 3) rfl ?_)
  refine wp_of e49 c49_3 (rw_istore_n (pc' := 4) (z := 0) (L' := [(3, vI 0), (1, vL 0), (0, vI a0)]) rfl rfl rfl ?_)
  have lp13850 : ∀ (n13851 : Nat) (v13853 : Int) (v13854 : Int), (0 ≤ v13853 ∧ v13853 ≤ 12) → ((-9223372036854775808) ≤ v13854 ∧ v13854 ≤ 9223372036854775807) → (12 - v13853).toNat = n13851 → wp kt 0 49 4 [(3, vI v13853), (1, vL v13854), (0, vI a0)] [] T H (q_49 a0 T H) := by
    intro n13851
    induction n13851 using Nat.strongRecOn with
    | _ n13851 ih13852 =>
      intro v13853 v13854 b13857 b13858 m13859
      refine wp_of e49 c49_4 (rw_iload_n (pc' := 5) (z := v13853) rfl rfl ?_)
      refine wp_of e49 c49_5 (rw_bipush (pc' := 7) (z := 12) rfl (by decide) ?_)
      refine wp_of e49 c49_7 (rw_icmp_ge (p1 := 29) (p2 := 10) (by decide) rfl ⟨by omega, by omega⟩ ⟨by omega, by omega⟩ (fun c13860 => ?_) (fun c13860 => ?_))
      · refine wp_of e49 c49_29 (rw_lload_n (pc' := 30) (z := v13854) rfl rfl ?_)
        exact wp_lreturn e49 c49_30 rfl ⟨rfl, rfl, v13854, rfl, ⟨by omega, by omega⟩⟩
      · refine wp_of e49 c49_10 (rw_lload_n (pc' := 11) (z := v13854) rfl rfl ?_)
        refine wp_of e49 c49_11 (rw_iload_n (pc' := 12) (z := a0) rfl rfl ?_)
        refine wp_of e49 c49_12 (rw_iload_n (pc' := 13) (z := v13853) rfl rfl ?_)
        refine wp_of e49 c49_13 (rw_ishr (pc' := 14) rfl ?_)
        obtain ⟨v13861, e13862⟩ : ∃ x : Int, x = wq_shr a0 v13853 := ⟨_, rfl⟩
        rw [← e13862]
        have b13863 : -2147483648 ≤ v13861 ∧ v13861 ≤ 2147483647 := by
          rw [e13862]
          exact wI_shr _ _
        refine wp_of e49 c49_14 (rw_i2l (pc' := 15) rfl ⟨by omega, by omega⟩ ?_)
        refine wp_of e49 c49_15 (rw_lconst (pc' := 16) (z := 1) rfl rfl ?_)
        refine wp_of e49 c49_16 (rw_land (pc' := 17) rfl ?_)
        obtain ⟨v13864, e13865⟩ : ∃ x : Int, x = wl_and v13861 1 := ⟨_, rfl⟩
        rw [← e13865]
        have b13866 : -9223372036854775808 ≤ v13864 ∧ v13864 ≤ 9223372036854775807 := by
          rw [e13865]
          exact wL_and _ _
        refine wp_of e49 c49_17 (rw_iload_n (pc' := 18) (z := v13853) rfl rfl ?_)
        refine wp_of e49 c49_18 (rw_iconst (pc' := 19) rfl ?_)
        refine wp_of e49 c49_19 (rw_imul (pc' := 20) rfl ?_)
        refine wp_of e49 c49_20 (rw_lshl (pc' := 21) rfl ?_)
        obtain ⟨v13867, e13868⟩ : ∃ x : Int, x = wl_shl v13864 (v13853 * 4) := ⟨_, rfl⟩
        rw [← e13868]
        have b13869 : -9223372036854775808 ≤ v13867 ∧ v13867 ≤ 9223372036854775807 := by
          rw [e13868]
          exact wL_shl _ _
        refine wp_of e49 c49_21 (rw_lor (pc' := 22) rfl ?_)
        obtain ⟨v13870, e13871⟩ : ∃ x : Int, x = wl_or v13854 v13867 := ⟨_, rfl⟩
        rw [← e13871]
        have b13872 : -9223372036854775808 ≤ v13870 ∧ v13870 ≤ 9223372036854775807 := by
          rw [e13871]
          exact wL_or _ _
        refine wp_of e49 c49_22 (rw_lstore_n (pc' := 23) (z := v13870) (L' := [(1, vL v13870), (3, vI v13853), (0, vI a0)]) rfl rfl rfl ?_)
        refine wp_of e49 c49_23 (rw_iinc (pc' := 26) (z := v13853) (L' := [(3, vI (v13853 + 1)), (1, vL v13870), (0, vI a0)]) rfl rfl rfl rfl ?_)
        refine wp_of e49 c49_26 (rw_goto (p1 := 4) (by decide) ?_)
        exact wp_lc (ks := [3, 1, 0]) (wl_c rfl (wl_c rfl (wl_c rfl wl_n))) rfl (by decide) (ih13852 _ (by omega) (v13853 + 1) v13870 ⟨by omega, by omega⟩ ⟨by omega, by omega⟩ rfl)
  exact wp_lc (ks := [3, 1, 0]) (wl_c rfl (wl_c rfl (wl_c rfl wl_n))) rfl (by decide) (lp13850 _ 0 0 ⟨by omega, by omega⟩ ⟨by omega, by omega⟩ rfl)
/-! StrikeAwake$Person.addSpan(IIII)V -/
theorem e48 : wq_en 48 = some (8, 5, false, none) := rfl
theorem c48_0 : mc_cd 48 0 = some (.aload_n 0, 1) := by decide +kernel
theorem c48_1 : mc_cd 48 1 = some (.getfield 49, 3) := by decide +kernel
theorem c48_4 : mc_cd 48 4 = some (.bipush 40, 2) := by decide +kernel
theorem c48_6 : mc_cd 48 6 = some (.if_icmp .lt 4, 3) := by decide +kernel
theorem c48_9 : mc_cd 48 9 = some (.return_, 1) := by decide +kernel
theorem c48_10 : mc_cd 48 10 = some (.aload_n 0, 1) := by decide +kernel
theorem c48_11 : mc_cd 48 11 = some (.getfield 9, 3) := by decide +kernel
theorem c48_14 : mc_cd 48 14 = some (.aload_n 0, 1) := by decide +kernel
theorem c48_15 : mc_cd 48 15 = some (.getfield 49, 3) := by decide +kernel
theorem c48_18 : mc_cd 48 18 = some (.iload_n 1, 1) := by decide +kernel
theorem c48_19 : mc_cd 48 19 = some (.iastore, 1) := by decide +kernel
theorem c48_20 : mc_cd 48 20 = some (.aload_n 0, 1) := by decide +kernel
theorem c48_21 : mc_cd 48 21 = some (.getfield 15, 3) := by decide +kernel
theorem c48_24 : mc_cd 48 24 = some (.aload_n 0, 1) := by decide +kernel
theorem c48_25 : mc_cd 48 25 = some (.getfield 49, 3) := by decide +kernel
theorem c48_28 : mc_cd 48 28 = some (.iload_n 2, 1) := by decide +kernel
theorem c48_29 : mc_cd 48 29 = some (.iastore, 1) := by decide +kernel
theorem c48_30 : mc_cd 48 30 = some (.aload_n 0, 1) := by decide +kernel
theorem c48_31 : mc_cd 48 31 = some (.getfield 18, 3) := by decide +kernel
theorem c48_34 : mc_cd 48 34 = some (.aload_n 0, 1) := by decide +kernel
theorem c48_35 : mc_cd 48 35 = some (.getfield 49, 3) := by decide +kernel
theorem c48_38 : mc_cd 48 38 = some (.iload_n 3, 1) := by decide +kernel
theorem c48_39 : mc_cd 48 39 = some (.iastore, 1) := by decide +kernel
theorem c48_40 : mc_cd 48 40 = some (.aload_n 0, 1) := by decide +kernel
theorem c48_41 : mc_cd 48 41 = some (.getfield 21, 3) := by decide +kernel
theorem c48_44 : mc_cd 48 44 = some (.aload_n 0, 1) := by decide +kernel
theorem c48_45 : mc_cd 48 45 = some (.getfield 49, 3) := by decide +kernel
theorem c48_48 : mc_cd 48 48 = some (.iload 4, 2) := by decide +kernel
theorem c48_50 : mc_cd 48 50 = some (.iastore, 1) := by decide +kernel
theorem c48_51 : mc_cd 48 51 = some (.aload_n 0, 1) := by decide +kernel
theorem c48_52 : mc_cd 48 52 = some (.getfield 24, 3) := by decide +kernel
theorem c48_55 : mc_cd 48 55 = some (.aload_n 0, 1) := by decide +kernel
theorem c48_56 : mc_cd 48 56 = some (.getfield 49, 3) := by decide +kernel
theorem c48_59 : mc_cd 48 59 = some (.iload 4, 2) := by decide +kernel
theorem c48_61 : mc_cd 48 61 = some (.invokestatic 78, 3) := by decide +kernel
theorem c48_64 : mc_cd 48 64 = some (.lastore, 1) := by decide +kernel
theorem c48_65 : mc_cd 48 65 = some (.aload_n 0, 1) := by decide +kernel
theorem c48_66 : mc_cd 48 66 = some (.getfield 28, 3) := by decide +kernel
theorem c48_69 : mc_cd 48 69 = some (.aload_n 0, 1) := by decide +kernel
theorem c48_70 : mc_cd 48 70 = some (.getfield 49, 3) := by decide +kernel
theorem c48_73 : mc_cd 48 73 = some (.iload 4, 2) := by decide +kernel
theorem c48_75 : mc_cd 48 75 = some (.bipush 12, 2) := by decide +kernel
theorem c48_77 : mc_cd 48 77 = some (.ishr, 1) := by decide +kernel
theorem c48_78 : mc_cd 48 78 = some (.invokestatic 78, 3) := by decide +kernel
theorem c48_81 : mc_cd 48 81 = some (.lastore, 1) := by decide +kernel
theorem c48_82 : mc_cd 48 82 = some (.aload_n 0, 1) := by decide +kernel
theorem c48_83 : mc_cd 48 83 = some (.dup, 1) := by decide +kernel
theorem c48_84 : mc_cd 48 84 = some (.getfield 49, 3) := by decide +kernel
theorem c48_87 : mc_cd 48 87 = some (.iconst 1, 1) := by decide +kernel
theorem c48_88 : mc_cd 48 88 = some (.iadd, 1) := by decide +kernel
theorem c48_89 : mc_cd 48 89 = some (.putfield 49, 3) := by decide +kernel
theorem c48_92 : mc_cd 48 92 = some (.return_, 1) := by decide +kernel
abbrev q_48 (r0 : Nat) (a1 : Int) (a2 : Int) (a3 : Int) (a4 : Int) (T : wq_T) (H : wq_H) : Option Value → wq_T → wq_H → Prop := fun r T' H' => T = T' ∧ WT T H' ∧ wfr [(35, 15), (38, 999), (39, 999), (36, 999), (40, 999), (41, 999), (37, 999)] T H H' ∧ none = r
set_option maxHeartbeats 4000000 in
theorem s_48 {kt : Nat → Option mc_E} {T : wq_T} {H : wq_H} {r0 : Nat} {a1 : Int} {a2 : Int} {a3 : Int} {a4 : Int} (hW : WT T H) (g0 : T.2.2.2 r0 = some 35) (i1 : (-1) ≤ a1 ∧ a1 ≤ 24) (i2 : (-1) ≤ a2 ∧ a2 ≤ 24) (i3 : (-2147483648) ≤ a3 ∧ a3 ≤ 2147483647) (i4 : (-2147483648) ≤ a4 ∧ a4 ≤ 2147483647) : wpc kt 2 48 [.ref r0, vI a1, vI a2, vI a3, vI a4] T H (q_48 r0 a1 a2 a3 a4 T H) := by
  refine wp_enter e48 (Nat.le_of_ble_eq_true rfl) rfl ?_
  have f0 : wfr [(35, 15), (38, 999), (39, 999), (36, 999), (40, 999), (41, 999), (37, 999)] T H H := wfr.rf
  show wp _ _ 48 0 [(0, .ref r0), (1, vI a1), (2, vI a2), (3, vI a3), (4, vI a4)] [] _ H _
  refine wp_of e48 c48_0 (rw_aload_n (pc' := 1) (v := .ref r0) rfl rfl rfl ?_)
  refine wp_of e48 c48_1 (xg_I (pc' := 4) lf_8_49 hW g0 sh_35 (by decide) (by decide) ty_35_15 rfl rfl (fun b13963 b13964 => ?_))
  refine wp_of e48 c48_4 (rw_bipush (pc' := 6) (z := 40) rfl (by decide) ?_)
  refine wp_of e48 c48_6 (rw_icmp_lt (p1 := 10) (p2 := 9) (by decide) rfl ⟨by omega, by omega⟩ ⟨by omega, by omega⟩ (fun c13965 => ?_) (fun c13965 => ?_))
  · refine wp_of e48 c48_10 (rw_aload_n (pc' := 11) (v := .ref r0) rfl rfl rfl ?_)
    refine wp_of e48 c48_11 (xg_R (pc' := 14) lf_8_9 hW g0 sh_35 (by decide) (by decide) ty_35_0 rfl rfl (fun r13966 q13967 g13968 => ?_))
    refine wp_of e48 c48_14 (rw_aload_n (pc' := 15) (v := .ref r0) rfl rfl rfl ?_)
    refine wp_of e48 c48_15 (xg_I (pc' := 18) lf_8_49 hW g0 sh_35 (by decide) (by decide) ty_35_15 rfl rfl (fun b13969 b13970 => ?_))
    refine wp_of e48 c48_18 (rw_iload_n (pc' := 19) (z := a1) rfl rfl ?_)
    refine wp_of e48 c48_19 (xs_I (pc' := 20) hW g13968 (by decide) sh_36 (by decide) (ty_36 _) (by omega) (by omega) ⟨by omega, by omega⟩ (by omega) (by omega) rfl (fun H13971 e13972 w13973 => ?_))
    have f13974 := f0.put' e13972 g13968 rfl
    refine wp_of e48 c48_20 (rw_aload_n (pc' := 21) (v := .ref r0) rfl rfl rfl ?_)
    refine wp_of e48 c48_21 (xg_R (pc' := 24) lf_8_15 w13973 g0 sh_35 (by decide) (by decide) ty_35_1 rfl rfl (fun r13975 q13976 g13977 => ?_))
    refine wp_of e48 c48_24 (rw_aload_n (pc' := 25) (v := .ref r0) rfl rfl rfl ?_)
    have k13978 : H13971 r0 15 = H r0 15 := (wq_u_t e13972 g13968 g0 rfl 15)
    refine wp_of e48 c48_25 (xg_I (pc' := 28) lf_8_49 w13973 g0 sh_35 (by decide) (by decide) ty_35_15 rfl rfl (fun b13979 b13980 => ?_))
    refine wp_of e48 c48_28 (rw_iload_n (pc' := 29) (z := a2) rfl rfl ?_)
    refine wp_of e48 c48_29 (xs_I (pc' := 30) w13973 g13977 (by decide) sh_37 (by decide) (ty_37 _) (by omega) (by omega) ⟨by omega, by omega⟩ (by omega) (by omega) rfl (fun H13981 e13982 w13983 => ?_))
    have f13984 := f13974.put' e13982 g13977 rfl
    refine wp_of e48 c48_30 (rw_aload_n (pc' := 31) (v := .ref r0) rfl rfl rfl ?_)
    refine wp_of e48 c48_31 (xg_R (pc' := 34) lf_8_18 w13983 g0 sh_35 (by decide) (by decide) ty_35_2 rfl rfl (fun r13985 q13986 g13987 => ?_))
    refine wp_of e48 c48_34 (rw_aload_n (pc' := 35) (v := .ref r0) rfl rfl rfl ?_)
    have k13988 : H13981 r0 15 = H13971 r0 15 := (wq_u_t e13982 g13977 g0 rfl 15)
    refine wp_of e48 c48_35 (xg_I (pc' := 38) lf_8_49 w13983 g0 sh_35 (by decide) (by decide) ty_35_15 rfl rfl (fun b13989 b13990 => ?_))
    refine wp_of e48 c48_38 (rw_iload_n (pc' := 39) (z := a3) rfl rfl ?_)
    refine wp_of e48 c48_39 (xs_I (pc' := 40) w13983 g13987 (by decide) sh_38 (by decide) (ty_38 _) (by omega) (by omega) ⟨by omega, by omega⟩ (by omega) (by omega) rfl (fun H13991 e13992 w13993 => ?_))
    have f13994 := f13984.put' e13992 g13987 rfl
    refine wp_of e48 c48_40 (rw_aload_n (pc' := 41) (v := .ref r0) rfl rfl rfl ?_)
    refine wp_of e48 c48_41 (xg_R (pc' := 44) lf_8_21 w13993 g0 sh_35 (by decide) (by decide) ty_35_3 rfl rfl (fun r13995 q13996 g13997 => ?_))
    refine wp_of e48 c48_44 (rw_aload_n (pc' := 45) (v := .ref r0) rfl rfl rfl ?_)
    have k13998 : H13991 r0 15 = H13981 r0 15 := (wq_u_t e13992 g13987 g0 rfl 15)
    refine wp_of e48 c48_45 (xg_I (pc' := 48) lf_8_49 w13993 g0 sh_35 (by decide) (by decide) ty_35_15 rfl rfl (fun b13999 b14000 => ?_))
    refine wp_of e48 c48_48 (rw_iload (pc' := 50) (z := a4) rfl rfl ?_)
    refine wp_of e48 c48_50 (xs_I (pc' := 51) w13993 g13997 (by decide) sh_39 (by decide) (ty_39 _) (by omega) (by omega) ⟨by omega, by omega⟩ (by omega) (by omega) rfl (fun H14001 e14002 w14003 => ?_))
    have f14004 := f13994.put' e14002 g13997 rfl
    refine wp_of e48 c48_51 (rw_aload_n (pc' := 52) (v := .ref r0) rfl rfl rfl ?_)
    refine wp_of e48 c48_52 (xg_R (pc' := 55) lf_8_24 w14003 g0 sh_35 (by decide) (by decide) ty_35_4 rfl rfl (fun r14005 q14006 g14007 => ?_))
    refine wp_of e48 c48_55 (rw_aload_n (pc' := 56) (v := .ref r0) rfl rfl rfl ?_)
    have k14008 : H14001 r0 15 = H13991 r0 15 := (wq_u_t e14002 g13997 g0 rfl 15)
    refine wp_of e48 c48_56 (xg_I (pc' := 59) lf_8_49 w14003 g0 sh_35 (by decide) (by decide) ty_35_15 rfl rfl (fun b14009 b14010 => ?_))
    refine wp_of e48 c48_59 (rw_iload (pc' := 61) (z := a4) rfl rfl ?_)
    refine wp_of e48 c48_61 (xc_S (pc' := 64) (as := [vI a4]) (st := [vI (H14001 r0 15), .ref r14005]) (lm_8_78) rfl rfl (Nat.le_of_ble_eq_true rfl) rfl (by decide) (s_49 w14003 ⟨by omega, by omega⟩) (fun R14011 T14012 H14013 p14014 => ?_))
    obtain ⟨e14015, e14017, z14018, e14016, b14019⟩ := p14014
    subst e14015
    subst e14016
    subst e14017
    show wp _ _ 48 64 [(0, .ref r0), (1, vI a1), (2, vI a2), (3, vI a3), (4, vI a4)] [vL z14018, vI (H14001 r0 15), .ref r14005] _ H14001 _
    refine wp_of e48 c48_64 (xs_L (pc' := 65) w14003 g14007 (by decide) sh_40 (by decide) (ty_40 _) (by omega) (by omega) ⟨by omega, by omega⟩ (by omega) (by omega) rfl (fun H14020 e14021 w14022 => ?_))
    have f14023 := f14004.put' e14021 g14007 rfl
    refine wp_of e48 c48_65 (rw_aload_n (pc' := 66) (v := .ref r0) rfl rfl rfl ?_)
    refine wp_of e48 c48_66 (xg_R (pc' := 69) lf_8_28 w14022 g0 sh_35 (by decide) (by decide) ty_35_5 rfl rfl (fun r14024 q14025 g14026 => ?_))
    refine wp_of e48 c48_69 (rw_aload_n (pc' := 70) (v := .ref r0) rfl rfl rfl ?_)
    have k14027 : H14020 r0 15 = H14001 r0 15 := (wq_u_t e14021 g14007 g0 rfl 15)
    refine wp_of e48 c48_70 (xg_I (pc' := 73) lf_8_49 w14022 g0 sh_35 (by decide) (by decide) ty_35_15 rfl rfl (fun b14028 b14029 => ?_))
    refine wp_of e48 c48_73 (rw_iload (pc' := 75) (z := a4) rfl rfl ?_)
    refine wp_of e48 c48_75 (rw_bipush (pc' := 77) (z := 12) rfl (by decide) ?_)
    refine wp_of e48 c48_77 (rw_ishr (pc' := 78) rfl ?_)
    obtain ⟨v14030, e14031⟩ : ∃ x : Int, x = wq_shr a4 12 := ⟨_, rfl⟩
    rw [← e14031]
    have b14032 : -2147483648 ≤ v14030 ∧ v14030 ≤ 2147483647 := by
      rw [e14031]
      exact wI_shr _ _
    refine wp_of e48 c48_78 (xc_S (pc' := 81) (as := [vI v14030]) (st := [vI (H14020 r0 15), .ref r14024]) (lm_8_78) rfl rfl (Nat.le_of_ble_eq_true rfl) rfl (by decide) (s_49 w14022 ⟨by omega, by omega⟩) (fun R14033 T14034 H14035 p14036 => ?_))
    obtain ⟨e14037, e14039, z14040, e14038, b14041⟩ := p14036
    subst e14037
    subst e14038
    subst e14039
    show wp _ _ 48 81 [(0, .ref r0), (1, vI a1), (2, vI a2), (3, vI a3), (4, vI a4)] [vL z14040, vI (H14020 r0 15), .ref r14024] _ H14020 _
    refine wp_of e48 c48_81 (xs_L (pc' := 82) w14022 g14026 (by decide) sh_41 (by decide) (ty_41 _) (by omega) (by omega) ⟨by omega, by omega⟩ (by omega) (by omega) rfl (fun H14042 e14043 w14044 => ?_))
    have f14045 := f14023.put' e14043 g14026 rfl
    refine wp_of e48 c48_82 (rw_aload_n (pc' := 83) (v := .ref r0) rfl rfl rfl ?_)
    refine wp_of e48 c48_83 (rw_dup (pc' := 84) rfl rfl ?_)
    have k14046 : H14042 r0 15 = H14020 r0 15 := (wq_u_t e14043 g14026 g0 rfl 15)
    refine wp_of e48 c48_84 (xg_I (pc' := 87) lf_8_49 w14044 g0 sh_35 (by decide) (by decide) ty_35_15 rfl rfl (fun b14047 b14048 => ?_))
    refine wp_of e48 c48_87 (rw_iconst (pc' := 88) rfl ?_)
    refine wp_of e48 c48_88 (rw_iadd (pc' := 89) rfl ?_)
    refine wp_of e48 c48_89 (xp_I (pc' := 92) lf_8_49 w14044 g0 sh_35 (by decide) (by decide) ty_35_15 rfl rfl (by omega) (by omega) ⟨by omega, by omega⟩ rfl (fun H14049 e14050 w14051 => ?_))
    have f14052 := f14045.put' e14050 g0 rfl
    have k14053 : H14049 r0 15 = (H14042 r0 15) + 1 := wq_u_s e14050
    exact wp_return e48 c48_92 rfl ⟨rfl, w14051, f14052, rfl⟩
  · exact wp_return e48 c48_9 rfl ⟨rfl, hW, f0, rfl⟩
/-! StrikeAwake$Person.makeSpans(II)V -/
theorem e47 : wq_en 47 = some (8, 6, false, none) := rfl
theorem c47_0 : mc_cd 47 0 = some (.aload_n 0, 1) := by decide +kernel
theorem c47_1 : mc_cd 47 1 = some (.getfield 42, 3) := by decide +kernel
theorem c47_4 : mc_cd 47 4 = some (.ifCond .eq 12, 3) := by decide +kernel
theorem c47_7 : mc_cd 47 7 = some (.aload_n 0, 1) := by decide +kernel
theorem c47_8 : mc_cd 47 8 = some (.iconst 0, 1) := by decide +kernel
theorem c47_9 : mc_cd 47 9 = some (.iconst 0, 1) := by decide +kernel
theorem c47_10 : mc_cd 47 10 = some (.iconst 0, 1) := by decide +kernel
theorem c47_11 : mc_cd 47 11 = some (.iconst 0, 1) := by decide +kernel
theorem c47_12 : mc_cd 47 12 = some (.invokevirtual 58, 3) := by decide +kernel
theorem c47_15 : mc_cd 47 15 = some (.return_, 1) := by decide +kernel
theorem c47_16 : mc_cd 47 16 = some (.aload_n 0, 1) := by decide +kernel
theorem c47_17 : mc_cd 47 17 = some (.getfield 62, 3) := by decide +kernel
theorem c47_20 : mc_cd 47 20 = some (.istore_n 3, 1) := by decide +kernel
theorem c47_21 : mc_cd 47 21 = some (.iload_n 3, 1) := by decide +kernel
theorem c47_22 : mc_cd 47 22 = some (.aload_n 0, 1) := by decide +kernel
theorem c47_23 : mc_cd 47 23 = some (.getfield 65, 3) := by decide +kernel
theorem c47_26 : mc_cd 47 26 = some (.if_icmp .gt 69, 3) := by decide +kernel
theorem c47_29 : mc_cd 47 29 = some (.aload_n 0, 1) := by decide +kernel
theorem c47_30 : mc_cd 47 30 = some (.getfield 68, 3) := by decide +kernel
theorem c47_33 : mc_cd 47 33 = some (.istore 4, 2) := by decide +kernel
theorem c47_35 : mc_cd 47 35 = some (.iload 4, 2) := by decide +kernel
theorem c47_37 : mc_cd 47 37 = some (.aload_n 0, 1) := by decide +kernel
theorem c47_38 : mc_cd 47 38 = some (.getfield 71, 3) := by decide +kernel
theorem c47_41 : mc_cd 47 41 = some (.if_icmp .gt 48, 3) := by decide +kernel
theorem c47_44 : mc_cd 47 44 = some (.iload_n 3, 1) := by decide +kernel
theorem c47_45 : mc_cd 47 45 = some (.iload_n 3, 1) := by decide +kernel
theorem c47_46 : mc_cd 47 46 = some (.iload 4, 2) := by decide +kernel
theorem c47_48 : mc_cd 47 48 = some (.iadd, 1) := by decide +kernel
theorem c47_49 : mc_cd 47 49 = some (.invokestatic 74, 3) := by decide +kernel
theorem c47_52 : mc_cd 47 52 = some (.aload_n 0, 1) := by decide +kernel
theorem c47_53 : mc_cd 47 53 = some (.getfield 39, 3) := by decide +kernel
theorem c47_56 : mc_cd 47 56 = some (.ior, 1) := by decide +kernel
theorem c47_57 : mc_cd 47 57 = some (.iload_n 1, 1) := by decide +kernel
theorem c47_58 : mc_cd 47 58 = some (.iand, 1) := by decide +kernel
theorem c47_59 : mc_cd 47 59 = some (.istore 5, 2) := by decide +kernel
theorem c47_61 : mc_cd 47 61 = some (.iload 5, 2) := by decide +kernel
theorem c47_63 : mc_cd 47 63 = some (.iload_n 2, 1) := by decide +kernel
theorem c47_64 : mc_cd 47 64 = some (.iand, 1) := by decide +kernel
theorem c47_65 : mc_cd 47 65 = some (.ifCond .ne 18, 3) := by decide +kernel
theorem c47_68 : mc_cd 47 68 = some (.aload_n 0, 1) := by decide +kernel
theorem c47_69 : mc_cd 47 69 = some (.iload_n 3, 1) := by decide +kernel
theorem c47_70 : mc_cd 47 70 = some (.iload 4, 2) := by decide +kernel
theorem c47_72 : mc_cd 47 72 = some (.iload 5, 2) := by decide +kernel
theorem c47_74 : mc_cd 47 74 = some (.iload_n 1, 1) := by decide +kernel
theorem c47_75 : mc_cd 47 75 = some (.iload 5, 2) := by decide +kernel
theorem c47_77 : mc_cd 47 77 = some (.iconst (-1), 1) := by decide +kernel
theorem c47_78 : mc_cd 47 78 = some (.ixor, 1) := by decide +kernel
theorem c47_79 : mc_cd 47 79 = some (.iand, 1) := by decide +kernel
theorem c47_80 : mc_cd 47 80 = some (.invokevirtual 58, 3) := by decide +kernel
theorem c47_83 : mc_cd 47 83 = some (.iinc 4 1, 3) := by decide +kernel
theorem c47_86 : mc_cd 47 86 = some (.goto (-51), 3) := by decide +kernel
theorem c47_89 : mc_cd 47 89 = some (.iinc 3 1, 3) := by decide +kernel
theorem c47_92 : mc_cd 47 92 = some (.goto (-71), 3) := by decide +kernel
theorem c47_95 : mc_cd 47 95 = some (.return_, 1) := by decide +kernel
abbrev q_47 (r0 : Nat) (a1 : Int) (a2 : Int) (T : wq_T) (H : wq_H) : Option Value → wq_T → wq_H → Prop := fun r T' H' => T = T' ∧ WT T H' ∧ wfr [(35, 15), (38, 999), (39, 999), (36, 999), (40, 999), (41, 999), (37, 999)] T H H' ∧ none = r
set_option maxHeartbeats 4000000 in
theorem s_47 {kt : Nat → Option mc_E} {T : wq_T} {H : wq_H} {r0 : Nat} {a1 : Int} {a2 : Int} (hW : WT T H) (g0 : T.2.2.2 r0 = some 35) (i1 : (-2147483648) ≤ a1 ∧ a1 ≤ 2147483647) (i2 : (-2147483648) ≤ a2 ∧ a2 ≤ 2147483647) : wpc kt 3 47 [.ref r0, vI a1, vI a2] T H (q_47 r0 a1 a2 T H) := by
  refine wp_enter e47 (Nat.le_of_ble_eq_true rfl) rfl ?_
  have f0 : wfr [(35, 15), (38, 999), (39, 999), (36, 999), (40, 999), (41, 999), (37, 999)] T H H := wfr.rf
  show wp _ _ 47 0 [(0, .ref r0), (1, vI a1), (2, vI a2)] [] _ H _
  refine wp_of e47 c47_0 (rw_aload_n (pc' := 1) (v := .ref r0) rfl rfl rfl ?_)
  refine wp_of e47 c47_1 (xg_I (pc' := 4) lf_8_42 hW g0 sh_35 (by decide) (by decide) ty_35_13 rfl rfl (fun b14393 b14394 => ?_))
  refine wp_of e47 c47_4 (rw_if_eq (p1 := 16) (p2 := 7) (by decide) rfl ⟨by omega, by omega⟩ (fun c14395 => ?_) (fun c14395 => ?_))
  · refine wp_of e47 c47_16 (rw_aload_n (pc' := 17) (v := .ref r0) rfl rfl rfl ?_)
    refine wp_of e47 c47_17 (xg_I (pc' := 20) lf_8_62 hW g0 sh_35 (by decide) (by decide) ty_35_7 rfl rfl (fun b14396 b14397 => ?_))
    refine wp_of e47 c47_20 (rw_istore_n (pc' := 21) (z := H r0 7) (L' := [(3, vI (H r0 7)), (0, .ref r0), (1, vI a1), (2, vI a2)]) rfl rfl rfl ?_)
    have lp14614 : ∀ (n14615 : Nat) (v14617 : Int) (H14618 : wq_H), WT T H14618 → wfr [(35, 15), (38, 999), (39, 999), (36, 999), (40, 999), (41, 999), (37, 999)] T H H14618 → ((-1) ≤ v14617 ∧ v14617 ≤ 25) → (25 - v14617).toNat = n14615 → wp kt 2 47 21 [(3, vI v14617), (0, .ref r0), (1, vI a1), (2, vI a2)] [] T H14618 (q_47 r0 a1 a2 T H) := by
      intro n14615
      induction n14615 using Nat.strongRecOn with
      | _ n14615 ih14616 =>
        intro v14617 H14618 w14619 f14620 b14621 m14622
        have f14623 := f0.tr f14620 rfl
        refine wp_of e47 c47_21 (rw_iload_n (pc' := 22) (z := v14617) rfl rfl ?_)
        refine wp_of e47 c47_22 (rw_aload_n (pc' := 23) (v := .ref r0) rfl rfl rfl ?_)
        refine wp_of e47 c47_23 (xg_I (pc' := 26) lf_8_65 w14619 g0 sh_35 (by decide) (by decide) ty_35_8 rfl rfl (fun b14624 b14625 => ?_))
        refine wp_of e47 c47_26 (rw_icmp_gt (p1 := 95) (p2 := 29) (by decide) rfl ⟨by omega, by omega⟩ ⟨by omega, by omega⟩ (fun c14626 => ?_) (fun c14626 => ?_))
        · exact wp_return e47 c47_95 rfl ⟨rfl, w14619, f14623, rfl⟩
        · refine wp_of e47 c47_29 (rw_aload_n (pc' := 30) (v := .ref r0) rfl rfl rfl ?_)
          refine wp_of e47 c47_30 (xg_I (pc' := 33) lf_8_68 w14619 g0 sh_35 (by decide) (by decide) ty_35_9 rfl rfl (fun b14627 b14628 => ?_))
          refine wp_of e47 c47_33 (rw_istore (pc' := 35) (z := H14618 r0 9) (L' := [(4, vI (H14618 r0 9)), (3, vI v14617), (0, .ref r0), (1, vI a1), (2, vI a2)]) rfl rfl rfl ?_)
          have lp14699 : ∀ (n14700 : Nat) (v14702 : Int) (H14703 : wq_H), WT T H14703 → wfr [(35, 15), (38, 999), (39, 999), (36, 999), (40, 999), (41, 999), (37, 999)] T H14618 H14703 → ((-1) ≤ v14702 ∧ v14702 ≤ 25) → (25 - v14702).toNat = n14700 → wp kt 2 47 35 [(4, vI v14702), (3, vI v14617), (0, .ref r0), (1, vI a1), (2, vI a2)] [] T H14703 (q_47 r0 a1 a2 T H) := by
            intro n14700
            induction n14700 using Nat.strongRecOn with
            | _ n14700 ih14701 =>
              intro v14702 H14703 w14704 f14705 b14706 m14707
              have f14708 := f14623.tr f14705 rfl
              have f14709 := f14620.tr f14705 rfl
              refine wp_of e47 c47_35 (rw_iload (pc' := 37) (z := v14702) rfl rfl ?_)
              refine wp_of e47 c47_37 (rw_aload_n (pc' := 38) (v := .ref r0) rfl rfl rfl ?_)
              refine wp_of e47 c47_38 (xg_I (pc' := 41) lf_8_71 w14704 g0 sh_35 (by decide) (by decide) ty_35_10 rfl rfl (fun b14710 b14711 => ?_))
              refine wp_of e47 c47_41 (rw_icmp_gt (p1 := 89) (p2 := 44) (by decide) rfl ⟨by omega, by omega⟩ ⟨by omega, by omega⟩ (fun c14712 => ?_) (fun c14712 => ?_))
              · refine wp_of e47 c47_89 (rw_iinc (pc' := 92) (z := v14617) (L' := [(3, vI (v14617 + 1)), (4, vI v14702), (0, .ref r0), (1, vI a1), (2, vI a2)]) rfl rfl rfl rfl ?_)
                refine wp_of e47 c47_92 (rw_goto (p1 := 21) (by decide) ?_)
                exact wp_lc (ks := [3, 4, 0, 1, 2]) (wl_c rfl (wl_c rfl (wl_c rfl (wl_c rfl wl_n)))) rfl (by decide) (ih14616 _ (by omega) (v14617 + 1) H14703 w14704 f14709 ⟨by omega, by omega⟩ rfl)
              · refine wp_of e47 c47_44 (rw_iload_n (pc' := 45) (z := v14617) rfl rfl ?_)
                refine wp_of e47 c47_45 (rw_iload_n (pc' := 46) (z := v14617) rfl rfl ?_)
                refine wp_of e47 c47_46 (rw_iload (pc' := 48) (z := v14702) rfl rfl ?_)
                refine wp_of e47 c47_48 (rw_iadd (pc' := 49) rfl ?_)
                refine wp_of e47 c47_49 (xc_S (pc' := 52) (as := [vI v14617, vI (v14617 + v14702)]) (st := []) (lm_8_74) rfl rfl (Nat.le_of_ble_eq_true rfl) rfl (by decide) (s_31 w14704 ⟨by omega, by omega⟩ ⟨by omega, by omega⟩) (fun R14713 T14714 H14715 p14716 => ?_))
                obtain ⟨e14717, e14719, z14720, e14718, b14721⟩ := p14716
                subst e14717
                subst e14718
                subst e14719
                show wp _ _ 47 52 [(4, vI v14702), (3, vI v14617), (0, .ref r0), (1, vI a1), (2, vI a2)] [vI z14720] _ H14703 _
                refine wp_of e47 c47_52 (rw_aload_n (pc' := 53) (v := .ref r0) rfl rfl rfl ?_)
                refine wp_of e47 c47_53 (xg_I (pc' := 56) lf_8_39 w14704 g0 sh_35 (by decide) (by decide) ty_35_12 rfl rfl (fun b14722 b14723 => ?_))
                refine wp_of e47 c47_56 (rw_ior (pc' := 57) rfl ?_)
                obtain ⟨v14724, e14725⟩ : ∃ x : Int, x = wq_or z14720 (H14703 r0 12) := ⟨_, rfl⟩
                rw [← e14725]
                have b14726 : -2147483648 ≤ v14724 ∧ v14724 ≤ 2147483647 := by
                  rw [e14725]
                  exact wI_or _ _
                refine wp_of e47 c47_57 (rw_iload_n (pc' := 58) (z := a1) rfl rfl ?_)
                refine wp_of e47 c47_58 (rw_iand (pc' := 59) rfl ?_)
                obtain ⟨v14727, e14728⟩ : ∃ x : Int, x = wq_and v14724 a1 := ⟨_, rfl⟩
                rw [← e14728]
                have b14729 : -2147483648 ≤ v14727 ∧ v14727 ≤ 2147483647 := by
                  rw [e14728]
                  exact wI_and _ _
                refine wp_of e47 c47_59 (rw_istore (pc' := 61) (z := v14727) (L' := [(5, vI v14727), (4, vI v14702), (3, vI v14617), (0, .ref r0), (1, vI a1), (2, vI a2)]) rfl rfl rfl ?_)
                refine wp_of e47 c47_61 (rw_iload (pc' := 63) (z := v14727) rfl rfl ?_)
                refine wp_of e47 c47_63 (rw_iload_n (pc' := 64) (z := a2) rfl rfl ?_)
                refine wp_of e47 c47_64 (rw_iand (pc' := 65) rfl ?_)
                obtain ⟨v14730, e14731⟩ : ∃ x : Int, x = wq_and v14727 a2 := ⟨_, rfl⟩
                rw [← e14731]
                have b14732 : -2147483648 ≤ v14730 ∧ v14730 ≤ 2147483647 := by
                  rw [e14731]
                  exact wI_and _ _
                refine wp_of e47 c47_65 (rw_if_ne (p1 := 83) (p2 := 68) (by decide) rfl ⟨by omega, by omega⟩ (fun c14733 => ?_) (fun c14733 => ?_))
                · refine wp_of e47 c47_83 (rw_iinc (pc' := 86) (z := v14702) (L' := [(4, vI (v14702 + 1)), (5, vI v14727), (3, vI v14617), (0, .ref r0), (1, vI a1), (2, vI a2)]) rfl rfl rfl rfl ?_)
                  refine wp_of e47 c47_86 (rw_goto (p1 := 35) (by decide) ?_)
                  exact wp_lc (ks := [4, 5, 3, 0, 1, 2]) (wl_c rfl (wl_c rfl (wl_c rfl (wl_c rfl (wl_c rfl wl_n))))) rfl (by decide) (ih14701 _ (by omega) (v14702 + 1) H14703 w14704 f14705 ⟨by omega, by omega⟩ rfl)
                · refine wp_of e47 c47_68 (rw_aload_n (pc' := 69) (v := .ref r0) rfl rfl rfl ?_)
                  refine wp_of e47 c47_69 (rw_iload_n (pc' := 70) (z := v14617) rfl rfl ?_)
                  refine wp_of e47 c47_70 (rw_iload (pc' := 72) (z := v14702) rfl rfl ?_)
                  refine wp_of e47 c47_72 (rw_iload (pc' := 74) (z := v14727) rfl rfl ?_)
                  refine wp_of e47 c47_74 (rw_iload_n (pc' := 75) (z := a1) rfl rfl ?_)
                  refine wp_of e47 c47_75 (rw_iload (pc' := 77) (z := v14727) rfl rfl ?_)
                  refine wp_of e47 c47_77 (rw_iconst (pc' := 78) rfl ?_)
                  refine wp_of e47 c47_78 (rw_ixor (pc' := 79) rfl ?_)
                  obtain ⟨v14734, e14735⟩ : ∃ x : Int, x = wq_xor v14727 (-1) := ⟨_, rfl⟩
                  rw [← e14735]
                  have b14736 : -2147483648 ≤ v14734 ∧ v14734 ≤ 2147483647 := by
                    rw [e14735]
                    exact wI_xor _ _
                  refine wp_of e47 c47_79 (rw_iand (pc' := 80) rfl ?_)
                  obtain ⟨v14737, e14738⟩ : ∃ x : Int, x = wq_and a1 v14734 := ⟨_, rfl⟩
                  rw [← e14738]
                  have b14739 : -2147483648 ≤ v14737 ∧ v14737 ≤ 2147483647 := by
                    rw [e14738]
                    exact wI_and _ _
                  refine wp_of e47 c47_80 (xc_V (pc' := 83) (r := r0) (as := [vI v14617, vI v14702, vI v14727, vI v14737]) (st := []) (lm_8_58) rfl rfl (Nat.le_of_ble_eq_true rfl) w14704 g0 sh_35 (by decide) rfl (by decide) (s_48 w14704 g0 ⟨by omega, by omega⟩ ⟨by omega, by omega⟩ ⟨by omega, by omega⟩ ⟨by omega, by omega⟩) (fun R14740 T14741 H14742 p14743 => ?_))
                  obtain ⟨e14744, w14746, f14747, e14745⟩ := p14743
                  subst e14744
                  subst e14745
                  have f14748 := f14708.tr f14747 rfl
                  have f14749 := f14709.tr f14747 rfl
                  have f14750 := f14705.tr f14747 rfl
                  show wp _ _ 47 83 [(5, vI v14727), (4, vI v14702), (3, vI v14617), (0, .ref r0), (1, vI a1), (2, vI a2)] [] _ H14742 _
                  refine wp_of e47 c47_83 (rw_iinc (pc' := 86) (z := v14702) (L' := [(4, vI (v14702 + 1)), (5, vI v14727), (3, vI v14617), (0, .ref r0), (1, vI a1), (2, vI a2)]) rfl rfl rfl rfl ?_)
                  refine wp_of e47 c47_86 (rw_goto (p1 := 35) (by decide) ?_)
                  exact wp_lc (ks := [4, 5, 3, 0, 1, 2]) (wl_c rfl (wl_c rfl (wl_c rfl (wl_c rfl (wl_c rfl wl_n))))) rfl (by decide) (ih14701 _ (by omega) (v14702 + 1) H14742 w14746 f14750 ⟨by omega, by omega⟩ rfl)
          exact wp_lc (ks := [4, 3, 0, 1, 2]) (wl_c rfl (wl_c rfl (wl_c rfl (wl_c rfl (wl_c rfl wl_n))))) rfl (by decide) (lp14699 _ (H14618 r0 9) H14618 w14619 wfr.rf ⟨by omega, by omega⟩ rfl)
    exact wp_lc (ks := [3, 0, 1, 2]) (wl_c rfl (wl_c rfl (wl_c rfl (wl_c rfl wl_n)))) rfl (by decide) (lp14614 _ (H r0 7) H hW wfr.rf ⟨by omega, by omega⟩ rfl)
  · refine wp_of e47 c47_7 (rw_aload_n (pc' := 8) (v := .ref r0) rfl rfl rfl ?_)
    refine wp_of e47 c47_8 (rw_iconst (pc' := 9) rfl ?_)
    refine wp_of e47 c47_9 (rw_iconst (pc' := 10) rfl ?_)
    refine wp_of e47 c47_10 (rw_iconst (pc' := 11) rfl ?_)
    refine wp_of e47 c47_11 (rw_iconst (pc' := 12) rfl ?_)
    refine wp_of e47 c47_12 (xc_V (pc' := 15) (r := r0) (as := [vI 0, vI 0, vI 0, vI 0]) (st := []) (lm_8_58) rfl rfl (Nat.le_of_ble_eq_true rfl) hW g0 sh_35 (by decide) rfl (by decide) (s_48 hW g0 ⟨by omega, by omega⟩ ⟨by omega, by omega⟩ ⟨by omega, by omega⟩ ⟨by omega, by omega⟩) (fun R14751 T14752 H14753 p14754 => ?_))
    obtain ⟨e14755, w14757, f14758, e14756⟩ := p14754
    subst e14755
    subst e14756
    have f14759 := f0.tr f14758 rfl
    show wp _ _ 47 15 [(0, .ref r0), (1, vI a1), (2, vI a2)] [] _ H14753 _
    exact wp_return e47 c47_15 rfl ⟨rfl, w14757, f14759, rfl⟩
/-! StrikeAwake$Parish.settle()V -/
theorem e44 : wq_en 44 = some (7, 3, false, none) := rfl
theorem c44_0 : mc_cd 44 0 = some (.aload_n 0, 1) := by decide +kernel
theorem c44_1 : mc_cd 44 1 = some (.invokevirtual 96, 3) := by decide +kernel
theorem c44_4 : mc_cd 44 4 = some (.istore_n 1, 1) := by decide +kernel
theorem c44_5 : mc_cd 44 5 = some (.aload_n 0, 1) := by decide +kernel
theorem c44_6 : mc_cd 44 6 = some (.getfield 41, 3) := by decide +kernel
theorem c44_9 : mc_cd 44 9 = some (.istore_n 2, 1) := by decide +kernel
theorem c44_10 : mc_cd 44 10 = some (.iload_n 2, 1) := by decide +kernel
theorem c44_11 : mc_cd 44 11 = some (.bipush 24, 2) := by decide +kernel
theorem c44_13 : mc_cd 44 13 = some (.if_icmp .ge 17, 3) := by decide +kernel
theorem c44_16 : mc_cd 44 16 = some (.aload_n 0, 1) := by decide +kernel
theorem c44_17 : mc_cd 44 17 = some (.getfield 17, 3) := by decide +kernel
theorem c44_20 : mc_cd 44 20 = some (.iload_n 2, 1) := by decide +kernel
theorem c44_21 : mc_cd 44 21 = some (.bipush (-2), 2) := by decide +kernel
theorem c44_23 : mc_cd 44 23 = some (.iastore, 1) := by decide +kernel
theorem c44_24 : mc_cd 44 24 = some (.iinc 2 1, 3) := by decide +kernel
theorem c44_27 : mc_cd 44 27 = some (.goto (-17), 3) := by decide +kernel
theorem c44_30 : mc_cd 44 30 = some (.aload_n 0, 1) := by decide +kernel
theorem c44_31 : mc_cd 44 31 = some (.invokevirtual 89, 3) := by decide +kernel
theorem c44_34 : mc_cd 44 34 = some (.iconst 0, 1) := by decide +kernel
theorem c44_35 : mc_cd 44 35 = some (.istore_n 2, 1) := by decide +kernel
theorem c44_36 : mc_cd 44 36 = some (.iload_n 2, 1) := by decide +kernel
theorem c44_37 : mc_cd 44 37 = some (.aload_n 0, 1) := by decide +kernel
theorem c44_38 : mc_cd 44 38 = some (.getfield 59, 3) := by decide +kernel
theorem c44_41 : mc_cd 44 41 = some (.if_icmp .ge 19, 3) := by decide +kernel
theorem c44_44 : mc_cd 44 44 = some (.aload_n 0, 1) := by decide +kernel
theorem c44_45 : mc_cd 44 45 = some (.getfield 30, 3) := by decide +kernel
theorem c44_48 : mc_cd 44 48 = some (.iload_n 2, 1) := by decide +kernel
theorem c44_49 : mc_cd 44 49 = some (.dup2, 1) := by decide +kernel
theorem c44_50 : mc_cd 44 50 = some (.iaload, 1) := by decide +kernel
theorem c44_51 : mc_cd 44 51 = some (.iload_n 1, 1) := by decide +kernel
theorem c44_52 : mc_cd 44 52 = some (.iand, 1) := by decide +kernel
theorem c44_53 : mc_cd 44 53 = some (.iastore, 1) := by decide +kernel
theorem c44_54 : mc_cd 44 54 = some (.iinc 2 1, 3) := by decide +kernel
theorem c44_57 : mc_cd 44 57 = some (.goto (-21), 3) := by decide +kernel
theorem c44_60 : mc_cd 44 60 = some (.iconst 0, 1) := by decide +kernel
theorem c44_61 : mc_cd 44 61 = some (.istore_n 2, 1) := by decide +kernel
theorem c44_62 : mc_cd 44 62 = some (.iload_n 2, 1) := by decide +kernel
theorem c44_63 : mc_cd 44 63 = some (.aload_n 0, 1) := by decide +kernel
theorem c44_64 : mc_cd 44 64 = some (.getfield 62, 3) := by decide +kernel
theorem c44_67 : mc_cd 44 67 = some (.if_icmp .ge 19, 3) := by decide +kernel
theorem c44_70 : mc_cd 44 70 = some (.aload_n 0, 1) := by decide +kernel
theorem c44_71 : mc_cd 44 71 = some (.getfield 33, 3) := by decide +kernel
theorem c44_74 : mc_cd 44 74 = some (.iload_n 2, 1) := by decide +kernel
theorem c44_75 : mc_cd 44 75 = some (.dup2, 1) := by decide +kernel
theorem c44_76 : mc_cd 44 76 = some (.iaload, 1) := by decide +kernel
theorem c44_77 : mc_cd 44 77 = some (.iload_n 1, 1) := by decide +kernel
theorem c44_78 : mc_cd 44 78 = some (.iand, 1) := by decide +kernel
theorem c44_79 : mc_cd 44 79 = some (.iastore, 1) := by decide +kernel
theorem c44_80 : mc_cd 44 80 = some (.iinc 2 1, 3) := by decide +kernel
theorem c44_83 : mc_cd 44 83 = some (.goto (-21), 3) := by decide +kernel
theorem c44_86 : mc_cd 44 86 = some (.aload_n 0, 1) := by decide +kernel
theorem c44_87 : mc_cd 44 87 = some (.lconst 1, 1) := by decide +kernel
theorem c44_88 : mc_cd 44 88 = some (.putfield 71, 3) := by decide +kernel
theorem c44_91 : mc_cd 44 91 = some (.aload_n 0, 1) := by decide +kernel
theorem c44_92 : mc_cd 44 92 = some (.getfield 50, 3) := by decide +kernel
theorem c44_95 : mc_cd 44 95 = some (.iconst 1, 1) := by decide +kernel
theorem c44_96 : mc_cd 44 96 = some (.isub, 1) := by decide +kernel
theorem c44_97 : mc_cd 44 97 = some (.istore_n 2, 1) := by decide +kernel
theorem c44_98 : mc_cd 44 98 = some (.iload_n 2, 1) := by decide +kernel
theorem c44_99 : mc_cd 44 99 = some (.ifCond .lt 70, 3) := by decide +kernel
theorem c44_102 : mc_cd 44 102 = some (.aload_n 0, 1) := by decide +kernel
theorem c44_103 : mc_cd 44 103 = some (.getfield 11, 3) := by decide +kernel
theorem c44_106 : mc_cd 44 106 = some (.iload_n 2, 1) := by decide +kernel
theorem c44_107 : mc_cd 44 107 = some (.aaload, 1) := by decide +kernel
theorem c44_108 : mc_cd 44 108 = some (.iload_n 1, 1) := by decide +kernel
theorem c44_109 : mc_cd 44 109 = some (.iload_n 2, 1) := by decide +kernel
theorem c44_110 : mc_cd 44 110 = some (.aload_n 0, 1) := by decide +kernel
theorem c44_111 : mc_cd 44 111 = some (.getfield 37, 3) := by decide +kernel
theorem c44_114 : mc_cd 44 114 = some (.if_icmp .ne 12, 3) := by decide +kernel
theorem c44_117 : mc_cd 44 117 = some (.aload_n 0, 1) := by decide +kernel
theorem c44_118 : mc_cd 44 118 = some (.bipush 99, 2) := by decide +kernel
theorem c44_120 : mc_cd 44 120 = some (.invokevirtual 99, 3) := by decide +kernel
theorem c44_123 : mc_cd 44 123 = some (.goto 4, 3) := by decide +kernel
theorem c44_126 : mc_cd 44 126 = some (.iconst 0, 1) := by decide +kernel
theorem c44_127 : mc_cd 44 127 = some (.invokevirtual 103, 3) := by decide +kernel
theorem c44_130 : mc_cd 44 130 = some (.aload_n 0, 1) := by decide +kernel
theorem c44_131 : mc_cd 44 131 = some (.getfield 11, 3) := by decide +kernel
theorem c44_134 : mc_cd 44 134 = some (.iload_n 2, 1) := by decide +kernel
theorem c44_135 : mc_cd 44 135 = some (.aaload, 1) := by decide +kernel
theorem c44_136 : mc_cd 44 136 = some (.aload_n 0, 1) := by decide +kernel
theorem c44_137 : mc_cd 44 137 = some (.getfield 71, 3) := by decide +kernel
theorem c44_140 : mc_cd 44 140 = some (.l2i, 1) := by decide +kernel
theorem c44_141 : mc_cd 44 141 = some (.putfield 107, 3) := by decide +kernel
theorem c44_144 : mc_cd 44 144 = some (.aload_n 0, 1) := by decide +kernel
theorem c44_145 : mc_cd 44 145 = some (.dup, 1) := by decide +kernel
theorem c44_146 : mc_cd 44 146 = some (.getfield 71, 3) := by decide +kernel
theorem c44_149 : mc_cd 44 149 = some (.aload_n 0, 1) := by decide +kernel
theorem c44_150 : mc_cd 44 150 = some (.getfield 11, 3) := by decide +kernel
theorem c44_153 : mc_cd 44 153 = some (.iload_n 2, 1) := by decide +kernel
theorem c44_154 : mc_cd 44 154 = some (.aaload, 1) := by decide +kernel
theorem c44_155 : mc_cd 44 155 = some (.getfield 110, 3) := by decide +kernel
theorem c44_158 : mc_cd 44 158 = some (.i2l, 1) := by decide +kernel
theorem c44_159 : mc_cd 44 159 = some (.lmul, 1) := by decide +kernel
theorem c44_160 : mc_cd 44 160 = some (.putfield 71, 3) := by decide +kernel
theorem c44_163 : mc_cd 44 163 = some (.iinc 2 (-1), 3) := by decide +kernel
theorem c44_166 : mc_cd 44 166 = some (.goto (-68), 3) := by decide +kernel
theorem c44_169 : mc_cd 44 169 = some (.return_, 1) := by decide +kernel
abbrev q_44 (r0 : Nat) (T : wq_T) (H : wq_H) : Option Value → wq_T → wq_H → Prop := fun r T' H' => T = T' ∧ WT T H' ∧ wfr [(27, 16), (27, 18), (35, 15), (35, 17), (38, 999), (39, 999), (36, 999), (40, 999), (41, 999), (34, 999), (37, 999), (29, 999), (30, 999), (33, 999)] T H H' ∧ none = r
set_option maxHeartbeats 4000000 in
theorem s_44 {kt : Nat → Option mc_E} {T : wq_T} {H : wq_H} {r0 : Nat} (hW : WT T H) (g0 : T.2.2.2 r0 = some 27) : wpc kt 4 44 [.ref r0] T H (q_44 r0 T H) := by
  refine wp_enter e44 (Nat.le_of_ble_eq_true rfl) rfl ?_
  have f0 : wfr [(27, 16), (27, 18), (35, 15), (35, 17), (38, 999), (39, 999), (36, 999), (40, 999), (41, 999), (34, 999), (37, 999), (29, 999), (30, 999), (33, 999)] T H H := wfr.rf
  show wp _ _ 44 0 [(0, .ref r0)] [] _ H _
  refine wp_of e44 c44_0 (rw_aload_n (pc' := 1) (v := .ref r0) rfl rfl rfl ?_)
  refine wp_of e44 c44_1 (xc_V (pc' := 4) (r := r0) (as := []) (st := []) (lm_7_96) rfl rfl (Nat.le_of_ble_eq_true rfl) hW g0 sh_27 (by decide) rfl (by decide) (s_45 hW g0) (fun R15298 T15299 H15300 p15301 => ?_))
  obtain ⟨e15302, e15304, z15305, e15303, b15306⟩ := p15301
  subst e15302
  subst e15303
  subst e15304
  show wp _ _ 44 4 [(0, .ref r0)] [vI z15305] _ H _
  refine wp_of e44 c44_4 (rw_istore_n (pc' := 5) (z := z15305) (L' := [(1, vI z15305), (0, .ref r0)]) rfl rfl rfl ?_)
  refine wp_of e44 c44_5 (rw_aload_n (pc' := 6) (v := .ref r0) rfl rfl rfl ?_)
  refine wp_of e44 c44_6 (xg_I (pc' := 9) lf_7_41 hW g0 sh_27 (by decide) (by decide) ty_27_7 rfl rfl (fun b15307 b15308 => ?_))
  refine wp_of e44 c44_9 (rw_istore_n (pc' := 10) (z := H r0 7) (L' := [(2, vI (H r0 7)), (1, vI z15305), (0, .ref r0)]) rfl rfl rfl ?_)
  have lp15325 : ∀ (n15326 : Nat) (v15328 : Int) (H15329 : wq_H), WT T H15329 → wfr [(29, 999)] T H H15329 → (0 ≤ v15328 ∧ v15328 ≤ 24) → (24 - v15328).toNat = n15326 → wp kt 3 44 10 [(2, vI v15328), (1, vI z15305), (0, .ref r0)] [] T H15329 (q_44 r0 T H) := by
    intro n15326
    induction n15326 using Nat.strongRecOn with
    | _ n15326 ih15327 =>
      intro v15328 H15329 w15330 f15331 b15332 m15333
      have f15334 := f0.tr f15331 rfl
      refine wp_of e44 c44_10 (rw_iload_n (pc' := 11) (z := v15328) rfl rfl ?_)
      refine wp_of e44 c44_11 (rw_bipush (pc' := 13) (z := 24) rfl (by decide) ?_)
      refine wp_of e44 c44_13 (rw_icmp_ge (p1 := 30) (p2 := 16) (by decide) rfl ⟨by omega, by omega⟩ ⟨by omega, by omega⟩ (fun c15335 => ?_) (fun c15335 => ?_))
      · refine wp_of e44 c44_30 (rw_aload_n (pc' := 31) (v := .ref r0) rfl rfl rfl ?_)
        refine wp_of e44 c44_31 (xc_V (pc' := 34) (r := r0) (as := []) (st := []) (lm_7_89) rfl rfl (Nat.le_of_ble_eq_true rfl) w15330 g0 sh_27 (by decide) rfl (by decide) (s_41 w15330 g0) (fun R15336 T15337 H15338 p15339 => ?_))
        obtain ⟨e15340, w15342, f15343, e15341⟩ := p15339
        subst e15340
        subst e15341
        have f15344 := f15334.tr f15343 rfl
        show wp _ _ 44 34 [(2, vI v15328), (1, vI z15305), (0, .ref r0)] [] _ H15338 _
        refine wp_of e44 c44_34 (rw_iconst (pc' := 35) rfl ?_)
        refine wp_of e44 c44_35 (rw_istore_n (pc' := 36) (z := 0) (L' := [(2, vI 0), (1, vI z15305), (0, .ref r0)]) rfl rfl rfl ?_)
        have lp15415 : ∀ (n15416 : Nat) (v15418 : Int) (H15419 : wq_H), WT T H15419 → wfr [(33, 999)] T H15338 H15419 → (0 ≤ v15418 ∧ v15418 ≤ 4) → (4 - v15418).toNat = n15416 → wp kt 3 44 36 [(2, vI v15418), (1, vI z15305), (0, .ref r0)] [] T H15419 (q_44 r0 T H) := by
          intro n15416
          induction n15416 using Nat.strongRecOn with
          | _ n15416 ih15417 =>
            intro v15418 H15419 w15420 f15421 b15422 m15423
            have f15424 := f15344.tr f15421 rfl
            refine wp_of e44 c44_36 (rw_iload_n (pc' := 37) (z := v15418) rfl rfl ?_)
            refine wp_of e44 c44_37 (rw_aload_n (pc' := 38) (v := .ref r0) rfl rfl rfl ?_)
            refine wp_of e44 c44_38 (xg_I (pc' := 41) lf_7_59 w15420 g0 sh_27 (by decide) (by decide) ty_27_13 rfl rfl (fun b15425 b15426 => ?_))
            refine wp_of e44 c44_41 (rw_icmp_ge (p1 := 60) (p2 := 44) (by decide) rfl ⟨by omega, by omega⟩ ⟨by omega, by omega⟩ (fun c15427 => ?_) (fun c15427 => ?_))
            · refine wp_of e44 c44_60 (rw_iconst (pc' := 61) rfl ?_)
              refine wp_of e44 c44_61 (rw_istore_n (pc' := 62) (z := 0) (L' := [(2, vI 0), (1, vI z15305), (0, .ref r0)]) rfl rfl rfl ?_)
              have lp15526 : ∀ (n15527 : Nat) (v15529 : Int) (H15530 : wq_H), WT T H15530 → wfr [(34, 999)] T H15419 H15530 → (0 ≤ v15529 ∧ v15529 ≤ 6) → (6 - v15529).toNat = n15527 → wp kt 3 44 62 [(2, vI v15529), (1, vI z15305), (0, .ref r0)] [] T H15530 (q_44 r0 T H) := by
                intro n15527
                induction n15527 using Nat.strongRecOn with
                | _ n15527 ih15528 =>
                  intro v15529 H15530 w15531 f15532 b15533 m15534
                  have f15535 := f15424.tr f15532 rfl
                  refine wp_of e44 c44_62 (rw_iload_n (pc' := 63) (z := v15529) rfl rfl ?_)
                  refine wp_of e44 c44_63 (rw_aload_n (pc' := 64) (v := .ref r0) rfl rfl rfl ?_)
                  refine wp_of e44 c44_64 (xg_I (pc' := 67) lf_7_62 w15531 g0 sh_27 (by decide) (by decide) ty_27_14 rfl rfl (fun b15536 b15537 => ?_))
                  refine wp_of e44 c44_67 (rw_icmp_ge (p1 := 86) (p2 := 70) (by decide) rfl ⟨by omega, by omega⟩ ⟨by omega, by omega⟩ (fun c15538 => ?_) (fun c15538 => ?_))
                  · refine wp_of e44 c44_86 (rw_aload_n (pc' := 87) (v := .ref r0) rfl rfl rfl ?_)
                    refine wp_of e44 c44_87 (rw_lconst (pc' := 88) (z := 1) rfl rfl ?_)
                    refine wp_of e44 c44_88 (xp_L (pc' := 91) lf_7_71 w15531 g0 sh_27 (by decide) (by decide) ty_27_18 rfl rfl (by omega) (by omega) ⟨by omega, by omega⟩ rfl (fun H15539 e15540 w15541 => ?_))
                    have f15542 := f15535.put' e15540 g0 rfl
                    have k15543 : H15539 r0 18 = 1 := wq_u_s e15540
                    refine wp_of e44 c44_91 (rw_aload_n (pc' := 92) (v := .ref r0) rfl rfl rfl ?_)
                    refine wp_of e44 c44_92 (xg_I (pc' := 95) lf_7_50 w15541 g0 sh_27 (by decide) (by decide) ty_27_10 rfl rfl (fun b15544 b15545 => ?_))
                    refine wp_of e44 c44_95 (rw_iconst (pc' := 96) rfl ?_)
                    refine wp_of e44 c44_96 (rw_isub (pc' := 97) rfl ?_)
                    refine wp_of e44 c44_97 (rw_istore_n (pc' := 98) (z := (H15539 r0 10) - 1) (L' := [(2, vI ((H15539 r0 10) - 1)), (1, vI z15305), (0, .ref r0)]) rfl rfl rfl ?_)
                    have lp15738 : ∀ (n15739 : Nat) (v15741 : Int) (H15742 : wq_H), WT T H15742 → wfr [(27, 18), (35, 15), (35, 17), (38, 999), (39, 999), (36, 999), (40, 999), (41, 999), (37, 999)] T H15539 H15742 → ((-1) ≤ v15741 ∧ v15741 ≤ 5) → (v15741 - (-1)).toNat = n15739 → wp kt 3 44 98 [(2, vI v15741), (1, vI z15305), (0, .ref r0)] [] T H15742 (q_44 r0 T H) := by
                      intro n15739
                      induction n15739 using Nat.strongRecOn with
                      | _ n15739 ih15740 =>
                        intro v15741 H15742 w15743 f15744 b15745 m15746
                        have f15747 := f15542.tr f15744 rfl
                        refine wp_of e44 c44_98 (rw_iload_n (pc' := 99) (z := v15741) rfl rfl ?_)
                        refine wp_of e44 c44_99 (rw_if_lt (p1 := 169) (p2 := 102) (by decide) rfl ⟨by omega, by omega⟩ (fun c15748 => ?_) (fun c15748 => ?_))
                        · exact wp_return e44 c44_169 rfl ⟨rfl, w15743, f15747, rfl⟩
                        · refine wp_of e44 c44_102 (rw_aload_n (pc' := 103) (v := .ref r0) rfl rfl rfl ?_)
                          refine wp_of e44 c44_103 (xg_R (pc' := 106) lf_7_11 w15743 g0 sh_27 (by decide) (by decide) ty_27_0 rfl rfl (fun r15749 q15750 g15751 => ?_))
                          refine wp_of e44 c44_106 (rw_iload_n (pc' := 107) (z := v15741) rfl rfl ?_)
                          refine wp_of e44 c44_107 (xa_R (pc' := 108) (by decide) w15743 g15751 sh_28 (by decide) (ty_28 _) (by omega) (by omega) rfl (fun r15752 q15753 g15754 => ?_))
                          refine wp_of e44 c44_108 (rw_iload_n (pc' := 109) (z := z15305) rfl rfl ?_)
                          refine wp_of e44 c44_109 (rw_iload_n (pc' := 110) (z := v15741) rfl rfl ?_)
                          refine wp_of e44 c44_110 (rw_aload_n (pc' := 111) (v := .ref r0) rfl rfl rfl ?_)
                          refine wp_of e44 c44_111 (xg_I (pc' := 114) lf_7_37 w15743 g0 sh_27 (by decide) (by decide) ty_27_15 rfl rfl (fun b15755 b15756 => ?_))
                          refine wp_of e44 c44_114 (rw_icmp_ne (p1 := 126) (p2 := 117) (by decide) rfl ⟨by omega, by omega⟩ ⟨by omega, by omega⟩ (fun c15757 => ?_) (fun c15757 => ?_))
                          · refine wp_of e44 c44_126 (rw_iconst (pc' := 127) rfl ?_)
                            refine wp_of e44 c44_127 (xc_V (pc' := 130) (r := r15752) (as := [vI z15305, vI 0]) (st := []) (lm_7_103) rfl rfl (Nat.le_of_ble_eq_true rfl) w15743 g15754 sh_35 (by decide) rfl (by decide) (s_47 w15743 g15754 ⟨by omega, by omega⟩ ⟨by omega, by omega⟩) (fun R15758 T15759 H15760 p15761 => ?_))
                            obtain ⟨e15762, w15764, f15765, e15763⟩ := p15761
                            subst e15762
                            subst e15763
                            have f15766 := f15747.tr f15765 rfl
                            have f15767 := f15744.tr f15765 rfl
                            show wp _ _ 44 130 [(2, vI v15741), (1, vI z15305), (0, .ref r0)] [] _ H15760 _
                            refine wp_of e44 c44_130 (rw_aload_n (pc' := 131) (v := .ref r0) rfl rfl rfl ?_)
                            have k15768 : H15760 r0 0 = H15742 r0 0 := (f15765 r0 0 _ g0 rfl)
                            have q15769 : H15760 r0 0 = (r15749 : Int) := k15768.trans q15750
                            refine wp_of e44 c44_131 (xg_K (pc' := 134) lf_7_11 w15764 g0 sh_27 (by decide) (by decide) rfl q15769 rfl ?_)
                            refine wp_of e44 c44_134 (rw_iload_n (pc' := 135) (z := v15741) rfl rfl ?_)
                            have k15770 : H15760 r15749 (v15741.toNat) = H15742 r15749 (v15741.toNat) := (f15765 r15749 (v15741.toNat) _ g15751 rfl)
                            have q15771 : H15760 r15749 (v15741.toNat) = (r15752 : Int) := k15770.trans q15753
                            refine wp_of e44 c44_135 (xa_K (pc' := 136) (by decide) w15764 g15751 sh_28 (by decide) (by omega) (by omega) q15771 rfl ?_)
                            refine wp_of e44 c44_136 (rw_aload_n (pc' := 137) (v := .ref r0) rfl rfl rfl ?_)
                            refine wp_of e44 c44_137 (xg_L (pc' := 140) lf_7_71 w15764 g0 sh_27 (by decide) (by decide) ty_27_18 rfl rfl (fun b15772 b15773 => ?_))
                            refine wp_of e44 c44_140 (rw_l2i (pc' := 141) rfl ?_)
                            obtain ⟨v15774, e15775⟩ : ∃ x : Int, x = wq_w (H15760 r0 18) := ⟨_, rfl⟩
                            rw [← e15775]
                            have b15776 : -2147483648 ≤ v15774 ∧ v15774 ≤ 2147483647 := by
                              rw [e15775]
                              exact wI_w _
                            have b15777 : (-2147483648 ≤ (H15760 r0 18) ∧ (H15760 r0 18) ≤ 2147483647) → v15774 = (H15760 r0 18) := by
                              rw [e15775]
                              exact fun h => wq_w_id h
                            refine wp_of e44 c44_141 (xp_I (pc' := 144) lf_7_107 w15764 g15754 sh_35 (by decide) (by decide) ty_35_17 rfl rfl (by omega) (by omega) ⟨by omega, by omega⟩ rfl (fun H15778 e15779 w15780 => ?_))
                            have f15781 := f15766.put' e15779 g15754 rfl
                            have f15782 := f15767.put' e15779 g15754 rfl
                            have k15783 : H15778 r15752 17 = v15774 := wq_u_s e15779
                            refine wp_of e44 c44_144 (rw_aload_n (pc' := 145) (v := .ref r0) rfl rfl rfl ?_)
                            refine wp_of e44 c44_145 (rw_dup (pc' := 146) rfl rfl ?_)
                            have k15784 : H15778 r0 18 = H15760 r0 18 := (wq_u_t e15779 g15754 g0 rfl 18)
                            refine wp_of e44 c44_146 (xg_L (pc' := 149) lf_7_71 w15780 g0 sh_27 (by decide) (by decide) ty_27_18 rfl rfl (fun b15785 b15786 => ?_))
                            refine wp_of e44 c44_149 (rw_aload_n (pc' := 150) (v := .ref r0) rfl rfl rfl ?_)
                            have k15787 : H15778 r0 0 = H15760 r0 0 := (wq_u_t e15779 g15754 g0 rfl 0)
                            have q15788 : H15778 r0 0 = (r15749 : Int) := k15787.trans q15769
                            refine wp_of e44 c44_150 (xg_K (pc' := 153) lf_7_11 w15780 g0 sh_27 (by decide) (by decide) rfl q15788 rfl ?_)
                            refine wp_of e44 c44_153 (rw_iload_n (pc' := 154) (z := v15741) rfl rfl ?_)
                            have k15789 : H15778 r15749 (v15741.toNat) = H15760 r15749 (v15741.toNat) := (wq_u_t e15779 g15754 g15751 rfl (v15741.toNat))
                            have q15790 : H15778 r15749 (v15741.toNat) = (r15752 : Int) := k15789.trans q15771
                            refine wp_of e44 c44_154 (xa_K (pc' := 155) (by decide) w15780 g15751 sh_28 (by decide) (by omega) (by omega) q15790 rfl ?_)
                            refine wp_of e44 c44_155 (xg_I (pc' := 158) lf_7_110 w15780 g15754 sh_35 (by decide) (by decide) ty_35_15 rfl rfl (fun b15791 b15792 => ?_))
                            refine wp_of e44 c44_158 (rw_i2l (pc' := 159) rfl ⟨by omega, by omega⟩ ?_)
                            refine wp_of e44 c44_159 (rw_lmulw (pc' := 160) rfl ?_)
                            obtain ⟨v15793, e15794⟩ : ∃ x : Int, x = wl_w ((H15778 r0 18) * (H15778 r15752 15)) := ⟨_, rfl⟩
                            rw [← e15794]
                            have b15795 : -9223372036854775808 ≤ v15793 ∧ v15793 ≤ 9223372036854775807 := by
                              rw [e15794]
                              exact wL_w _
                            refine wp_of e44 c44_160 (xp_L (pc' := 163) lf_7_71 w15780 g0 sh_27 (by decide) (by decide) ty_27_18 rfl rfl (by omega) (by omega) ⟨by omega, by omega⟩ rfl (fun H15796 e15797 w15798 => ?_))
                            have f15799 := f15781.put' e15797 g0 rfl
                            have f15800 := f15782.put' e15797 g0 rfl
                            have k15801 : H15796 r0 18 = v15793 := wq_u_s e15797
                            refine wp_of e44 c44_163 (rw_iinc (pc' := 166) (z := v15741) (L' := [(2, vI (v15741 + (-1))), (1, vI z15305), (0, .ref r0)]) rfl rfl rfl rfl ?_)
                            refine wp_of e44 c44_166 (rw_goto (p1 := 98) (by decide) ?_)
                            exact wp_lc (ks := [2, 1, 0]) (wl_c rfl (wl_c rfl (wl_c rfl wl_n))) rfl (by decide) (ih15740 _ (by omega) (v15741 + (-1)) H15796 w15798 f15800 ⟨by omega, by omega⟩ rfl)
                          · refine wp_of e44 c44_117 (rw_aload_n (pc' := 118) (v := .ref r0) rfl rfl rfl ?_)
                            refine wp_of e44 c44_118 (rw_bipush (pc' := 120) (z := 99) rfl (by decide) ?_)
                            refine wp_of e44 c44_120 (xc_V (pc' := 123) (r := r0) (as := [vI 99]) (st := [vI z15305, .ref r15752]) (lm_7_99) rfl rfl (Nat.le_of_ble_eq_true rfl) w15743 g0 sh_27 (by decide) rfl (by decide) (s_46 w15743 g0 ⟨by omega, by omega⟩) (fun R15802 T15803 H15804 p15805 => ?_))
                            obtain ⟨e15806, e15808, z15809, e15807, b15810⟩ := p15805
                            subst e15806
                            subst e15807
                            subst e15808
                            show wp _ _ 44 123 [(2, vI v15741), (1, vI z15305), (0, .ref r0)] [vI z15809, vI z15305, .ref r15752] _ H15742 _
                            refine wp_of e44 c44_123 (rw_goto (p1 := 127) (by decide) ?_)
                            refine wp_of e44 c44_127 (xc_V (pc' := 130) (r := r15752) (as := [vI z15305, vI z15809]) (st := []) (lm_7_103) rfl rfl (Nat.le_of_ble_eq_true rfl) w15743 g15754 sh_35 (by decide) rfl (by decide) (s_47 w15743 g15754 ⟨by omega, by omega⟩ ⟨by omega, by omega⟩) (fun R15811 T15812 H15813 p15814 => ?_))
                            obtain ⟨e15815, w15817, f15818, e15816⟩ := p15814
                            subst e15815
                            subst e15816
                            have f15819 := f15747.tr f15818 rfl
                            have f15820 := f15744.tr f15818 rfl
                            show wp _ _ 44 130 [(2, vI v15741), (1, vI z15305), (0, .ref r0)] [] _ H15813 _
                            refine wp_of e44 c44_130 (rw_aload_n (pc' := 131) (v := .ref r0) rfl rfl rfl ?_)
                            have k15821 : H15813 r0 0 = H15742 r0 0 := (f15818 r0 0 _ g0 rfl)
                            have q15822 : H15813 r0 0 = (r15749 : Int) := k15821.trans q15750
                            refine wp_of e44 c44_131 (xg_K (pc' := 134) lf_7_11 w15817 g0 sh_27 (by decide) (by decide) rfl q15822 rfl ?_)
                            refine wp_of e44 c44_134 (rw_iload_n (pc' := 135) (z := v15741) rfl rfl ?_)
                            have k15823 : H15813 r15749 (v15741.toNat) = H15742 r15749 (v15741.toNat) := (f15818 r15749 (v15741.toNat) _ g15751 rfl)
                            have q15824 : H15813 r15749 (v15741.toNat) = (r15752 : Int) := k15823.trans q15753
                            refine wp_of e44 c44_135 (xa_K (pc' := 136) (by decide) w15817 g15751 sh_28 (by decide) (by omega) (by omega) q15824 rfl ?_)
                            refine wp_of e44 c44_136 (rw_aload_n (pc' := 137) (v := .ref r0) rfl rfl rfl ?_)
                            refine wp_of e44 c44_137 (xg_L (pc' := 140) lf_7_71 w15817 g0 sh_27 (by decide) (by decide) ty_27_18 rfl rfl (fun b15825 b15826 => ?_))
                            refine wp_of e44 c44_140 (rw_l2i (pc' := 141) rfl ?_)
                            obtain ⟨v15827, e15828⟩ : ∃ x : Int, x = wq_w (H15813 r0 18) := ⟨_, rfl⟩
                            rw [← e15828]
                            have b15829 : -2147483648 ≤ v15827 ∧ v15827 ≤ 2147483647 := by
                              rw [e15828]
                              exact wI_w _
                            have b15830 : (-2147483648 ≤ (H15813 r0 18) ∧ (H15813 r0 18) ≤ 2147483647) → v15827 = (H15813 r0 18) := by
                              rw [e15828]
                              exact fun h => wq_w_id h
                            refine wp_of e44 c44_141 (xp_I (pc' := 144) lf_7_107 w15817 g15754 sh_35 (by decide) (by decide) ty_35_17 rfl rfl (by omega) (by omega) ⟨by omega, by omega⟩ rfl (fun H15831 e15832 w15833 => ?_))
                            have f15834 := f15819.put' e15832 g15754 rfl
                            have f15835 := f15820.put' e15832 g15754 rfl
                            have k15836 : H15831 r15752 17 = v15827 := wq_u_s e15832
                            refine wp_of e44 c44_144 (rw_aload_n (pc' := 145) (v := .ref r0) rfl rfl rfl ?_)
                            refine wp_of e44 c44_145 (rw_dup (pc' := 146) rfl rfl ?_)
                            have k15837 : H15831 r0 18 = H15813 r0 18 := (wq_u_t e15832 g15754 g0 rfl 18)
                            refine wp_of e44 c44_146 (xg_L (pc' := 149) lf_7_71 w15833 g0 sh_27 (by decide) (by decide) ty_27_18 rfl rfl (fun b15838 b15839 => ?_))
                            refine wp_of e44 c44_149 (rw_aload_n (pc' := 150) (v := .ref r0) rfl rfl rfl ?_)
                            have k15840 : H15831 r0 0 = H15813 r0 0 := (wq_u_t e15832 g15754 g0 rfl 0)
                            have q15841 : H15831 r0 0 = (r15749 : Int) := k15840.trans q15822
                            refine wp_of e44 c44_150 (xg_K (pc' := 153) lf_7_11 w15833 g0 sh_27 (by decide) (by decide) rfl q15841 rfl ?_)
                            refine wp_of e44 c44_153 (rw_iload_n (pc' := 154) (z := v15741) rfl rfl ?_)
                            have k15842 : H15831 r15749 (v15741.toNat) = H15813 r15749 (v15741.toNat) := (wq_u_t e15832 g15754 g15751 rfl (v15741.toNat))
                            have q15843 : H15831 r15749 (v15741.toNat) = (r15752 : Int) := k15842.trans q15824
                            refine wp_of e44 c44_154 (xa_K (pc' := 155) (by decide) w15833 g15751 sh_28 (by decide) (by omega) (by omega) q15843 rfl ?_)
                            refine wp_of e44 c44_155 (xg_I (pc' := 158) lf_7_110 w15833 g15754 sh_35 (by decide) (by decide) ty_35_15 rfl rfl (fun b15844 b15845 => ?_))
                            refine wp_of e44 c44_158 (rw_i2l (pc' := 159) rfl ⟨by omega, by omega⟩ ?_)
                            refine wp_of e44 c44_159 (rw_lmulw (pc' := 160) rfl ?_)
                            obtain ⟨v15846, e15847⟩ : ∃ x : Int, x = wl_w ((H15831 r0 18) * (H15831 r15752 15)) := ⟨_, rfl⟩
                            rw [← e15847]
                            have b15848 : -9223372036854775808 ≤ v15846 ∧ v15846 ≤ 9223372036854775807 := by
                              rw [e15847]
                              exact wL_w _
                            refine wp_of e44 c44_160 (xp_L (pc' := 163) lf_7_71 w15833 g0 sh_27 (by decide) (by decide) ty_27_18 rfl rfl (by omega) (by omega) ⟨by omega, by omega⟩ rfl (fun H15849 e15850 w15851 => ?_))
                            have f15852 := f15834.put' e15850 g0 rfl
                            have f15853 := f15835.put' e15850 g0 rfl
                            have k15854 : H15849 r0 18 = v15846 := wq_u_s e15850
                            refine wp_of e44 c44_163 (rw_iinc (pc' := 166) (z := v15741) (L' := [(2, vI (v15741 + (-1))), (1, vI z15305), (0, .ref r0)]) rfl rfl rfl rfl ?_)
                            refine wp_of e44 c44_166 (rw_goto (p1 := 98) (by decide) ?_)
                            exact wp_lc (ks := [2, 1, 0]) (wl_c rfl (wl_c rfl (wl_c rfl wl_n))) rfl (by decide) (ih15740 _ (by omega) (v15741 + (-1)) H15849 w15851 f15853 ⟨by omega, by omega⟩ rfl)
                    exact wp_lc (ks := [2, 1, 0]) (wl_c rfl (wl_c rfl (wl_c rfl wl_n))) rfl (by decide) (lp15738 _ ((H15539 r0 10) - 1) H15539 w15541 wfr.rf ⟨by omega, by omega⟩ rfl)
                  · refine wp_of e44 c44_70 (rw_aload_n (pc' := 71) (v := .ref r0) rfl rfl rfl ?_)
                    refine wp_of e44 c44_71 (xg_R (pc' := 74) lf_7_33 w15531 g0 sh_27 (by decide) (by decide) ty_27_6 rfl rfl (fun r15855 q15856 g15857 => ?_))
                    refine wp_of e44 c44_74 (rw_iload_n (pc' := 75) (z := v15529) rfl rfl ?_)
                    refine wp_of e44 c44_75 (rw_dup2 (pc' := 76) rfl rfl rfl ?_)
                    refine wp_of e44 c44_76 (xa_I (so := 0) (pc' := 77) w15531 g15857 sh_34 (by decide) (ty_34 _) (by omega) (by omega) rfl (fun b15858 b15859 => ?_))
                    refine wp_of e44 c44_77 (rw_iload_n (pc' := 78) (z := z15305) rfl rfl ?_)
                    refine wp_of e44 c44_78 (rw_iand (pc' := 79) rfl ?_)
                    obtain ⟨v15860, e15861⟩ : ∃ x : Int, x = wq_and (H15530 r15855 (v15529.toNat)) z15305 := ⟨_, rfl⟩
                    rw [← e15861]
                    have b15862 : -2147483648 ≤ v15860 ∧ v15860 ≤ 2147483647 := by
                      rw [e15861]
                      exact wI_and _ _
                    refine wp_of e44 c44_79 (xs_I (pc' := 80) w15531 g15857 (by decide) sh_34 (by decide) (ty_34 _) (by omega) (by omega) ⟨by omega, by omega⟩ (by omega) (by omega) rfl (fun H15863 e15864 w15865 => ?_))
                    have f15866 := f15535.put' e15864 g15857 rfl
                    have f15867 := f15532.put' e15864 g15857 rfl
                    refine wp_of e44 c44_80 (rw_iinc (pc' := 83) (z := v15529) (L' := [(2, vI (v15529 + 1)), (1, vI z15305), (0, .ref r0)]) rfl rfl rfl rfl ?_)
                    refine wp_of e44 c44_83 (rw_goto (p1 := 62) (by decide) ?_)
                    exact wp_lc (ks := [2, 1, 0]) (wl_c rfl (wl_c rfl (wl_c rfl wl_n))) rfl (by decide) (ih15528 _ (by omega) (v15529 + 1) H15863 w15865 f15867 ⟨by omega, by omega⟩ rfl)
              exact wp_lc (ks := [2, 1, 0]) (wl_c rfl (wl_c rfl (wl_c rfl wl_n))) rfl (by decide) (lp15526 _ 0 H15419 w15420 wfr.rf ⟨by omega, by omega⟩ rfl)
            · refine wp_of e44 c44_44 (rw_aload_n (pc' := 45) (v := .ref r0) rfl rfl rfl ?_)
              refine wp_of e44 c44_45 (xg_R (pc' := 48) lf_7_30 w15420 g0 sh_27 (by decide) (by decide) ty_27_5 rfl rfl (fun r15868 q15869 g15870 => ?_))
              refine wp_of e44 c44_48 (rw_iload_n (pc' := 49) (z := v15418) rfl rfl ?_)
              refine wp_of e44 c44_49 (rw_dup2 (pc' := 50) rfl rfl rfl ?_)
              refine wp_of e44 c44_50 (xa_I (so := 0) (pc' := 51) w15420 g15870 sh_33 (by decide) (ty_33 _) (by omega) (by omega) rfl (fun b15871 b15872 => ?_))
              refine wp_of e44 c44_51 (rw_iload_n (pc' := 52) (z := z15305) rfl rfl ?_)
              refine wp_of e44 c44_52 (rw_iand (pc' := 53) rfl ?_)
              obtain ⟨v15873, e15874⟩ : ∃ x : Int, x = wq_and (H15419 r15868 (v15418.toNat)) z15305 := ⟨_, rfl⟩
              rw [← e15874]
              have b15875 : -2147483648 ≤ v15873 ∧ v15873 ≤ 2147483647 := by
                rw [e15874]
                exact wI_and _ _
              refine wp_of e44 c44_53 (xs_I (pc' := 54) w15420 g15870 (by decide) sh_33 (by decide) (ty_33 _) (by omega) (by omega) ⟨by omega, by omega⟩ (by omega) (by omega) rfl (fun H15876 e15877 w15878 => ?_))
              have f15879 := f15424.put' e15877 g15870 rfl
              have f15880 := f15421.put' e15877 g15870 rfl
              refine wp_of e44 c44_54 (rw_iinc (pc' := 57) (z := v15418) (L' := [(2, vI (v15418 + 1)), (1, vI z15305), (0, .ref r0)]) rfl rfl rfl rfl ?_)
              refine wp_of e44 c44_57 (rw_goto (p1 := 36) (by decide) ?_)
              exact wp_lc (ks := [2, 1, 0]) (wl_c rfl (wl_c rfl (wl_c rfl wl_n))) rfl (by decide) (ih15417 _ (by omega) (v15418 + 1) H15876 w15878 f15880 ⟨by omega, by omega⟩ rfl)
        exact wp_lc (ks := [2, 1, 0]) (wl_c rfl (wl_c rfl (wl_c rfl wl_n))) rfl (by decide) (lp15415 _ 0 H15338 w15342 wfr.rf ⟨by omega, by omega⟩ rfl)
      · refine wp_of e44 c44_16 (rw_aload_n (pc' := 17) (v := .ref r0) rfl rfl rfl ?_)
        refine wp_of e44 c44_17 (xg_R (pc' := 20) lf_7_17 w15330 g0 sh_27 (by decide) (by decide) ty_27_1 rfl rfl (fun r15881 q15882 g15883 => ?_))
        refine wp_of e44 c44_20 (rw_iload_n (pc' := 21) (z := v15328) rfl rfl ?_)
        refine wp_of e44 c44_21 (rw_bipush (pc' := 23) (z := -2) rfl (by decide) ?_)
        refine wp_of e44 c44_23 (xs_I (pc' := 24) w15330 g15883 (by decide) sh_29 (by decide) (ty_29 _) (by omega) (by omega) ⟨by omega, by omega⟩ (by omega) (by omega) rfl (fun H15884 e15885 w15886 => ?_))
        have f15887 := f15334.put' e15885 g15883 rfl
        have f15888 := f15331.put' e15885 g15883 rfl
        refine wp_of e44 c44_24 (rw_iinc (pc' := 27) (z := v15328) (L' := [(2, vI (v15328 + 1)), (1, vI z15305), (0, .ref r0)]) rfl rfl rfl rfl ?_)
        refine wp_of e44 c44_27 (rw_goto (p1 := 10) (by decide) ?_)
        exact wp_lc (ks := [2, 1, 0]) (wl_c rfl (wl_c rfl (wl_c rfl wl_n))) rfl (by decide) (ih15327 _ (by omega) (v15328 + 1) H15884 w15886 f15888 ⟨by omega, by omega⟩ rfl)
  exact wp_lc (ks := [2, 1, 0]) (wl_c rfl (wl_c rfl (wl_c rfl wl_n))) rfl (by decide) (lp15325 _ (H r0 7) H hW wfr.rf ⟨by omega, by omega⟩ rfl)
/-! StrikeAwake$Census.forget()V -/
theorem e50 : wq_en 50 = some (4, 1, false, none) := rfl
theorem c50_0 : mc_cd 50 0 = some (.aload_n 0, 1) := by decide +kernel
theorem c50_1 : mc_cd 50 1 = some (.iconst 0, 1) := by decide +kernel
theorem c50_2 : mc_cd 50 2 = some (.putfield 32, 3) := by decide +kernel
theorem c50_5 : mc_cd 50 5 = some (.return_, 1) := by decide +kernel
abbrev q_50 (r0 : Nat) (T : wq_T) (H : wq_H) : Option Value → wq_T → wq_H → Prop := fun r T' H' => T = T' ∧ WT T H' ∧ wfr [(12, 9)] T H H' ∧ none = r
set_option maxHeartbeats 4000000 in
theorem s_50 {kt : Nat → Option mc_E} {T : wq_T} {H : wq_H} {r0 : Nat} (hW : WT T H) (g0 : T.2.2.2 r0 = some 12) : wpc kt 1 50 [.ref r0] T H (q_50 r0 T H) := by
  refine wp_enter e50 (Nat.le_of_ble_eq_true rfl) rfl ?_
  have f0 : wfr [(12, 9)] T H H := wfr.rf
  show wp _ _ 50 0 [(0, .ref r0)] [] _ H _
  refine wp_of e50 c50_0 (rw_aload_n (pc' := 1) (v := .ref r0) rfl rfl rfl ?_)
  refine wp_of e50 c50_1 (rw_iconst (pc' := 2) rfl ?_)
  refine wp_of e50 c50_2 (xp_Z (pc' := 5) lf_4_32 hW g0 sh_12 (by decide) (by decide) ty_12_9 rfl rfl (by omega) (by omega) rfl (fun H15894 e15895 w15896 => ?_))
  have f15897 := f0.put' e15895 g0 rfl
  have k15898 : H15894 r0 9 = 0 := wq_u_s e15895
  exact wp_return e50 c50_5 rfl ⟨rfl, w15896, f15897, rfl⟩
/-! StrikeAwake.answer(I)I -/
theorem e51 : wq_en 51 = some (0, 2, false, some FieldType.int) := rfl
theorem c51_0 : mc_cd 51 0 = some (.aload_n 0, 1) := by decide +kernel
theorem c51_1 : mc_cd 51 1 = some (.iconst 0, 1) := by decide +kernel
theorem c51_2 : mc_cd 51 2 = some (.putfield 102, 3) := by decide +kernel
theorem c51_5 : mc_cd 51 5 = some (.iload_n 1, 1) := by decide +kernel
theorem c51_6 : mc_cd 51 6 = some (.ireturn, 1) := by decide +kernel
abbrev q_51 (r0 : Nat) (a1 : Int) (T : wq_T) (H : wq_H) : Option Value → wq_T → wq_H → Prop := fun r T' H' => T = T' ∧ WT T H' ∧ wfr [(1, 10)] T H H' ∧ ∃ z : Int, some (vI z) = r ∧ ((-2147483648) ≤ z ∧ z ≤ 2147483647)
set_option maxHeartbeats 4000000 in
theorem s_51 {kt : Nat → Option mc_E} {T : wq_T} {H : wq_H} {r0 : Nat} {a1 : Int} (hW : WT T H) (g0 : T.2.2.2 r0 = some 1) (i1 : (-2147483648) ≤ a1 ∧ a1 ≤ 2147483647) : wpc kt 1 51 [.ref r0, vI a1] T H (q_51 r0 a1 T H) := by
  refine wp_enter e51 (Nat.le_of_ble_eq_true rfl) rfl ?_
  have f0 : wfr [(1, 10)] T H H := wfr.rf
  show wp _ _ 51 0 [(0, .ref r0), (1, vI a1)] [] _ H _
  refine wp_of e51 c51_0 (rw_aload_n (pc' := 1) (v := .ref r0) rfl rfl rfl ?_)
  refine wp_of e51 c51_1 (rw_iconst (pc' := 2) rfl ?_)
  refine wp_of e51 c51_2 (xp_I (pc' := 5) lf_0_102 hW g0 sh_1 (by decide) (by decide) ty_1_10 rfl rfl (by omega) (by omega) ⟨by omega, by omega⟩ rfl (fun H15904 e15905 w15906 => ?_))
  have f15907 := f0.put' e15905 g0 rfl
  have k15908 : H15904 r0 10 = 0 := wq_u_s e15905
  refine wp_of e51 c51_5 (rw_iload_n (pc' := 6) (z := a1) rfl rfl ?_)
  exact wp_ireturn e51 c51_6 rfl ⟨rfl, w15906, f15907, a1, rfl, ⟨by omega, by omega⟩⟩
/-! StrikeAwake.parish(I)I -/
theorem e11 : wq_en 11 = some (0, 4, false, some FieldType.int) := rfl
theorem c11_0 : mc_cd 11 0 = some (.iload_n 1, 1) := by decide +kernel
theorem c11_1 : mc_cd 11 1 = some (.ifCond .lt 11, 3) := by decide +kernel
theorem c11_4 : mc_cd 11 4 = some (.iload_n 1, 1) := by decide +kernel
theorem c11_5 : mc_cd 11 5 = some (.aload_n 0, 1) := by decide +kernel
theorem c11_6 : mc_cd 11 6 = some (.getfield 62, 3) := by decide +kernel
theorem c11_9 : mc_cd 11 9 = some (.if_icmp .le 9, 3) := by decide +kernel
theorem c11_12 : mc_cd 11 12 = some (.aload_n 0, 1) := by decide +kernel
theorem c11_13 : mc_cd 11 13 = some (.iconst 2, 1) := by decide +kernel
theorem c11_14 : mc_cd 11 14 = some (.invokevirtual 70, 3) := by decide +kernel
theorem c11_17 : mc_cd 11 17 = some (.ireturn, 1) := by decide +kernel
theorem c11_18 : mc_cd 11 18 = some (.aload_n 0, 1) := by decide +kernel
theorem c11_19 : mc_cd 11 19 = some (.iconst 0, 1) := by decide +kernel
theorem c11_20 : mc_cd 11 20 = some (.putfield 62, 3) := by decide +kernel
theorem c11_23 : mc_cd 11 23 = some (.aload_n 0, 1) := by decide +kernel
theorem c11_24 : mc_cd 11 24 = some (.getfield 16, 3) := by decide +kernel
theorem c11_27 : mc_cd 11 27 = some (.aload_n 0, 1) := by decide +kernel
theorem c11_28 : mc_cd 11 28 = some (.getfield 9, 3) := by decide +kernel
theorem c11_31 : mc_cd 11 31 = some (.iload_n 1, 1) := by decide +kernel
theorem c11_32 : mc_cd 11 32 = some (.aload_n 0, 1) := by decide +kernel
theorem c11_33 : mc_cd 11 33 = some (.getfield 55, 3) := by decide +kernel
theorem c11_36 : mc_cd 11 36 = some (.invokevirtual 74, 3) := by decide +kernel
theorem c11_39 : mc_cd 11 39 = some (.istore_n 2, 1) := by decide +kernel
theorem c11_40 : mc_cd 11 40 = some (.aload_n 0, 1) := by decide +kernel
theorem c11_41 : mc_cd 11 41 = some (.aload_n 0, 1) := by decide +kernel
theorem c11_42 : mc_cd 11 42 = some (.getfield 16, 3) := by decide +kernel
theorem c11_45 : mc_cd 11 45 = some (.getfield 78, 3) := by decide +kernel
theorem c11_48 : mc_cd 11 48 = some (.putfield 81, 3) := by decide +kernel
theorem c11_51 : mc_cd 11 51 = some (.aload_n 0, 1) := by decide +kernel
theorem c11_52 : mc_cd 11 52 = some (.aload_n 0, 1) := by decide +kernel
theorem c11_53 : mc_cd 11 53 = some (.getfield 16, 3) := by decide +kernel
theorem c11_56 : mc_cd 11 56 = some (.getfield 84, 3) := by decide +kernel
theorem c11_59 : mc_cd 11 59 = some (.putfield 87, 3) := by decide +kernel
theorem c11_62 : mc_cd 11 62 = some (.iload_n 2, 1) := by decide +kernel
theorem c11_63 : mc_cd 11 63 = some (.ifCond .ne 9, 3) := by decide +kernel
theorem c11_66 : mc_cd 11 66 = some (.aload_n 0, 1) := by decide +kernel
theorem c11_67 : mc_cd 11 67 = some (.iconst 4, 1) := by decide +kernel
theorem c11_68 : mc_cd 11 68 = some (.invokevirtual 70, 3) := by decide +kernel
theorem c11_71 : mc_cd 11 71 = some (.ireturn, 1) := by decide +kernel
theorem c11_72 : mc_cd 11 72 = some (.aload_n 0, 1) := by decide +kernel
theorem c11_73 : mc_cd 11 73 = some (.getfield 55, 3) := by decide +kernel
theorem c11_76 : mc_cd 11 76 = some (.invokevirtual 90, 3) := by decide +kernel
theorem c11_79 : mc_cd 11 79 = some (.aload_n 0, 1) := by decide +kernel
theorem c11_80 : mc_cd 11 80 = some (.getfield 51, 3) := by decide +kernel
theorem c11_83 : mc_cd 11 83 = some (.astore_n 3, 1) := by decide +kernel
theorem c11_84 : mc_cd 11 84 = some (.aload_n 0, 1) := by decide +kernel
theorem c11_85 : mc_cd 11 85 = some (.aload_n 0, 1) := by decide +kernel
theorem c11_86 : mc_cd 11 86 = some (.getfield 55, 3) := by decide +kernel
theorem c11_89 : mc_cd 11 89 = some (.putfield 51, 3) := by decide +kernel
theorem c11_92 : mc_cd 11 92 = some (.aload_n 0, 1) := by decide +kernel
theorem c11_93 : mc_cd 11 93 = some (.aload_n 3, 1) := by decide +kernel
theorem c11_94 : mc_cd 11 94 = some (.putfield 55, 3) := by decide +kernel
theorem c11_97 : mc_cd 11 97 = some (.aload_n 0, 1) := by decide +kernel
theorem c11_98 : mc_cd 11 98 = some (.iconst 1, 1) := by decide +kernel
theorem c11_99 : mc_cd 11 99 = some (.putfield 58, 3) := by decide +kernel
theorem c11_102 : mc_cd 11 102 = some (.aload_n 0, 1) := by decide +kernel
theorem c11_103 : mc_cd 11 103 = some (.getfield 30, 3) := by decide +kernel
theorem c11_106 : mc_cd 11 106 = some (.invokevirtual 93, 3) := by decide +kernel
theorem c11_109 : mc_cd 11 109 = some (.aload_n 0, 1) := by decide +kernel
theorem c11_110 : mc_cd 11 110 = some (.aload_n 0, 1) := by decide +kernel
theorem c11_111 : mc_cd 11 111 = some (.getfield 51, 3) := by decide +kernel
theorem c11_114 : mc_cd 11 114 = some (.getfield 96, 3) := by decide +kernel
theorem c11_117 : mc_cd 11 117 = some (.invokevirtual 99, 3) := by decide +kernel
theorem c11_120 : mc_cd 11 120 = some (.ireturn, 1) := by decide +kernel
abbrev q_11 (r0 : Nat) (a1 : Int) (T : wq_T) (H : wq_H) : Option Value → wq_T → wq_H → Prop := fun r T' H' => T = T' ∧ WT T H' ∧ wfr [(12, 9), (27, 7), (27, 8), (27, 9), (27, 10), (27, 11), (27, 12), (27, 13), (27, 14), (27, 15), (27, 16), (27, 17), (27, 18), (35, 6), (35, 7), (35, 8), (35, 9), (35, 10), (35, 11), (35, 12), (35, 13), (35, 14), (35, 15), (35, 16), (35, 17), (3, 1), (3, 2), (3, 3), (3, 4), (1, 6), (1, 7), (1, 8), (1, 9), (1, 10), (1, 11), (1, 12), (4, 0), (4, 1), (4, 2), (4, 3), (4, 4), (4, 5), (4, 6), (38, 999), (39, 999), (36, 999), (31, 999), (40, 999), (41, 999), (34, 999), (37, 999), (29, 999), (30, 999), (33, 999), (32, 999)] T H H' ∧ ∃ z : Int, some (vI z) = r ∧ ((-2147483648) ≤ z ∧ z ≤ 2147483647)
set_option maxHeartbeats 4000000 in
theorem s_11 {kt : Nat → Option mc_E} {T : wq_T} {H : wq_H} {r0 : Nat} {a1 : Int} (hW : WT T H) (g0 : T.2.2.2 r0 = some 1) (i1 : (-2147483648) ≤ a1 ∧ a1 ≤ 2147483647) : wpc kt 8 11 [.ref r0, vI a1] T H (q_11 r0 a1 T H) := by
  refine wp_enter e11 (Nat.le_of_ble_eq_true rfl) rfl ?_
  have f0 : wfr [(12, 9), (27, 7), (27, 8), (27, 9), (27, 10), (27, 11), (27, 12), (27, 13), (27, 14), (27, 15), (27, 16), (27, 17), (27, 18), (35, 6), (35, 7), (35, 8), (35, 9), (35, 10), (35, 11), (35, 12), (35, 13), (35, 14), (35, 15), (35, 16), (35, 17), (3, 1), (3, 2), (3, 3), (3, 4), (1, 6), (1, 7), (1, 8), (1, 9), (1, 10), (1, 11), (1, 12), (4, 0), (4, 1), (4, 2), (4, 3), (4, 4), (4, 5), (4, 6), (38, 999), (39, 999), (36, 999), (31, 999), (40, 999), (41, 999), (34, 999), (37, 999), (29, 999), (30, 999), (33, 999), (32, 999)] T H H := wfr.rf
  show wp _ _ 11 0 [(0, .ref r0), (1, vI a1)] [] _ H _
  refine wp_of e11 c11_0 (rw_iload_n (pc' := 1) (z := a1) rfl rfl ?_)
  refine wp_of e11 c11_1 (rw_if_lt (p1 := 12) (p2 := 4) (by decide) rfl ⟨by omega, by omega⟩ (fun c16048 => ?_) (fun c16048 => ?_))
  · refine wp_of e11 c11_12 (rw_aload_n (pc' := 13) (v := .ref r0) rfl rfl rfl ?_)
    refine wp_of e11 c11_13 (rw_iconst (pc' := 14) rfl ?_)
    refine wp_of e11 c11_14 (xc_V (pc' := 17) (r := r0) (as := [vI 2]) (st := []) (lm_0_70) rfl rfl (Nat.le_of_ble_eq_true rfl) hW g0 sh_1 (by decide) rfl (by decide) (s_12 hW g0 ⟨by omega, by omega⟩) (fun R16049 T16050 H16051 p16052 => ?_))
    obtain ⟨e16053, w16055, f16056, z16057, e16054, b16058⟩ := p16052
    subst e16053
    subst e16054
    have f16059 := f0.tr f16056 rfl
    show wp _ _ 11 17 [(0, .ref r0), (1, vI a1)] [vI z16057] _ H16051 _
    exact wp_ireturn e11 c11_17 rfl ⟨rfl, w16055, f16059, z16057, rfl, ⟨by omega, by omega⟩⟩
  · refine wp_of e11 c11_4 (rw_iload_n (pc' := 5) (z := a1) rfl rfl ?_)
    refine wp_of e11 c11_5 (rw_aload_n (pc' := 6) (v := .ref r0) rfl rfl rfl ?_)
    refine wp_of e11 c11_6 (xg_I (pc' := 9) lf_0_62 hW g0 sh_1 (by decide) (by decide) ty_1_9 rfl rfl (fun b16060 b16061 => ?_))
    refine wp_of e11 c11_9 (rw_icmp_le (p1 := 18) (p2 := 12) (by decide) rfl ⟨by omega, by omega⟩ ⟨by omega, by omega⟩ (fun c16062 => ?_) (fun c16062 => ?_))
    · refine wp_of e11 c11_18 (rw_aload_n (pc' := 19) (v := .ref r0) rfl rfl rfl ?_)
      refine wp_of e11 c11_19 (rw_iconst (pc' := 20) rfl ?_)
      refine wp_of e11 c11_20 (xp_I (pc' := 23) lf_0_62 hW g0 sh_1 (by decide) (by decide) ty_1_9 rfl rfl (by omega) (by omega) ⟨by omega, by omega⟩ rfl (fun H16063 e16064 w16065 => ?_))
      have f16066 := f0.put' e16064 g0 rfl
      have k16067 : H16063 r0 9 = 0 := wq_u_s e16064
      refine wp_of e11 c11_23 (rw_aload_n (pc' := 24) (v := .ref r0) rfl rfl rfl ?_)
      refine wp_of e11 c11_24 (xg_R (pc' := 27) lf_0_16 w16065 g0 sh_1 (by decide) (by decide) ty_1_1 rfl rfl (fun r16068 q16069 g16070 => ?_))
      refine wp_of e11 c11_27 (rw_aload_n (pc' := 28) (v := .ref r0) rfl rfl rfl ?_)
      refine wp_of e11 c11_28 (xg_R (pc' := 31) lf_0_9 w16065 g0 sh_1 (by decide) (by decide) ty_1_0 rfl rfl (fun r16071 q16072 g16073 => ?_))
      refine wp_of e11 c11_31 (rw_iload_n (pc' := 32) (z := a1) rfl rfl ?_)
      refine wp_of e11 c11_32 (rw_aload_n (pc' := 33) (v := .ref r0) rfl rfl rfl ?_)
      refine wp_of e11 c11_33 (xg_R (pc' := 36) lf_0_55 w16065 g0 sh_1 (by decide) (by decide) ty_1_7 rfl rfl (fun r16074 q16075 g16076 => ?_))
      refine wp_of e11 c11_36 (xc_V (pc' := 39) (r := r16068) (as := [.ref r16071, vI a1, .ref r16074]) (st := []) (lm_0_74) rfl rfl (Nat.le_of_ble_eq_true rfl) w16065 g16070 sh_3 (by decide) rfl (by decide) (s_13 w16065 g16070 g16073 ⟨by omega, by omega⟩ g16076) (fun R16077 T16078 H16079 p16080 => ?_))
      obtain ⟨e16081, w16083, f16084, z16085, e16082, b16086⟩ := p16080
      subst e16081
      subst e16082
      have f16087 := f16066.tr f16084 rfl
      show wp _ _ 11 39 [(0, .ref r0), (1, vI a1)] [vI z16085] _ H16079 _
      refine wp_of e11 c11_39 (rw_istore_n (pc' := 40) (z := z16085) (L' := [(2, vI z16085), (0, .ref r0), (1, vI a1)]) rfl rfl rfl ?_)
      refine wp_of e11 c11_40 (rw_aload_n (pc' := 41) (v := .ref r0) rfl rfl rfl ?_)
      refine wp_of e11 c11_41 (rw_aload_n (pc' := 42) (v := .ref r0) rfl rfl rfl ?_)
      have k16088 : H16079 r0 1 = H16063 r0 1 := (f16084 r0 1 _ g0 rfl)
      have q16089 : H16079 r0 1 = (r16068 : Int) := k16088.trans q16069
      refine wp_of e11 c11_42 (xg_K (pc' := 45) lf_0_16 w16083 g0 sh_1 (by decide) (by decide) rfl q16089 rfl ?_)
      refine wp_of e11 c11_45 (xg_I (pc' := 48) lf_0_78 w16083 g16070 sh_3 (by decide) (by decide) ty_3_3 rfl rfl (fun b16090 b16091 => ?_))
      refine wp_of e11 c11_48 (xp_I (pc' := 51) lf_0_81 w16083 g0 sh_1 (by decide) (by decide) ty_1_11 rfl rfl (by omega) (by omega) ⟨by omega, by omega⟩ rfl (fun H16092 e16093 w16094 => ?_))
      have f16095 := f16087.put' e16093 g0 rfl
      have k16096 : H16092 r0 11 = H16079 r16068 3 := wq_u_s e16093
      refine wp_of e11 c11_51 (rw_aload_n (pc' := 52) (v := .ref r0) rfl rfl rfl ?_)
      refine wp_of e11 c11_52 (rw_aload_n (pc' := 53) (v := .ref r0) rfl rfl rfl ?_)
      have k16097 : H16092 r0 1 = H16079 r0 1 := (wq_u_j e16093 rfl)
      have q16098 : H16092 r0 1 = (r16068 : Int) := k16097.trans q16089
      refine wp_of e11 c11_53 (xg_K (pc' := 56) lf_0_16 w16094 g0 sh_1 (by decide) (by decide) rfl q16098 rfl ?_)
      refine wp_of e11 c11_56 (xg_I (pc' := 59) lf_0_84 w16094 g16070 sh_3 (by decide) (by decide) ty_3_4 rfl rfl (fun b16099 b16100 => ?_))
      refine wp_of e11 c11_59 (xp_I (pc' := 62) lf_0_87 w16094 g0 sh_1 (by decide) (by decide) ty_1_12 rfl rfl (by omega) (by omega) ⟨by omega, by omega⟩ rfl (fun H16101 e16102 w16103 => ?_))
      have f16104 := f16095.put' e16102 g0 rfl
      have k16105 : H16101 r0 12 = H16092 r16068 4 := wq_u_s e16102
      refine wp_of e11 c11_62 (rw_iload_n (pc' := 63) (z := z16085) rfl rfl ?_)
      refine wp_of e11 c11_63 (rw_if_ne (p1 := 72) (p2 := 66) (by decide) rfl ⟨by omega, by omega⟩ (fun c16106 => ?_) (fun c16106 => ?_))
      · refine wp_of e11 c11_72 (rw_aload_n (pc' := 73) (v := .ref r0) rfl rfl rfl ?_)
        have k16107 : H16101 r0 7 = H16063 r0 7 := ((wq_u_j e16102 rfl).trans ((wq_u_j e16093 rfl).trans (f16084 r0 7 _ g0 rfl)))
        have q16108 : H16101 r0 7 = (r16074 : Int) := k16107.trans q16075
        refine wp_of e11 c11_73 (xg_K (pc' := 76) lf_0_55 w16103 g0 sh_1 (by decide) (by decide) rfl q16108 rfl ?_)
        refine wp_of e11 c11_76 (xc_V (pc' := 79) (r := r16074) (as := []) (st := []) (lm_0_90) rfl rfl (Nat.le_of_ble_eq_true rfl) w16103 g16076 sh_27 (by decide) rfl (by decide) (s_44 w16103 g16076) (fun R16109 T16110 H16111 p16112 => ?_))
        obtain ⟨e16113, w16115, f16116, e16114⟩ := p16112
        subst e16113
        subst e16114
        have f16117 := f16104.tr f16116 rfl
        show wp _ _ 11 79 [(2, vI z16085), (0, .ref r0), (1, vI a1)] [] _ H16111 _
        refine wp_of e11 c11_79 (rw_aload_n (pc' := 80) (v := .ref r0) rfl rfl rfl ?_)
        refine wp_of e11 c11_80 (xg_R (pc' := 83) lf_0_51 w16115 g0 sh_1 (by decide) (by decide) ty_1_6 rfl rfl (fun r16118 q16119 g16120 => ?_))
        refine wp_of e11 c11_83 (rw_astore_n (pc' := 84) (v := .ref r16118) (L' := [(3, .ref r16118), (2, vI z16085), (0, .ref r0), (1, vI a1)]) rfl rfl rfl rfl ?_)
        refine wp_of e11 c11_84 (rw_aload_n (pc' := 85) (v := .ref r0) rfl rfl rfl ?_)
        refine wp_of e11 c11_85 (rw_aload_n (pc' := 86) (v := .ref r0) rfl rfl rfl ?_)
        have k16121 : H16111 r0 7 = H16101 r0 7 := (f16116 r0 7 _ g0 rfl)
        have q16122 : H16111 r0 7 = (r16074 : Int) := k16121.trans q16108
        refine wp_of e11 c11_86 (xg_K (pc' := 89) lf_0_55 w16115 g0 sh_1 (by decide) (by decide) rfl q16122 rfl ?_)
        refine wp_of e11 c11_89 (xp_R (pc' := 92) lf_0_51 w16115 g0 sh_1 (by decide) (by decide) rfl rfl (wok_2 ty_1_6 g16076) rfl (fun H16123 e16124 w16125 => ?_))
        have f16126 := f16117.put' e16124 g0 rfl
        have q16127 : H16123 r0 6 = (r16074 : Int) := wq_u_s e16124
        refine wp_of e11 c11_92 (rw_aload_n (pc' := 93) (v := .ref r0) rfl rfl rfl ?_)
        refine wp_of e11 c11_93 (rw_aload_n (pc' := 94) (v := .ref r16118) rfl rfl rfl ?_)
        refine wp_of e11 c11_94 (xp_R (pc' := 97) lf_0_55 w16125 g0 sh_1 (by decide) (by decide) rfl rfl (wok_2 ty_1_7 g16120) rfl (fun H16128 e16129 w16130 => ?_))
        have f16131 := f16126.put' e16129 g0 rfl
        have q16132 : H16128 r0 7 = (r16118 : Int) := wq_u_s e16129
        refine wp_of e11 c11_97 (rw_aload_n (pc' := 98) (v := .ref r0) rfl rfl rfl ?_)
        refine wp_of e11 c11_98 (rw_iconst (pc' := 99) rfl ?_)
        refine wp_of e11 c11_99 (xp_Z (pc' := 102) lf_0_58 w16130 g0 sh_1 (by decide) (by decide) ty_1_8 rfl rfl (by omega) (by omega) rfl (fun H16133 e16134 w16135 => ?_))
        have f16136 := f16131.put' e16134 g0 rfl
        have k16137 : H16133 r0 8 = 1 := wq_u_s e16134
        refine wp_of e11 c11_102 (rw_aload_n (pc' := 103) (v := .ref r0) rfl rfl rfl ?_)
        refine wp_of e11 c11_103 (xg_R (pc' := 106) lf_0_30 w16135 g0 sh_1 (by decide) (by decide) ty_1_3 rfl rfl (fun r16138 q16139 g16140 => ?_))
        refine wp_of e11 c11_106 (xc_V (pc' := 109) (r := r16138) (as := []) (st := []) (lm_0_93) rfl rfl (Nat.le_of_ble_eq_true rfl) w16135 g16140 sh_12 (by decide) rfl (by decide) (s_50 w16135 g16140) (fun R16141 T16142 H16143 p16144 => ?_))
        obtain ⟨e16145, w16147, f16148, e16146⟩ := p16144
        subst e16145
        subst e16146
        have f16149 := f16136.tr f16148 rfl
        show wp _ _ 11 109 [(3, .ref r16118), (2, vI z16085), (0, .ref r0), (1, vI a1)] [] _ H16143 _
        refine wp_of e11 c11_109 (rw_aload_n (pc' := 110) (v := .ref r0) rfl rfl rfl ?_)
        refine wp_of e11 c11_110 (rw_aload_n (pc' := 111) (v := .ref r0) rfl rfl rfl ?_)
        have k16150 : H16143 r0 6 = H16123 r0 6 := ((f16148 r0 6 _ g0 rfl).trans ((wq_u_j e16134 rfl).trans (wq_u_j e16129 rfl)))
        have q16151 : H16143 r0 6 = (r16074 : Int) := k16150.trans q16127
        refine wp_of e11 c11_111 (xg_K (pc' := 114) lf_0_51 w16147 g0 sh_1 (by decide) (by decide) rfl q16151 rfl ?_)
        refine wp_of e11 c11_114 (xg_I (pc' := 117) lf_0_96 w16147 g16076 sh_27 (by decide) (by decide) ty_27_10 rfl rfl (fun b16152 b16153 => ?_))
        refine wp_of e11 c11_117 (xc_V (pc' := 120) (r := r0) (as := [vI (H16143 r16074 10)]) (st := []) (lm_0_99) rfl rfl (Nat.le_of_ble_eq_true rfl) w16147 g0 sh_1 (by decide) rfl (by decide) (s_51 w16147 g0 ⟨by omega, by omega⟩) (fun R16154 T16155 H16156 p16157 => ?_))
        obtain ⟨e16158, w16160, f16161, z16162, e16159, b16163⟩ := p16157
        subst e16158
        subst e16159
        have f16164 := f16149.tr f16161 rfl
        show wp _ _ 11 120 [(3, .ref r16118), (2, vI z16085), (0, .ref r0), (1, vI a1)] [vI z16162] _ H16156 _
        exact wp_ireturn e11 c11_120 rfl ⟨rfl, w16160, f16164, z16162, rfl, ⟨by omega, by omega⟩⟩
      · refine wp_of e11 c11_66 (rw_aload_n (pc' := 67) (v := .ref r0) rfl rfl rfl ?_)
        refine wp_of e11 c11_67 (rw_iconst (pc' := 68) rfl ?_)
        refine wp_of e11 c11_68 (xc_V (pc' := 71) (r := r0) (as := [vI 4]) (st := []) (lm_0_70) rfl rfl (Nat.le_of_ble_eq_true rfl) w16103 g0 sh_1 (by decide) rfl (by decide) (s_12 w16103 g0 ⟨by omega, by omega⟩) (fun R16165 T16166 H16167 p16168 => ?_))
        obtain ⟨e16169, w16171, f16172, z16173, e16170, b16174⟩ := p16168
        subst e16169
        subst e16170
        have f16175 := f16104.tr f16172 rfl
        show wp _ _ 11 71 [(2, vI z16085), (0, .ref r0), (1, vI a1)] [vI z16173] _ H16167 _
        exact wp_ireturn e11 c11_71 rfl ⟨rfl, w16171, f16175, z16173, rfl, ⟨by omega, by omega⟩⟩
    · refine wp_of e11 c11_12 (rw_aload_n (pc' := 13) (v := .ref r0) rfl rfl rfl ?_)
      refine wp_of e11 c11_13 (rw_iconst (pc' := 14) rfl ?_)
      refine wp_of e11 c11_14 (xc_V (pc' := 17) (r := r0) (as := [vI 2]) (st := []) (lm_0_70) rfl rfl (Nat.le_of_ble_eq_true rfl) hW g0 sh_1 (by decide) rfl (by decide) (s_12 hW g0 ⟨by omega, by omega⟩) (fun R16176 T16177 H16178 p16179 => ?_))
      obtain ⟨e16180, w16182, f16183, z16184, e16181, b16185⟩ := p16179
      subst e16180
      subst e16181
      have f16186 := f0.tr f16183 rfl
      show wp _ _ 11 17 [(0, .ref r0), (1, vI a1)] [vI z16184] _ H16178 _
      exact wp_ireturn e11 c11_17 rfl ⟨rfl, w16182, f16186, z16184, rfl, ⟨by omega, by omega⟩⟩
/-! StrikeAwake.fault()I -/
theorem e52 : wq_en 52 = some (0, 1, false, some FieldType.int) := rfl
theorem c52_0 : mc_cd 52 0 = some (.aload_n 0, 1) := by decide +kernel
theorem c52_1 : mc_cd 52 1 = some (.getfield 81, 3) := by decide +kernel
theorem c52_4 : mc_cd 52 4 = some (.ireturn, 1) := by decide +kernel
abbrev q_52 (r0 : Nat) (T : wq_T) (H : wq_H) : Option Value → wq_T → wq_H → Prop := fun r T' H' => T = T' ∧ H = H' ∧ ∃ z : Int, some (vI z) = r ∧ ((-2147483648) ≤ z ∧ z ≤ 2147483647)
set_option maxHeartbeats 4000000 in
theorem s_52 {kt : Nat → Option mc_E} {T : wq_T} {H : wq_H} {r0 : Nat} (hW : WT T H) (g0 : T.2.2.2 r0 = some 1) : wpc kt 1 52 [.ref r0] T H (q_52 r0 T H) := by
  refine wp_enter e52 (Nat.le_of_ble_eq_true rfl) rfl ?_
  show wp _ _ 52 0 [(0, .ref r0)] [] _ H _
  refine wp_of e52 c52_0 (rw_aload_n (pc' := 1) (v := .ref r0) rfl rfl rfl ?_)
  refine wp_of e52 c52_1 (xg_I (pc' := 4) lf_0_81 hW g0 sh_1 (by decide) (by decide) ty_1_11 rfl rfl (fun b16189 b16190 => ?_))
  exact wp_ireturn e52 c52_4 rfl ⟨rfl, rfl, H r0 11, rfl, ⟨by omega, by omega⟩⟩
/-! StrikeAwake.where()I -/
theorem e53 : wq_en 53 = some (0, 1, false, some FieldType.int) := rfl
theorem c53_0 : mc_cd 53 0 = some (.aload_n 0, 1) := by decide +kernel
theorem c53_1 : mc_cd 53 1 = some (.getfield 102, 3) := by decide +kernel
theorem c53_4 : mc_cd 53 4 = some (.iconst 4, 1) := by decide +kernel
theorem c53_5 : mc_cd 53 5 = some (.if_icmp .ne 10, 3) := by decide +kernel
theorem c53_8 : mc_cd 53 8 = some (.aload_n 0, 1) := by decide +kernel
theorem c53_9 : mc_cd 53 9 = some (.getfield 87, 3) := by decide +kernel
theorem c53_12 : mc_cd 53 12 = some (.goto 4, 3) := by decide +kernel
theorem c53_15 : mc_cd 53 15 = some (.iconst (-1), 1) := by decide +kernel
theorem c53_16 : mc_cd 53 16 = some (.ireturn, 1) := by decide +kernel
abbrev q_53 (r0 : Nat) (T : wq_T) (H : wq_H) : Option Value → wq_T → wq_H → Prop := fun r T' H' => T = T' ∧ H = H' ∧ ∃ z : Int, some (vI z) = r ∧ ((-2147483648) ≤ z ∧ z ≤ 2147483647)
set_option maxHeartbeats 4000000 in
theorem s_53 {kt : Nat → Option mc_E} {T : wq_T} {H : wq_H} {r0 : Nat} (hW : WT T H) (g0 : T.2.2.2 r0 = some 1) : wpc kt 1 53 [.ref r0] T H (q_53 r0 T H) := by
  refine wp_enter e53 (Nat.le_of_ble_eq_true rfl) rfl ?_
  show wp _ _ 53 0 [(0, .ref r0)] [] _ H _
  refine wp_of e53 c53_0 (rw_aload_n (pc' := 1) (v := .ref r0) rfl rfl rfl ?_)
  refine wp_of e53 c53_1 (xg_I (pc' := 4) lf_0_102 hW g0 sh_1 (by decide) (by decide) ty_1_10 rfl rfl (fun b16196 b16197 => ?_))
  refine wp_of e53 c53_4 (rw_iconst (pc' := 5) rfl ?_)
  refine wp_of e53 c53_5 (rw_icmp_ne (p1 := 15) (p2 := 8) (by decide) rfl ⟨by omega, by omega⟩ ⟨by omega, by omega⟩ (fun c16198 => ?_) (fun c16198 => ?_))
  · refine wp_of e53 c53_15 (rw_iconst (pc' := 16) rfl ?_)
    exact wp_ireturn e53 c53_16 rfl ⟨rfl, rfl, -1, rfl, ⟨by omega, by omega⟩⟩
  · refine wp_of e53 c53_8 (rw_aload_n (pc' := 9) (v := .ref r0) rfl rfl rfl ?_)
    refine wp_of e53 c53_9 (xg_I (pc' := 12) lf_0_87 hW g0 sh_1 (by decide) (by decide) ty_1_12 rfl rfl (fun b16199 b16200 => ?_))
    refine wp_of e53 c53_12 (rw_goto (p1 := 16) (by decide) ?_)
    exact wp_ireturn e53 c53_16 rfl ⟨rfl, rfl, H r0 12, rfl, ⟨by omega, by omega⟩⟩
/-! StrikeAwake.isPerson(I)Z -/
theorem e55 : wq_en 55 = some (0, 2, false, some FieldType.boolean) := rfl
theorem c55_0 : mc_cd 55 0 = some (.iload_n 1, 1) := by decide +kernel
theorem c55_1 : mc_cd 55 1 = some (.ifCond .lt 18, 3) := by decide +kernel
theorem c55_4 : mc_cd 55 4 = some (.iload_n 1, 1) := by decide +kernel
theorem c55_5 : mc_cd 55 5 = some (.aload_n 0, 1) := by decide +kernel
theorem c55_6 : mc_cd 55 6 = some (.getfield 51, 3) := by decide +kernel
theorem c55_9 : mc_cd 55 9 = some (.getfield 96, 3) := by decide +kernel
theorem c55_12 : mc_cd 55 12 = some (.if_icmp .ge 7, 3) := by decide +kernel
theorem c55_15 : mc_cd 55 15 = some (.iconst 1, 1) := by decide +kernel
theorem c55_16 : mc_cd 55 16 = some (.goto 4, 3) := by decide +kernel
theorem c55_19 : mc_cd 55 19 = some (.iconst 0, 1) := by decide +kernel
theorem c55_20 : mc_cd 55 20 = some (.ireturn, 1) := by decide +kernel
abbrev q_55 (r0 : Nat) (a1 : Int) (T : wq_T) (H : wq_H) : Option Value → wq_T → wq_H → Prop := fun r T' H' => T = T' ∧ H = H' ∧ ∃ z : Int, some (vI z) = r ∧ (0 ≤ z ∧ z ≤ 1) ∧ (z = 0 ∨ (0 ≤ a1 ∧ a1 ≤ 5))
set_option maxHeartbeats 4000000 in
theorem s_55 {kt : Nat → Option mc_E} {T : wq_T} {H : wq_H} {r0 : Nat} {a1 : Int} (hW : WT T H) (g0 : T.2.2.2 r0 = some 1) (i1 : (-2147483648) ≤ a1 ∧ a1 ≤ 2147483647) : wpc kt 1 55 [.ref r0, vI a1] T H (q_55 r0 a1 T H) := by
  refine wp_enter e55 (Nat.le_of_ble_eq_true rfl) rfl ?_
  show wp _ _ 55 0 [(0, .ref r0), (1, vI a1)] [] _ H _
  refine wp_of e55 c55_0 (rw_iload_n (pc' := 1) (z := a1) rfl rfl ?_)
  refine wp_of e55 c55_1 (rw_if_lt (p1 := 19) (p2 := 4) (by decide) rfl ⟨by omega, by omega⟩ (fun c16208 => ?_) (fun c16208 => ?_))
  · refine wp_of e55 c55_19 (rw_iconst (pc' := 20) rfl ?_)
    exact wp_zreturn e55 c55_20 rfl (by omega) ⟨rfl, rfl, 0, rfl, ⟨by omega, by omega⟩, by omega⟩
  · refine wp_of e55 c55_4 (rw_iload_n (pc' := 5) (z := a1) rfl rfl ?_)
    refine wp_of e55 c55_5 (rw_aload_n (pc' := 6) (v := .ref r0) rfl rfl rfl ?_)
    refine wp_of e55 c55_6 (xg_R (pc' := 9) lf_0_51 hW g0 sh_1 (by decide) (by decide) ty_1_6 rfl rfl (fun r16209 q16210 g16211 => ?_))
    refine wp_of e55 c55_9 (xg_I (pc' := 12) lf_0_96 hW g16211 sh_27 (by decide) (by decide) ty_27_10 rfl rfl (fun b16212 b16213 => ?_))
    refine wp_of e55 c55_12 (rw_icmp_ge (p1 := 19) (p2 := 15) (by decide) rfl ⟨by omega, by omega⟩ ⟨by omega, by omega⟩ (fun c16214 => ?_) (fun c16214 => ?_))
    · refine wp_of e55 c55_19 (rw_iconst (pc' := 20) rfl ?_)
      exact wp_zreturn e55 c55_20 rfl (by omega) ⟨rfl, rfl, 0, rfl, ⟨by omega, by omega⟩, by omega⟩
    · refine wp_of e55 c55_15 (rw_iconst (pc' := 16) rfl ?_)
      refine wp_of e55 c55_16 (rw_goto (p1 := 20) (by decide) ?_)
      exact wp_zreturn e55 c55_20 rfl (by omega) ⟨rfl, rfl, 1, rfl, ⟨by omega, by omega⟩, by omega⟩
/-! StrikeAwake.spans(I)I -/
theorem e54 : wq_en 54 = some (0, 2, false, some FieldType.int) := rfl
theorem c54_0 : mc_cd 54 0 = some (.aload_n 0, 1) := by decide +kernel
theorem c54_1 : mc_cd 54 1 = some (.iload_n 1, 1) := by decide +kernel
theorem c54_2 : mc_cd 54 2 = some (.invokevirtual 105, 3) := by decide +kernel
theorem c54_5 : mc_cd 54 5 = some (.ifCond .ne 9, 3) := by decide +kernel
theorem c54_8 : mc_cd 54 8 = some (.aload_n 0, 1) := by decide +kernel
theorem c54_9 : mc_cd 54 9 = some (.iconst 1, 1) := by decide +kernel
theorem c54_10 : mc_cd 54 10 = some (.invokevirtual 70, 3) := by decide +kernel
theorem c54_13 : mc_cd 54 13 = some (.ireturn, 1) := by decide +kernel
theorem c54_14 : mc_cd 54 14 = some (.aload_n 0, 1) := by decide +kernel
theorem c54_15 : mc_cd 54 15 = some (.aload_n 0, 1) := by decide +kernel
theorem c54_16 : mc_cd 54 16 = some (.getfield 51, 3) := by decide +kernel
theorem c54_19 : mc_cd 54 19 = some (.getfield 109, 3) := by decide +kernel
theorem c54_22 : mc_cd 54 22 = some (.iload_n 1, 1) := by decide +kernel
theorem c54_23 : mc_cd 54 23 = some (.aaload, 1) := by decide +kernel
theorem c54_24 : mc_cd 54 24 = some (.getfield 113, 3) := by decide +kernel
theorem c54_27 : mc_cd 54 27 = some (.invokevirtual 99, 3) := by decide +kernel
theorem c54_30 : mc_cd 54 30 = some (.ireturn, 1) := by decide +kernel
abbrev q_54 (r0 : Nat) (a1 : Int) (T : wq_T) (H : wq_H) : Option Value → wq_T → wq_H → Prop := fun r T' H' => T = T' ∧ WT T H' ∧ wfr [(1, 10)] T H H' ∧ ∃ z : Int, some (vI z) = r ∧ ((-2147483648) ≤ z ∧ z ≤ 2147483647)
set_option maxHeartbeats 4000000 in
theorem s_54 {kt : Nat → Option mc_E} {T : wq_T} {H : wq_H} {r0 : Nat} {a1 : Int} (hW : WT T H) (g0 : T.2.2.2 r0 = some 1) (i1 : (-2147483648) ≤ a1 ∧ a1 ≤ 2147483647) : wpc kt 2 54 [.ref r0, vI a1] T H (q_54 r0 a1 T H) := by
  refine wp_enter e54 (Nat.le_of_ble_eq_true rfl) rfl ?_
  have f0 : wfr [(1, 10)] T H H := wfr.rf
  show wp _ _ 54 0 [(0, .ref r0), (1, vI a1)] [] _ H _
  refine wp_of e54 c54_0 (rw_aload_n (pc' := 1) (v := .ref r0) rfl rfl rfl ?_)
  refine wp_of e54 c54_1 (rw_iload_n (pc' := 2) (z := a1) rfl rfl ?_)
  refine wp_of e54 c54_2 (xc_V (pc' := 5) (r := r0) (as := [vI a1]) (st := []) (lm_0_105) rfl rfl (Nat.le_of_ble_eq_true rfl) hW g0 sh_1 (by decide) rfl (by decide) (s_55 hW g0 ⟨by omega, by omega⟩) (fun R16259 T16260 H16261 p16262 => ?_))
  obtain ⟨e16263, e16265, z16267, e16264, b16268, p16266⟩ := p16262
  subst e16263
  subst e16264
  subst e16265
  show wp _ _ 54 5 [(0, .ref r0), (1, vI a1)] [vI z16267] _ H _
  refine wp_of e54 c54_5 (rw_if_ne (p1 := 14) (p2 := 8) (by decide) rfl ⟨by omega, by omega⟩ (fun c16269 => ?_) (fun c16269 => ?_))
  · refine wp_of e54 c54_14 (rw_aload_n (pc' := 15) (v := .ref r0) rfl rfl rfl ?_)
    refine wp_of e54 c54_15 (rw_aload_n (pc' := 16) (v := .ref r0) rfl rfl rfl ?_)
    refine wp_of e54 c54_16 (xg_R (pc' := 19) lf_0_51 hW g0 sh_1 (by decide) (by decide) ty_1_6 rfl rfl (fun r16270 q16271 g16272 => ?_))
    refine wp_of e54 c54_19 (xg_R (pc' := 22) lf_0_109 hW g16272 sh_27 (by decide) (by decide) ty_27_0 rfl rfl (fun r16273 q16274 g16275 => ?_))
    refine wp_of e54 c54_22 (rw_iload_n (pc' := 23) (z := a1) rfl rfl ?_)
    refine wp_of e54 c54_23 (xa_R (pc' := 24) (by decide) hW g16275 sh_28 (by decide) (ty_28 _) (by omega) (by omega) rfl (fun r16276 q16277 g16278 => ?_))
    refine wp_of e54 c54_24 (xg_I (pc' := 27) lf_0_113 hW g16278 sh_35 (by decide) (by decide) ty_35_15 rfl rfl (fun b16279 b16280 => ?_))
    refine wp_of e54 c54_27 (xc_V (pc' := 30) (r := r0) (as := [vI (H r16276 15)]) (st := []) (lm_0_99) rfl rfl (Nat.le_of_ble_eq_true rfl) hW g0 sh_1 (by decide) rfl (by decide) (s_51 hW g0 ⟨by omega, by omega⟩) (fun R16281 T16282 H16283 p16284 => ?_))
    obtain ⟨e16285, w16287, f16288, z16289, e16286, b16290⟩ := p16284
    subst e16285
    subst e16286
    have f16291 := f0.tr f16288 rfl
    show wp _ _ 54 30 [(0, .ref r0), (1, vI a1)] [vI z16289] _ H16283 _
    exact wp_ireturn e54 c54_30 rfl ⟨rfl, w16287, f16291, z16289, rfl, ⟨by omega, by omega⟩⟩
  · refine wp_of e54 c54_8 (rw_aload_n (pc' := 9) (v := .ref r0) rfl rfl rfl ?_)
    refine wp_of e54 c54_9 (rw_iconst (pc' := 10) rfl ?_)
    refine wp_of e54 c54_10 (xc_V (pc' := 13) (r := r0) (as := [vI 1]) (st := []) (lm_0_70) rfl rfl (Nat.le_of_ble_eq_true rfl) hW g0 sh_1 (by decide) rfl (by decide) (s_12 hW g0 ⟨by omega, by omega⟩) (fun R16292 T16293 H16294 p16295 => ?_))
    obtain ⟨e16296, w16298, f16299, z16300, e16297, b16301⟩ := p16295
    subst e16296
    subst e16297
    have f16302 := f0.tr f16299 rfl
    show wp _ _ 54 13 [(0, .ref r0), (1, vI a1)] [vI z16300] _ H16294 _
    exact wp_ireturn e54 c54_13 rfl ⟨rfl, w16298, f16302, z16300, rfl, ⟨by omega, by omega⟩⟩
/-! StrikeAwake.isSpan(II)Z -/
theorem e57 : wq_en 57 = some (0, 3, false, some FieldType.boolean) := rfl
theorem c57_0 : mc_cd 57 0 = some (.aload_n 0, 1) := by decide +kernel
theorem c57_1 : mc_cd 57 1 = some (.iload_n 1, 1) := by decide +kernel
theorem c57_2 : mc_cd 57 2 = some (.invokevirtual 105, 3) := by decide +kernel
theorem c57_5 : mc_cd 57 5 = some (.ifCond .eq 27, 3) := by decide +kernel
theorem c57_8 : mc_cd 57 8 = some (.iload_n 2, 1) := by decide +kernel
theorem c57_9 : mc_cd 57 9 = some (.ifCond .lt 23, 3) := by decide +kernel
theorem c57_12 : mc_cd 57 12 = some (.iload_n 2, 1) := by decide +kernel
theorem c57_13 : mc_cd 57 13 = some (.aload_n 0, 1) := by decide +kernel
theorem c57_14 : mc_cd 57 14 = some (.getfield 51, 3) := by decide +kernel
theorem c57_17 : mc_cd 57 17 = some (.getfield 109, 3) := by decide +kernel
theorem c57_20 : mc_cd 57 20 = some (.iload_n 1, 1) := by decide +kernel
theorem c57_21 : mc_cd 57 21 = some (.aaload, 1) := by decide +kernel
theorem c57_22 : mc_cd 57 22 = some (.getfield 113, 3) := by decide +kernel
theorem c57_25 : mc_cd 57 25 = some (.if_icmp .ge 7, 3) := by decide +kernel
theorem c57_28 : mc_cd 57 28 = some (.iconst 1, 1) := by decide +kernel
theorem c57_29 : mc_cd 57 29 = some (.goto 4, 3) := by decide +kernel
theorem c57_32 : mc_cd 57 32 = some (.iconst 0, 1) := by decide +kernel
theorem c57_33 : mc_cd 57 33 = some (.ireturn, 1) := by decide +kernel
abbrev q_57 (r0 : Nat) (a1 : Int) (a2 : Int) (T : wq_T) (H : wq_H) : Option Value → wq_T → wq_H → Prop := fun r T' H' => T = T' ∧ H = H' ∧ ∃ z : Int, some (vI z) = r ∧ (0 ≤ z ∧ z ≤ 1) ∧ (z = 0 ∨ (0 ≤ a1 ∧ a1 ≤ 5 ∧ 0 ≤ a2 ∧ a2 ≤ 39))
set_option maxHeartbeats 4000000 in
theorem s_57 {kt : Nat → Option mc_E} {T : wq_T} {H : wq_H} {r0 : Nat} {a1 : Int} {a2 : Int} (hW : WT T H) (g0 : T.2.2.2 r0 = some 1) (i1 : (-2147483648) ≤ a1 ∧ a1 ≤ 2147483647) (i2 : (-2147483648) ≤ a2 ∧ a2 ≤ 2147483647) : wpc kt 2 57 [.ref r0, vI a1, vI a2] T H (q_57 r0 a1 a2 T H) := by
  refine wp_enter e57 (Nat.le_of_ble_eq_true rfl) rfl ?_
  show wp _ _ 57 0 [(0, .ref r0), (1, vI a1), (2, vI a2)] [] _ H _
  refine wp_of e57 c57_0 (rw_aload_n (pc' := 1) (v := .ref r0) rfl rfl rfl ?_)
  refine wp_of e57 c57_1 (rw_iload_n (pc' := 2) (z := a1) rfl rfl ?_)
  refine wp_of e57 c57_2 (xc_V (pc' := 5) (r := r0) (as := [vI a1]) (st := []) (lm_0_105) rfl rfl (Nat.le_of_ble_eq_true rfl) hW g0 sh_1 (by decide) rfl (by decide) (s_55 hW g0 ⟨by omega, by omega⟩) (fun R16327 T16328 H16329 p16330 => ?_))
  obtain ⟨e16331, e16333, z16335, e16332, b16336, p16334⟩ := p16330
  subst e16331
  subst e16332
  subst e16333
  show wp _ _ 57 5 [(0, .ref r0), (1, vI a1), (2, vI a2)] [vI z16335] _ H _
  refine wp_of e57 c57_5 (rw_if_eq (p1 := 32) (p2 := 8) (by decide) rfl ⟨by omega, by omega⟩ (fun c16337 => ?_) (fun c16337 => ?_))
  · refine wp_of e57 c57_32 (rw_iconst (pc' := 33) rfl ?_)
    exact wp_zreturn e57 c57_33 rfl (by omega) ⟨rfl, rfl, 0, rfl, ⟨by omega, by omega⟩, by omega⟩
  · refine wp_of e57 c57_8 (rw_iload_n (pc' := 9) (z := a2) rfl rfl ?_)
    refine wp_of e57 c57_9 (rw_if_lt (p1 := 32) (p2 := 12) (by decide) rfl ⟨by omega, by omega⟩ (fun c16338 => ?_) (fun c16338 => ?_))
    · refine wp_of e57 c57_32 (rw_iconst (pc' := 33) rfl ?_)
      exact wp_zreturn e57 c57_33 rfl (by omega) ⟨rfl, rfl, 0, rfl, ⟨by omega, by omega⟩, by omega⟩
    · refine wp_of e57 c57_12 (rw_iload_n (pc' := 13) (z := a2) rfl rfl ?_)
      refine wp_of e57 c57_13 (rw_aload_n (pc' := 14) (v := .ref r0) rfl rfl rfl ?_)
      refine wp_of e57 c57_14 (xg_R (pc' := 17) lf_0_51 hW g0 sh_1 (by decide) (by decide) ty_1_6 rfl rfl (fun r16339 q16340 g16341 => ?_))
      refine wp_of e57 c57_17 (xg_R (pc' := 20) lf_0_109 hW g16341 sh_27 (by decide) (by decide) ty_27_0 rfl rfl (fun r16342 q16343 g16344 => ?_))
      refine wp_of e57 c57_20 (rw_iload_n (pc' := 21) (z := a1) rfl rfl ?_)
      refine wp_of e57 c57_21 (xa_R (pc' := 22) (by decide) hW g16344 sh_28 (by decide) (ty_28 _) (by omega) (by omega) rfl (fun r16345 q16346 g16347 => ?_))
      refine wp_of e57 c57_22 (xg_I (pc' := 25) lf_0_113 hW g16347 sh_35 (by decide) (by decide) ty_35_15 rfl rfl (fun b16348 b16349 => ?_))
      refine wp_of e57 c57_25 (rw_icmp_ge (p1 := 32) (p2 := 28) (by decide) rfl ⟨by omega, by omega⟩ ⟨by omega, by omega⟩ (fun c16350 => ?_) (fun c16350 => ?_))
      · refine wp_of e57 c57_32 (rw_iconst (pc' := 33) rfl ?_)
        exact wp_zreturn e57 c57_33 rfl (by omega) ⟨rfl, rfl, 0, rfl, ⟨by omega, by omega⟩, by omega⟩
      · refine wp_of e57 c57_28 (rw_iconst (pc' := 29) rfl ?_)
        refine wp_of e57 c57_29 (rw_goto (p1 := 33) (by decide) ?_)
        exact wp_zreturn e57 c57_33 rfl (by omega) ⟨rfl, rfl, 1, rfl, ⟨by omega, by omega⟩, by omega⟩
/-! StrikeAwake$Person.weightOf(I)I -/
theorem e58 : wq_en 58 = some (8, 2, false, some FieldType.int) := rfl
theorem c58_0 : mc_cd 58 0 = some (.aload_n 0, 1) := by decide +kernel
theorem c58_1 : mc_cd 58 1 = some (.getfield 35, 3) := by decide +kernel
theorem c58_4 : mc_cd 58 4 = some (.iconst (-1), 1) := by decide +kernel
theorem c58_5 : mc_cd 58 5 = some (.if_icmp .ne 5, 3) := by decide +kernel
theorem c58_8 : mc_cd 58 8 = some (.iconst 1, 1) := by decide +kernel
theorem c58_9 : mc_cd 58 9 = some (.ireturn, 1) := by decide +kernel
theorem c58_10 : mc_cd 58 10 = some (.iconst 1, 1) := by decide +kernel
theorem c58_11 : mc_cd 58 11 = some (.bipush 10, 2) := by decide +kernel
theorem c58_13 : mc_cd 58 13 = some (.aload_n 0, 1) := by decide +kernel
theorem c58_14 : mc_cd 58 14 = some (.getfield 9, 3) := by decide +kernel
theorem c58_17 : mc_cd 58 17 = some (.iload_n 1, 1) := by decide +kernel
theorem c58_18 : mc_cd 58 18 = some (.iaload, 1) := by decide +kernel
theorem c58_19 : mc_cd 58 19 = some (.aload_n 0, 1) := by decide +kernel
theorem c58_20 : mc_cd 58 20 = some (.getfield 35, 3) := by decide +kernel
theorem c58_23 : mc_cd 58 23 = some (.isub, 1) := by decide +kernel
theorem c58_24 : mc_cd 58 24 = some (.invokestatic 84, 3) := by decide +kernel
theorem c58_27 : mc_cd 58 27 = some (.isub, 1) := by decide +kernel
theorem c58_28 : mc_cd 58 28 = some (.invokestatic 90, 3) := by decide +kernel
theorem c58_31 : mc_cd 58 31 = some (.ireturn, 1) := by decide +kernel
abbrev q_58 (r0 : Nat) (a1 : Int) (T : wq_T) (H : wq_H) : Option Value → wq_T → wq_H → Prop := fun r T' H' => T = T' ∧ H = H' ∧ ∃ z : Int, some (vI z) = r ∧ (1 ≤ z ∧ z ≤ 10)
set_option maxHeartbeats 4000000 in
theorem s_58 {kt : Nat → Option mc_E} {T : wq_T} {H : wq_H} {r0 : Nat} {a1 : Int} (hW : WT T H) (g0 : T.2.2.2 r0 = some 35) (i1 : 0 ≤ a1 ∧ a1 ≤ 39) : wpc kt 1 58 [.ref r0, vI a1] T H (q_58 r0 a1 T H) := by
  refine wp_enter e58 (Nat.le_of_ble_eq_true rfl) rfl ?_
  show wp _ _ 58 0 [(0, .ref r0), (1, vI a1)] [] _ H _
  refine wp_of e58 c58_0 (rw_aload_n (pc' := 1) (v := .ref r0) rfl rfl rfl ?_)
  refine wp_of e58 c58_1 (xg_I (pc' := 4) lf_8_35 hW g0 sh_35 (by decide) (by decide) ty_35_11 rfl rfl (fun b16365 b16366 => ?_))
  refine wp_of e58 c58_4 (rw_iconst (pc' := 5) rfl ?_)
  refine wp_of e58 c58_5 (rw_icmp_ne (p1 := 10) (p2 := 8) (by decide) rfl ⟨by omega, by omega⟩ ⟨by omega, by omega⟩ (fun c16367 => ?_) (fun c16367 => ?_))
  · refine wp_of e58 c58_10 (rw_iconst (pc' := 11) rfl ?_)
    refine wp_of e58 c58_11 (rw_bipush (pc' := 13) (z := 10) rfl (by decide) ?_)
    refine wp_of e58 c58_13 (rw_aload_n (pc' := 14) (v := .ref r0) rfl rfl rfl ?_)
    refine wp_of e58 c58_14 (xg_R (pc' := 17) lf_8_9 hW g0 sh_35 (by decide) (by decide) ty_35_0 rfl rfl (fun r16368 q16369 g16370 => ?_))
    refine wp_of e58 c58_17 (rw_iload_n (pc' := 18) (z := a1) rfl rfl ?_)
    refine wp_of e58 c58_18 (xa_I (so := 0) (pc' := 19) hW g16370 sh_36 (by decide) (ty_36 _) (by omega) (by omega) rfl (fun b16371 b16372 => ?_))
    refine wp_of e58 c58_19 (rw_aload_n (pc' := 20) (v := .ref r0) rfl rfl rfl ?_)
    refine wp_of e58 c58_20 (xg_I (pc' := 23) lf_8_35 hW g0 sh_35 (by decide) (by decide) ty_35_11 rfl rfl (fun b16373 b16374 => ?_))
    refine wp_of e58 c58_23 (rw_isub (pc' := 24) rfl ?_)
    refine wp_of e58 c58_24 (rw_abs (pc' := 27) rfl rfl ⟨by omega, by omega⟩ rfl (Nat.le_of_ble_eq_true rfl) rfl ?_)
    obtain ⟨v16375, e16376⟩ : ∃ x : Int, x = if 0 ≤ ((H r16368 (a1.toNat)) - (H r0 11)) then ((H r16368 (a1.toNat)) - (H r0 11)) else 0 - ((H r16368 (a1.toNat)) - (H r0 11)) := ⟨_, rfl⟩
    rw [← e16376]
    have b16377 : (v16375 = ((H r16368 (a1.toNat)) - (H r0 11)) ∨ v16375 = 0 - ((H r16368 (a1.toNat)) - (H r0 11))) ∧ 0 ≤ v16375 := by
      rw [e16376]
      split <;> omega
    refine wp_of e58 c58_27 (rw_isub (pc' := 28) rfl ?_)
    refine wp_of e58 c58_28 (rw_math2 (pc' := 31) (z := max 1 (10 - v16375)) rfl rfl ⟨by omega, by omega⟩ ⟨by omega, by omega⟩ (Or.inr ⟨rfl, rfl⟩) (Nat.le_of_ble_eq_true rfl) rfl ?_)
    obtain ⟨v16378, e16379⟩ : ∃ x : Int, x = max 1 (10 - v16375) := ⟨_, rfl⟩
    rw [← e16379]
    have b16380 : v16378 = 1 ∨ v16378 = (10 - v16375) := by
      rw [e16379]
      omega
    have b16381 : 1 ≤ v16378 ∧ (10 - v16375) ≤ v16378 := by
      rw [e16379]
      omega
    exact wp_ireturn e58 c58_31 rfl ⟨rfl, rfl, v16378, rfl, ⟨by omega, by omega⟩⟩
  · refine wp_of e58 c58_8 (rw_iconst (pc' := 9) rfl ?_)
    exact wp_ireturn e58 c58_9 rfl ⟨rfl, rfl, 1, rfl, ⟨by omega, by omega⟩⟩
/-! StrikeAwake.span(III)I -/
theorem e56 : wq_en 56 = some (0, 5, false, some FieldType.int) := rfl
theorem c56_0 : mc_cd 56 0 = some (.aload_n 0, 1) := by decide +kernel
theorem c56_1 : mc_cd 56 1 = some (.iload_n 1, 1) := by decide +kernel
theorem c56_2 : mc_cd 56 2 = some (.iload_n 2, 1) := by decide +kernel
theorem c56_3 : mc_cd 56 3 = some (.invokevirtual 118, 3) := by decide +kernel
theorem c56_6 : mc_cd 56 6 = some (.ifCond .eq 12, 3) := by decide +kernel
theorem c56_9 : mc_cd 56 9 = some (.iload_n 3, 1) := by decide +kernel
theorem c56_10 : mc_cd 56 10 = some (.ifCond .lt 8, 3) := by decide +kernel
theorem c56_13 : mc_cd 56 13 = some (.iload_n 3, 1) := by decide +kernel
theorem c56_14 : mc_cd 56 14 = some (.iconst 2, 1) := by decide +kernel
theorem c56_15 : mc_cd 56 15 = some (.if_icmp .le 9, 3) := by decide +kernel
theorem c56_18 : mc_cd 56 18 = some (.aload_n 0, 1) := by decide +kernel
theorem c56_19 : mc_cd 56 19 = some (.iconst 1, 1) := by decide +kernel
theorem c56_20 : mc_cd 56 20 = some (.invokevirtual 70, 3) := by decide +kernel
theorem c56_23 : mc_cd 56 23 = some (.ireturn, 1) := by decide +kernel
theorem c56_24 : mc_cd 56 24 = some (.aload_n 0, 1) := by decide +kernel
theorem c56_25 : mc_cd 56 25 = some (.getfield 51, 3) := by decide +kernel
theorem c56_28 : mc_cd 56 28 = some (.getfield 109, 3) := by decide +kernel
theorem c56_31 : mc_cd 56 31 = some (.iload_n 1, 1) := by decide +kernel
theorem c56_32 : mc_cd 56 32 = some (.aaload, 1) := by decide +kernel
theorem c56_33 : mc_cd 56 33 = some (.astore 4, 2) := by decide +kernel
theorem c56_35 : mc_cd 56 35 = some (.iload_n 3, 1) := by decide +kernel
theorem c56_36 : mc_cd 56 36 = some (.iconst 2, 1) := by decide +kernel
theorem c56_37 : mc_cd 56 37 = some (.if_icmp .ne 14, 3) := by decide +kernel
theorem c56_40 : mc_cd 56 40 = some (.aload_n 0, 1) := by decide +kernel
theorem c56_41 : mc_cd 56 41 = some (.aload 4, 2) := by decide +kernel
theorem c56_43 : mc_cd 56 43 = some (.iload_n 2, 1) := by decide +kernel
theorem c56_44 : mc_cd 56 44 = some (.invokevirtual 122, 3) := by decide +kernel
theorem c56_47 : mc_cd 56 47 = some (.invokevirtual 99, 3) := by decide +kernel
theorem c56_50 : mc_cd 56 50 = some (.ireturn, 1) := by decide +kernel
theorem c56_51 : mc_cd 56 51 = some (.aload_n 0, 1) := by decide +kernel
theorem c56_52 : mc_cd 56 52 = some (.iload_n 3, 1) := by decide +kernel
theorem c56_53 : mc_cd 56 53 = some (.ifCond .ne 13, 3) := by decide +kernel
theorem c56_56 : mc_cd 56 56 = some (.aload 4, 2) := by decide +kernel
theorem c56_58 : mc_cd 56 58 = some (.getfield 125, 3) := by decide +kernel
theorem c56_61 : mc_cd 56 61 = some (.iload_n 2, 1) := by decide +kernel
theorem c56_62 : mc_cd 56 62 = some (.iaload, 1) := by decide +kernel
theorem c56_63 : mc_cd 56 63 = some (.goto 10, 3) := by decide +kernel
theorem c56_66 : mc_cd 56 66 = some (.aload 4, 2) := by decide +kernel
theorem c56_68 : mc_cd 56 68 = some (.getfield 129, 3) := by decide +kernel
theorem c56_71 : mc_cd 56 71 = some (.iload_n 2, 1) := by decide +kernel
theorem c56_72 : mc_cd 56 72 = some (.iaload, 1) := by decide +kernel
theorem c56_73 : mc_cd 56 73 = some (.invokevirtual 99, 3) := by decide +kernel
theorem c56_76 : mc_cd 56 76 = some (.ireturn, 1) := by decide +kernel
abbrev q_56 (r0 : Nat) (a1 : Int) (a2 : Int) (a3 : Int) (T : wq_T) (H : wq_H) : Option Value → wq_T → wq_H → Prop := fun r T' H' => T = T' ∧ WT T H' ∧ wfr [(1, 10)] T H H' ∧ ∃ z : Int, some (vI z) = r ∧ ((-2147483648) ≤ z ∧ z ≤ 2147483647)
set_option maxHeartbeats 4000000 in
theorem s_56 {kt : Nat → Option mc_E} {T : wq_T} {H : wq_H} {r0 : Nat} {a1 : Int} {a2 : Int} {a3 : Int} (hW : WT T H) (g0 : T.2.2.2 r0 = some 1) (i1 : (-2147483648) ≤ a1 ∧ a1 ≤ 2147483647) (i2 : (-2147483648) ≤ a2 ∧ a2 ≤ 2147483647) (i3 : (-2147483648) ≤ a3 ∧ a3 ≤ 2147483647) : wpc kt 3 56 [.ref r0, vI a1, vI a2, vI a3] T H (q_56 r0 a1 a2 a3 T H) := by
  refine wp_enter e56 (Nat.le_of_ble_eq_true rfl) rfl ?_
  have f0 : wfr [(1, 10)] T H H := wfr.rf
  show wp _ _ 56 0 [(0, .ref r0), (1, vI a1), (2, vI a2), (3, vI a3)] [] _ H _
  refine wp_of e56 c56_0 (rw_aload_n (pc' := 1) (v := .ref r0) rfl rfl rfl ?_)
  refine wp_of e56 c56_1 (rw_iload_n (pc' := 2) (z := a1) rfl rfl ?_)
  refine wp_of e56 c56_2 (rw_iload_n (pc' := 3) (z := a2) rfl rfl ?_)
  refine wp_of e56 c56_3 (xc_V (pc' := 6) (r := r0) (as := [vI a1, vI a2]) (st := []) (lm_0_118) rfl rfl (Nat.le_of_ble_eq_true rfl) hW g0 sh_1 (by decide) rfl (by decide) (s_57 hW g0 ⟨by omega, by omega⟩ ⟨by omega, by omega⟩) (fun R16491 T16492 H16493 p16494 => ?_))
  obtain ⟨e16495, e16497, z16499, e16496, b16500, p16498⟩ := p16494
  subst e16495
  subst e16496
  subst e16497
  show wp _ _ 56 6 [(0, .ref r0), (1, vI a1), (2, vI a2), (3, vI a3)] [vI z16499] _ H _
  refine wp_of e56 c56_6 (rw_if_eq (p1 := 18) (p2 := 9) (by decide) rfl ⟨by omega, by omega⟩ (fun c16501 => ?_) (fun c16501 => ?_))
  · refine wp_of e56 c56_18 (rw_aload_n (pc' := 19) (v := .ref r0) rfl rfl rfl ?_)
    refine wp_of e56 c56_19 (rw_iconst (pc' := 20) rfl ?_)
    refine wp_of e56 c56_20 (xc_V (pc' := 23) (r := r0) (as := [vI 1]) (st := []) (lm_0_70) rfl rfl (Nat.le_of_ble_eq_true rfl) hW g0 sh_1 (by decide) rfl (by decide) (s_12 hW g0 ⟨by omega, by omega⟩) (fun R16502 T16503 H16504 p16505 => ?_))
    obtain ⟨e16506, w16508, f16509, z16510, e16507, b16511⟩ := p16505
    subst e16506
    subst e16507
    have f16512 := f0.tr f16509 rfl
    show wp _ _ 56 23 [(0, .ref r0), (1, vI a1), (2, vI a2), (3, vI a3)] [vI z16510] _ H16504 _
    exact wp_ireturn e56 c56_23 rfl ⟨rfl, w16508, f16512, z16510, rfl, ⟨by omega, by omega⟩⟩
  · refine wp_of e56 c56_9 (rw_iload_n (pc' := 10) (z := a3) rfl rfl ?_)
    refine wp_of e56 c56_10 (rw_if_lt (p1 := 18) (p2 := 13) (by decide) rfl ⟨by omega, by omega⟩ (fun c16513 => ?_) (fun c16513 => ?_))
    · refine wp_of e56 c56_18 (rw_aload_n (pc' := 19) (v := .ref r0) rfl rfl rfl ?_)
      refine wp_of e56 c56_19 (rw_iconst (pc' := 20) rfl ?_)
      refine wp_of e56 c56_20 (xc_V (pc' := 23) (r := r0) (as := [vI 1]) (st := []) (lm_0_70) rfl rfl (Nat.le_of_ble_eq_true rfl) hW g0 sh_1 (by decide) rfl (by decide) (s_12 hW g0 ⟨by omega, by omega⟩) (fun R16514 T16515 H16516 p16517 => ?_))
      obtain ⟨e16518, w16520, f16521, z16522, e16519, b16523⟩ := p16517
      subst e16518
      subst e16519
      have f16524 := f0.tr f16521 rfl
      show wp _ _ 56 23 [(0, .ref r0), (1, vI a1), (2, vI a2), (3, vI a3)] [vI z16522] _ H16516 _
      exact wp_ireturn e56 c56_23 rfl ⟨rfl, w16520, f16524, z16522, rfl, ⟨by omega, by omega⟩⟩
    · refine wp_of e56 c56_13 (rw_iload_n (pc' := 14) (z := a3) rfl rfl ?_)
      refine wp_of e56 c56_14 (rw_iconst (pc' := 15) rfl ?_)
      refine wp_of e56 c56_15 (rw_icmp_le (p1 := 24) (p2 := 18) (by decide) rfl ⟨by omega, by omega⟩ ⟨by omega, by omega⟩ (fun c16525 => ?_) (fun c16525 => ?_))
      · refine wp_of e56 c56_24 (rw_aload_n (pc' := 25) (v := .ref r0) rfl rfl rfl ?_)
        refine wp_of e56 c56_25 (xg_R (pc' := 28) lf_0_51 hW g0 sh_1 (by decide) (by decide) ty_1_6 rfl rfl (fun r16526 q16527 g16528 => ?_))
        refine wp_of e56 c56_28 (xg_R (pc' := 31) lf_0_109 hW g16528 sh_27 (by decide) (by decide) ty_27_0 rfl rfl (fun r16529 q16530 g16531 => ?_))
        refine wp_of e56 c56_31 (rw_iload_n (pc' := 32) (z := a1) rfl rfl ?_)
        refine wp_of e56 c56_32 (xa_R (pc' := 33) (by decide) hW g16531 sh_28 (by decide) (ty_28 _) (by omega) (by omega) rfl (fun r16532 q16533 g16534 => ?_))
        refine wp_of e56 c56_33 (rw_astore (pc' := 35) (v := .ref r16532) (L' := [(4, .ref r16532), (0, .ref r0), (1, vI a1), (2, vI a2), (3, vI a3)]) rfl rfl rfl rfl ?_)
        refine wp_of e56 c56_35 (rw_iload_n (pc' := 36) (z := a3) rfl rfl ?_)
        refine wp_of e56 c56_36 (rw_iconst (pc' := 37) rfl ?_)
        refine wp_of e56 c56_37 (rw_icmp_ne (p1 := 51) (p2 := 40) (by decide) rfl ⟨by omega, by omega⟩ ⟨by omega, by omega⟩ (fun c16535 => ?_) (fun c16535 => ?_))
        · refine wp_of e56 c56_51 (rw_aload_n (pc' := 52) (v := .ref r0) rfl rfl rfl ?_)
          refine wp_of e56 c56_52 (rw_iload_n (pc' := 53) (z := a3) rfl rfl ?_)
          refine wp_of e56 c56_53 (rw_if_ne (p1 := 66) (p2 := 56) (by decide) rfl ⟨by omega, by omega⟩ (fun c16536 => ?_) (fun c16536 => ?_))
          · refine wp_of e56 c56_66 (rw_aload (pc' := 68) (v := .ref r16532) rfl rfl rfl ?_)
            refine wp_of e56 c56_68 (xg_R (pc' := 71) lf_0_129 hW g16534 sh_35 (by decide) (by decide) ty_35_1 rfl rfl (fun r16537 q16538 g16539 => ?_))
            refine wp_of e56 c56_71 (rw_iload_n (pc' := 72) (z := a2) rfl rfl ?_)
            refine wp_of e56 c56_72 (xa_I (so := 0) (pc' := 73) hW g16539 sh_37 (by decide) (ty_37 _) (by omega) (by omega) rfl (fun b16540 b16541 => ?_))
            refine wp_of e56 c56_73 (xc_V (pc' := 76) (r := r0) (as := [vI (H r16537 (a2.toNat))]) (st := []) (lm_0_99) rfl rfl (Nat.le_of_ble_eq_true rfl) hW g0 sh_1 (by decide) rfl (by decide) (s_51 hW g0 ⟨by omega, by omega⟩) (fun R16542 T16543 H16544 p16545 => ?_))
            obtain ⟨e16546, w16548, f16549, z16550, e16547, b16551⟩ := p16545
            subst e16546
            subst e16547
            have f16552 := f0.tr f16549 rfl
            show wp _ _ 56 76 [(4, .ref r16532), (0, .ref r0), (1, vI a1), (2, vI a2), (3, vI a3)] [vI z16550] _ H16544 _
            exact wp_ireturn e56 c56_76 rfl ⟨rfl, w16548, f16552, z16550, rfl, ⟨by omega, by omega⟩⟩
          · refine wp_of e56 c56_56 (rw_aload (pc' := 58) (v := .ref r16532) rfl rfl rfl ?_)
            refine wp_of e56 c56_58 (xg_R (pc' := 61) lf_0_125 hW g16534 sh_35 (by decide) (by decide) ty_35_0 rfl rfl (fun r16553 q16554 g16555 => ?_))
            refine wp_of e56 c56_61 (rw_iload_n (pc' := 62) (z := a2) rfl rfl ?_)
            refine wp_of e56 c56_62 (xa_I (so := 0) (pc' := 63) hW g16555 sh_36 (by decide) (ty_36 _) (by omega) (by omega) rfl (fun b16556 b16557 => ?_))
            refine wp_of e56 c56_63 (rw_goto (p1 := 73) (by decide) ?_)
            refine wp_of e56 c56_73 (xc_V (pc' := 76) (r := r0) (as := [vI (H r16553 (a2.toNat))]) (st := []) (lm_0_99) rfl rfl (Nat.le_of_ble_eq_true rfl) hW g0 sh_1 (by decide) rfl (by decide) (s_51 hW g0 ⟨by omega, by omega⟩) (fun R16558 T16559 H16560 p16561 => ?_))
            obtain ⟨e16562, w16564, f16565, z16566, e16563, b16567⟩ := p16561
            subst e16562
            subst e16563
            have f16568 := f0.tr f16565 rfl
            show wp _ _ 56 76 [(4, .ref r16532), (0, .ref r0), (1, vI a1), (2, vI a2), (3, vI a3)] [vI z16566] _ H16560 _
            exact wp_ireturn e56 c56_76 rfl ⟨rfl, w16564, f16568, z16566, rfl, ⟨by omega, by omega⟩⟩
        · refine wp_of e56 c56_40 (rw_aload_n (pc' := 41) (v := .ref r0) rfl rfl rfl ?_)
          refine wp_of e56 c56_41 (rw_aload (pc' := 43) (v := .ref r16532) rfl rfl rfl ?_)
          refine wp_of e56 c56_43 (rw_iload_n (pc' := 44) (z := a2) rfl rfl ?_)
          refine wp_of e56 c56_44 (xc_V (pc' := 47) (r := r16532) (as := [vI a2]) (st := [.ref r0]) (lm_0_122) rfl rfl (Nat.le_of_ble_eq_true rfl) hW g16534 sh_35 (by decide) rfl (by decide) (s_58 hW g16534 ⟨by omega, by omega⟩) (fun R16569 T16570 H16571 p16572 => ?_))
          obtain ⟨e16573, e16575, z16576, e16574, b16577⟩ := p16572
          subst e16573
          subst e16574
          subst e16575
          show wp _ _ 56 47 [(4, .ref r16532), (0, .ref r0), (1, vI a1), (2, vI a2), (3, vI a3)] [vI z16576, .ref r0] _ H _
          refine wp_of e56 c56_47 (xc_V (pc' := 50) (r := r0) (as := [vI z16576]) (st := []) (lm_0_99) rfl rfl (Nat.le_of_ble_eq_true rfl) hW g0 sh_1 (by decide) rfl (by decide) (s_51 hW g0 ⟨by omega, by omega⟩) (fun R16578 T16579 H16580 p16581 => ?_))
          obtain ⟨e16582, w16584, f16585, z16586, e16583, b16587⟩ := p16581
          subst e16582
          subst e16583
          have f16588 := f0.tr f16585 rfl
          show wp _ _ 56 50 [(4, .ref r16532), (0, .ref r0), (1, vI a1), (2, vI a2), (3, vI a3)] [vI z16586] _ H16580 _
          exact wp_ireturn e56 c56_50 rfl ⟨rfl, w16584, f16588, z16586, rfl, ⟨by omega, by omega⟩⟩
      · refine wp_of e56 c56_18 (rw_aload_n (pc' := 19) (v := .ref r0) rfl rfl rfl ?_)
        refine wp_of e56 c56_19 (rw_iconst (pc' := 20) rfl ?_)
        refine wp_of e56 c56_20 (xc_V (pc' := 23) (r := r0) (as := [vI 1]) (st := []) (lm_0_70) rfl rfl (Nat.le_of_ble_eq_true rfl) hW g0 sh_1 (by decide) rfl (by decide) (s_12 hW g0 ⟨by omega, by omega⟩) (fun R16589 T16590 H16591 p16592 => ?_))
        obtain ⟨e16593, w16595, f16596, z16597, e16594, b16598⟩ := p16592
        subst e16593
        subst e16594
        have f16599 := f0.tr f16596 rfl
        show wp _ _ 56 23 [(0, .ref r0), (1, vI a1), (2, vI a2), (3, vI a3)] [vI z16597] _ H16591 _
        exact wp_ireturn e56 c56_23 rfl ⟨rfl, w16595, f16599, z16597, rfl, ⟨by omega, by omega⟩⟩
/-! StrikeAwake.isHour(I)Z -/
theorem e60 : wq_en 60 = some (0, 2, false, some FieldType.boolean) := rfl
theorem c60_0 : mc_cd 60 0 = some (.iload_n 1, 1) := by decide +kernel
theorem c60_1 : mc_cd 60 1 = some (.ifCond .lt 18, 3) := by decide +kernel
theorem c60_4 : mc_cd 60 4 = some (.iload_n 1, 1) := by decide +kernel
theorem c60_5 : mc_cd 60 5 = some (.aload_n 0, 1) := by decide +kernel
theorem c60_6 : mc_cd 60 6 = some (.getfield 51, 3) := by decide +kernel
theorem c60_9 : mc_cd 60 9 = some (.getfield 339, 3) := by decide +kernel
theorem c60_12 : mc_cd 60 12 = some (.if_icmp .ge 7, 3) := by decide +kernel
theorem c60_15 : mc_cd 60 15 = some (.iconst 1, 1) := by decide +kernel
theorem c60_16 : mc_cd 60 16 = some (.goto 4, 3) := by decide +kernel
theorem c60_19 : mc_cd 60 19 = some (.iconst 0, 1) := by decide +kernel
theorem c60_20 : mc_cd 60 20 = some (.ireturn, 1) := by decide +kernel
abbrev q_60 (r0 : Nat) (a1 : Int) (T : wq_T) (H : wq_H) : Option Value → wq_T → wq_H → Prop := fun r T' H' => T = T' ∧ H = H' ∧ ∃ z : Int, some (vI z) = r ∧ (0 ≤ z ∧ z ≤ 1) ∧ (z = 0 ∨ (0 ≤ a1 ∧ a1 ≤ 23))
set_option maxHeartbeats 4000000 in
theorem s_60 {kt : Nat → Option mc_E} {T : wq_T} {H : wq_H} {r0 : Nat} {a1 : Int} (hW : WT T H) (g0 : T.2.2.2 r0 = some 1) (i1 : (-2147483648) ≤ a1 ∧ a1 ≤ 2147483647) : wpc kt 1 60 [.ref r0, vI a1] T H (q_60 r0 a1 T H) := by
  refine wp_enter e60 (Nat.le_of_ble_eq_true rfl) rfl ?_
  show wp _ _ 60 0 [(0, .ref r0), (1, vI a1)] [] _ H _
  refine wp_of e60 c60_0 (rw_iload_n (pc' := 1) (z := a1) rfl rfl ?_)
  refine wp_of e60 c60_1 (rw_if_lt (p1 := 19) (p2 := 4) (by decide) rfl ⟨by omega, by omega⟩ (fun c16607 => ?_) (fun c16607 => ?_))
  · refine wp_of e60 c60_19 (rw_iconst (pc' := 20) rfl ?_)
    exact wp_zreturn e60 c60_20 rfl (by omega) ⟨rfl, rfl, 0, rfl, ⟨by omega, by omega⟩, by omega⟩
  · refine wp_of e60 c60_4 (rw_iload_n (pc' := 5) (z := a1) rfl rfl ?_)
    refine wp_of e60 c60_5 (rw_aload_n (pc' := 6) (v := .ref r0) rfl rfl rfl ?_)
    refine wp_of e60 c60_6 (xg_R (pc' := 9) lf_0_51 hW g0 sh_1 (by decide) (by decide) ty_1_6 rfl rfl (fun r16608 q16609 g16610 => ?_))
    refine wp_of e60 c60_9 (xg_I (pc' := 12) lf_0_339 hW g16610 sh_27 (by decide) (by decide) ty_27_7 rfl rfl (fun b16611 b16612 => ?_))
    refine wp_of e60 c60_12 (rw_icmp_ge (p1 := 19) (p2 := 15) (by decide) rfl ⟨by omega, by omega⟩ ⟨by omega, by omega⟩ (fun c16613 => ?_) (fun c16613 => ?_))
    · refine wp_of e60 c60_19 (rw_iconst (pc' := 20) rfl ?_)
      exact wp_zreturn e60 c60_20 rfl (by omega) ⟨rfl, rfl, 0, rfl, ⟨by omega, by omega⟩, by omega⟩
    · refine wp_of e60 c60_15 (rw_iconst (pc' := 16) rfl ?_)
      refine wp_of e60 c60_16 (rw_goto (p1 := 20) (by decide) ?_)
      exact wp_zreturn e60 c60_20 rfl (by omega) ⟨rfl, rfl, 1, rfl, ⟨by omega, by omega⟩, by omega⟩
