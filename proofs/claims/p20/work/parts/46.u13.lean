/-! what methods do (own work, written by wip/gen3/sx3.py) -/
/-! StrikeAwakeModel.hiding(II)I  -/
abbrev uq_261 (r0 : Nat) (a1 : Int) (a2 : Int) (e : xD) (d : xD) (T : wq_T) (H : wq_H) : Option Value → wq_T → wq_H → Prop := fun r T' H' => T = T' ∧ WT T H' ∧ wfr [(42, 0), (42, 1), (42, 2), (42, 28), (42, 29), (51, 999), (52, 999)] T H H' ∧ ∃ z : Int, some (vI z) = r ∧ ((-2147483648) ≤ z ∧ z ≤ 2147483647) ∧ (((wKI H' r0 = 1) ∧ KNN T H' r0 e d))
set_option maxHeartbeats 4000000 in
theorem u_261 {kt : Nat → Option mc_E} {T : wq_T} {H : wq_H} {r0 : Nat} {a1 : Int} {a2 : Int} {e : xD} {d : xD} (hW : WT T H) (g0 : T.2.2.2 r0 = some 42) (i1 : (-2147483648) ≤ a1 ∧ a1 ≤ 2147483647) (i2 : (-2147483648) ≤ a2 ∧ a2 ≤ 2147483647) (p0 : wKI H r0 = 1) (p1 : XW d) (p2 : ∀ h : Nat, d 0 0 ≤ (h : Int) → h < 24 → e 13 h = 0) (p3 : XN d) (p4 : ∀ h : Nat, h < 24 → 0 ≤ e 13 h ∧ e 13 h ≤ 100) (hRB_r0 : RB T H r0 e d) (hKNN_r0 : KNN T H r0 e d) : wpc kt 8 261 [.ref r0, vI a1, vI a2] T H (uq_261 r0 a1 a2 e d T H) := by
  refine wp_enter e261 (Nat.le_of_ble_eq_true rfl) rfl ?_
  have f0 : wfr [(42, 0), (42, 1), (42, 2), (42, 28), (42, 29), (51, 999), (52, 999)] T H H := wfr.rf
  show wp _ _ 261 0 [(0, .ref r0), (1, vI a1), (2, vI a2)] [] _ H _
  have _b := RB_b hW hRB_r0
  have _nu := RB_n3 hRB_r0
  have _lm := RB_lm hRB_r0
  refine wp_of e261 c261_0 (rw_aload_n (pc' := 1) (v := .ref r0) rfl rfl rfl ?_)
  refine wp_of e261 c261_1 (rw_iconst (pc' := 2) rfl ?_)
  refine wp_of e261 c261_2 (xp_I (pc' := 5) lf_9_48 hW g0 sh_42 (by decide) (by decide) ty_42_0 rfl rfl (by decide) (by decide) ⟨by decide, by decide⟩ rfl (fun H2750 e2751 w2752 => ?_))
  have f2753 := f0.put' e2751 g0 rfl
  have k2754 : H2750 r0 0 = 0 := wq_u_s e2751
  refine wp_of e261 c261_5 (rw_aload_n (pc' := 6) (v := .ref r0) rfl rfl rfl ?_)
  refine wp_of e261 c261_6 (rw_aload_n (pc' := 7) (v := .ref r0) rfl rfl rfl ?_)
  refine wp_of e261 c261_7 (rw_iload_n (pc' := 8) (z := a1) rfl rfl ?_)
  refine wp_of e261 c261_8 (xc_V (pc' := 11) (r := r0) (as := [vI a1]) (st := [.ref r0]) (lm_9_364) rfl rfl (Nat.le_of_ble_eq_true rfl) w2752 g0 sh_42 (by decide) rfl (by decide) (s_213 w2752 g0 ⟨i1.1, i1.2⟩) (fun R2755 T2756 H2757 p2758 => ?_))
  obtain ⟨e2759, e2761, z2763, e2760, b2764, p2762⟩ := p2758
  subst e2759
  subst e2760
  subst e2761
  show wp _ _ 261 11 [(0, .ref r0), (1, vI a1), (2, vI a2)] [vI z2763, .ref r0] _ H2750 _
  refine wp_of e261 c261_11 (rw_if_eq (p1 := 26) (p2 := 14) (by decide) rfl ⟨Int.le_trans (by decide) b2764.1, Int.le_trans b2764.2 (by decide)⟩ (fun c2765 => ?_) (fun c2765 => ?_))
  · refine wp_of e261 c261_26 (rw_iconst (pc' := 27) rfl ?_)
    have k2766 : H2750 r0 3 = H r0 3 := (wq_u_j e2751 rfl)
    have k2767 : wKI H2750 r0 = wKI H r0 := (wKI_fr hW g0 ((wfr.rf (l := [(42, 0)])).put' e2751 g0 rfl) rfl)
    have h2768 : RB T H2750 r0 e d := (RB_fr hW g0 ((wfr.rf (l := [(42, 0)])).put' e2751 g0 rfl) rfl hRB_r0)
    have h2769 : KNN T H2750 r0 e d := (KNN_fr hW g0 ((wfr.rf (l := [(42, 0)])).put' e2751 g0 rfl) rfl hKNN_r0)
    refine wp_of e261 c261_27 (xc_V (pc' := 30) (r := r0) (as := [vI 0]) (st := []) (lm_9_433) rfl rfl (Nat.le_of_ble_eq_true rfl) w2752 g0 sh_42 (by decide) rfl (by decide) (u_241 (e := e) (d := d) w2752 g0 ⟨by decide, by decide⟩ (by omega) (by omega) (by assumption) (by assumption) (by assumption) (by assumption) h2768 h2769) (fun R2770 T2771 H2772 p2773 => ?_))
    obtain ⟨e2774, w2776, f2777, z2778, e2775, b2779, p2780⟩ := p2773
    subst e2774
    subst e2775
    rcases p2780 with ⟨a2781, a2782, a2783, a2784, a2785, a2786, a2787, a2788, a2789⟩ | ⟨a2790, a2791, a2792, a2793, a2794, a2795, a2796⟩
    · have f2797 := f2753.tr f2777 rfl
      show wp _ _ 261 30 [(0, .ref r0), (1, vI a1), (2, vI a2)] [vI z2778] _ H2772 _
      have k2798 : wLM H2772 r0 = wLM H r0 := ((wLM_fr w2752 g0 f2777 rfl).trans (wLM_fr hW g0 ((wfr.rf (l := [(42, 0)])).put' e2751 g0 rfl) rfl))
      refine wp_of e261 c261_30 (rw_istore_n (pc' := 31) (z := z2778) (L' := [(3, vI z2778), (0, .ref r0), (1, vI a1), (2, vI a2)]) rfl rfl rfl ?_)
      refine wp_of e261 c261_31 (rw_iload_n (pc' := 32) (z := z2778) rfl rfl ?_)
      refine wp_of e261 c261_32 (rw_if_le (p1 := 41) (p2 := 35) (by decide) rfl ⟨Int.le_trans (by decide) b2779.1, Int.le_trans b2779.2 (by decide)⟩ (fun c2799 => ?_) (fun c2799 => ?_))
      · refine wp_of e261 c261_41 (rw_iconst (pc' := 42) rfl ?_)
        refine wp_of e261 c261_42 (rw_istore (pc' := 44) (z := 0) (L' := [(4, vI 0), (3, vI z2778), (0, .ref r0), (1, vI a1), (2, vI a2)]) rfl rfl rfl ?_)
        refine wp_of e261 c261_44 (rw_iconst (pc' := 45) rfl ?_)
        refine wp_of e261 c261_45 (rw_istore (pc' := 47) (z := 0) (L' := [(5, vI 0), (4, vI 0), (3, vI z2778), (0, .ref r0), (1, vI a1), (2, vI a2)]) rfl rfl rfl ?_)
        have lp3280 : ∀ (n3281 : Nat) (v3283 : Int) (v3284 : Int) (H3285 : wq_H), WT T H3285 → wfr [(51, 999)] T H2772 H3285 → (0 ≤ v3283 ∧ v3283 ≤ 20000) → ((-2147483648) ≤ v3284 ∧ v3284 ≤ 2147483647) → (20000 - v3283).toNat = n3281 → wp kt 7 261 47 [(5, vI v3283), (4, vI v3284), (0, .ref r0), (1, vI a1), (2, vI a2)] [] T H3285 (uq_261 r0 a1 a2 e d T H) := by
          intro n3281
          induction n3281 using Nat.strongRecOn with
          | _ n3281 ih3282 =>
            intro v3283 v3284 H3285 w3286 f3287 b3288 b3289 m3290
            have f3291 := f2797.tr f3287 rfl
            refine wp_of e261 c261_47 (rw_iload (pc' := 49) (z := v3283) rfl rfl ?_)
            refine wp_of e261 c261_49 (rw_aload_n (pc' := 50) (v := .ref r0) rfl rfl rfl ?_)
            have k3292 : H3285 r0 29 = H2772 r0 29 := (f3287 r0 29 _ g0 rfl)
            refine wp_of e261 c261_50 (xg_I (pc' := 53) lf_9_422 w3286 g0 sh_42 (by decide) (by decide) ty_42_29 rfl rfl (fun b3293 b3294 => ?_))
            refine wp_of e261 c261_53 (rw_icmp_ge (p1 := 110) (p2 := 56) (by decide) rfl ⟨Int.le_trans (by decide) b3288.1, Int.le_trans b3288.2 (by decide)⟩ ⟨Int.le_trans (by decide) b3293, Int.le_trans b3294 (by decide)⟩ (fun c3295 => ?_) (fun c3295 => ?_))
            · refine wp_of e261 c261_110 (rw_aload_n (pc' := 111) (v := .ref r0) rfl rfl rfl ?_)
              refine wp_of e261 c261_111 (rw_iload (pc' := 113) (z := v3284) rfl rfl ?_)
              refine wp_of e261 c261_113 (xc_V (pc' := 116) (r := r0) (as := [vI v3284]) (st := []) (lm_9_58) rfl rfl (Nat.le_of_ble_eq_true rfl) w3286 g0 sh_42 (by decide) rfl (by decide) (s_209 w3286 g0 ⟨b3289.1, b3289.2⟩) (fun R3296 T3297 H3298 p3299 => ?_))
              obtain ⟨e3300, w3302, f3303, z3304, e3301, b3305⟩ := p3299
              subst e3300
              subst e3301
              have f3306 := f3291.tr f3303 rfl
              show wp _ _ 261 116 [(5, vI v3283), (4, vI v3284), (0, .ref r0), (1, vI a1), (2, vI a2)] [vI z3304] _ H3298 _
              have k3307 : wKI H3298 r0 = wKI H2772 r0 := ((wKI_fr w3286 g0 f3303 rfl).trans (wKI_fr w2776 g0 f3287 rfl))
              have h3308 : KNN T H3298 r0 e d := (KNN_fr w3286 g0 f3303 rfl (KNN_fr w2776 g0 f3287 rfl a2788))
              exact wp_ireturn e261 c261_116 rfl ⟨rfl, w3302, f3306, z3304, rfl, ⟨b3305.1, b3305.2⟩, ⟨by omega, h3308⟩⟩
            · refine wp_of e261 c261_56 (rw_aload_n (pc' := 57) (v := .ref r0) rfl rfl rfl ?_)
              refine wp_of e261 c261_57 (rw_aload_n (pc' := 58) (v := .ref r0) rfl rfl rfl ?_)
              refine wp_of e261 c261_58 (xg_R (pc' := 61) lf_9_42 w3286 g0 sh_42 (by decide) (by decide) ty_42_30 rfl rfl (fun r3309 q3310 g3311 => ?_))
              refine wp_of e261 c261_61 (rw_iload (pc' := 63) (z := v3283) rfl rfl ?_)
              refine wp_of e261 c261_63 (xa_I (so := 0) (pc' := 64) w3286 g3311 sh_52 (by decide) (ty_52 _) (b3288.1) (by omega) rfl (fun b3312 b3313 => ?_))
              have k3314 : wLM H3285 r0 = wLM H2772 r0 := (wLM_fr w2776 g0 f3287 rfl)
              have k3315 : H3285 r0 3 = H2750 r0 3 := ((f3287 r0 3 _ g0 rfl).trans (f2777 r0 3 _ g0 rfl))
              obtain ⟨r3316, q3317, g3318⟩ := (w3286.opt g0 (t' := 54) (n := 33) (j := 3) (p := 0) (q := 0) rfl (by decide) rfl).resolve_left (by omega)
              refine wp_of e261 c261_64 (xc_V (pc' := 67) (r := r0) (as := [vI (H3285 r3309 (v3283.toNat))]) (st := []) (lm_9_425) rfl rfl (Nat.le_of_ble_eq_true rfl) w3286 g0 sh_42 (by decide) rfl (by decide) (s_243 w3286 g0 ⟨b3312, Int.le_trans b3313 (by decide)⟩ q3317 g3318 (by omega)) (fun R3319 T3320 H3321 p3322 => ?_))
              obtain ⟨e3323, w3325, f3326, e3324⟩ := p3322
              subst e3323
              subst e3324
              have f3327 := f3291.tr f3326 rfl
              have f3328 := f3287.tr f3326 rfl
              show wp _ _ 261 67 [(5, vI v3283), (4, vI v3284), (0, .ref r0), (1, vI a1), (2, vI a2)] [] _ H3321 _
              refine wp_of e261 c261_67 (rw_aload_n (pc' := 68) (v := .ref r0) rfl rfl rfl ?_)
              refine wp_of e261 c261_68 (xg_R (pc' := 71) lf_9_30 w3325 g0 sh_42 (by decide) (by decide) ty_42_24 rfl rfl (fun r3329 q3330 g3331 => ?_))
              refine wp_of e261 c261_71 (rw_bipush (pc' := 73) (z := 40) rfl (by decide) ?_)
              refine wp_of e261 c261_73 (rw_iload_n (pc' := 74) (z := a1) rfl rfl ?_)
              refine wp_of e261 c261_74 (rw_imulw (pc' := 75) rfl ?_)
              obtain ⟨v3332, e3333⟩ : ∃ x : Int, x = wq_w (40 * a1) := ⟨_, rfl⟩
              rw [← e3333]
              have b3334 : -2147483648 ≤ v3332 ∧ v3332 ≤ 2147483647 := by
                rw [e3333]
                exact wI_w _
              have b3335 : (-2147483648 ≤ 40 * a1 ∧ 40 * a1 ≤ 2147483647) → v3332 = 40 * a1 := fun h => by rw [e3333]; exact wq_w_id h
              refine wp_of e261 c261_75 (rw_aload_n (pc' := 76) (v := .ref r0) rfl rfl rfl ?_)
              refine wp_of e261 c261_76 (xg_R (pc' := 79) lf_9_39 w3325 g0 sh_42 (by decide) (by decide) ty_42_27 rfl rfl (fun r3336 q3337 g3338 => ?_))
              refine wp_of e261 c261_79 (rw_iload_n (pc' := 80) (z := a1) rfl rfl ?_)
              refine wp_of e261 c261_80 (xa_I (so := 0) (pc' := 81) w3325 g3338 sh_51 (by decide) (ty_51 _) (by omega) (by omega) rfl (fun b3339 b3340 => ?_))
              refine wp_of e261 c261_81 (rw_iaddw (pc' := 82) rfl ?_)
              obtain ⟨v3341, e3342⟩ : ∃ x : Int, x = wq_w (v3332 + (H3321 r3336 (a1.toNat))) := ⟨_, rfl⟩
              rw [← e3342]
              have b3343 : -2147483648 ≤ v3341 ∧ v3341 ≤ 2147483647 := by
                rw [e3342]
                exact wI_w _
              have b3344 : (-2147483648 ≤ v3332 + (H3321 r3336 (a1.toNat)) ∧ v3332 + (H3321 r3336 (a1.toNat)) ≤ 2147483647) → v3341 = v3332 + (H3321 r3336 (a1.toNat)) := fun h => by rw [e3342]; exact wq_w_id h
              refine wp_of e261 c261_82 (xa_I (so := 0) (pc' := 83) w3325 g3331 sh_48 (by decide) (ty_48 _) (by omega) (by omega) rfl (fun b3345 b3346 => ?_))
              refine wp_of e261 c261_83 (rw_iload_n (pc' := 84) (z := a2) rfl rfl ?_)
              refine wp_of e261 c261_84 (xc_S (pc' := 87) (as := [vI (H3321 r3329 (v3341.toNat)), vI a2]) (st := []) (lm_9_346) rfl rfl (Nat.le_of_ble_eq_true rfl) rfl (by decide) (s_205 w3325 ⟨b3345, b3346⟩ ⟨i2.1, i2.2⟩) (fun R3347 T3348 H3349 p3350 => ?_))
              obtain ⟨e3351, e3353, z3354, e3352, b3355⟩ := p3350
              subst e3351
              subst e3352
              subst e3353
              show wp _ _ 261 87 [(5, vI v3283), (4, vI v3284), (0, .ref r0), (1, vI a1), (2, vI a2)] [vI z3354] _ H3321 _
              refine wp_of e261 c261_87 (rw_if_eq (p1 := 104) (p2 := 90) (by decide) rfl ⟨Int.le_trans (by decide) b3355.1, Int.le_trans b3355.2 (by decide)⟩ (fun c3356 => ?_) (fun c3356 => ?_))
              · refine wp_of e261 c261_104 (rw_iinc (pc' := 107) (z := v3283) (L' := [(5, vI (v3283 + 1)), (4, vI v3284), (0, .ref r0), (1, vI a1), (2, vI a2)]) rfl rfl rfl rfl ?_)
                refine wp_of e261 c261_107 (rw_goto (p1 := 47) (by decide) ?_)
                exact wp_lc (ks := [5, 4, 0, 1, 2]) (wl_c rfl (wl_c rfl (wl_c rfl (wl_c rfl (wl_c rfl wl_n))))) rfl (by decide) (ih3282 _ (by omega) (v3283 + 1) v3284 H3321 w3325 f3328 ⟨by omega, by omega⟩ ⟨b3289.1, b3289.2⟩ rfl)
              · refine wp_of e261 c261_90 (rw_iload (pc' := 92) (z := v3284) rfl rfl ?_)
                refine wp_of e261 c261_92 (rw_aload_n (pc' := 93) (v := .ref r0) rfl rfl rfl ?_)
                refine wp_of e261 c261_93 (rw_aload_n (pc' := 94) (v := .ref r0) rfl rfl rfl ?_)
                refine wp_of e261 c261_94 (xg_K (pc' := 97) lf_9_39 w3325 g0 sh_42 (by decide) (by decide) rfl q3337 rfl ?_)
                refine wp_of e261 c261_97 (rw_iload_n (pc' := 98) (z := a2) rfl rfl ?_)
                have k3357 : H3321 r0 3 = H3285 r0 3 := (f3326 r0 3 _ g0 rfl)
                have q3358 : H3321 r0 3 = (r3316 : Int) := k3357.trans q3317
                refine wp_of e261 c261_98 (xc_V (pc' := 101) (r := r0) (as := [.ref r3336, vI a2]) (st := [vI v3284]) (lm_9_455) rfl rfl (Nat.le_of_ble_eq_true rfl) w3325 g0 sh_42 (by decide) rfl (by decide) (s_262_m_lot w3325 g0 g3338 ⟨i2.1, i2.2⟩ q3358 g3318) (fun R3359 T3360 H3361 p3362 => ?_))
                obtain ⟨e3363, e3365, z3366, e3364, b3367⟩ := p3362
                subst e3363
                subst e3364
                subst e3365
                show wp _ _ 261 101 [(5, vI v3283), (4, vI v3284), (0, .ref r0), (1, vI a1), (2, vI a2)] [vI z3366, vI v3284] _ H3321 _
                refine wp_of e261 c261_101 (rw_ior (pc' := 102) rfl ?_)
                obtain ⟨v3368, e3369⟩ : ∃ x : Int, x = wq_or v3284 z3366 := ⟨_, rfl⟩
                rw [← e3369]
                have b3370 : -2147483648 ≤ v3368 ∧ v3368 ≤ 2147483647 := by
                  rw [e3369]
                  exact wI_or _ _
                refine wp_of e261 c261_102 (rw_istore (pc' := 104) (z := v3368) (L' := [(4, vI v3368), (5, vI v3283), (0, .ref r0), (1, vI a1), (2, vI a2)]) rfl rfl rfl ?_)
                refine wp_of e261 c261_104 (rw_iinc (pc' := 107) (z := v3283) (L' := [(5, vI (v3283 + 1)), (4, vI v3368), (0, .ref r0), (1, vI a1), (2, vI a2)]) rfl rfl rfl rfl ?_)
                refine wp_of e261 c261_107 (rw_goto (p1 := 47) (by decide) ?_)
                exact wp_lc (ks := [5, 4, 0, 1, 2]) (wl_c rfl (wl_c rfl (wl_c rfl (wl_c rfl (wl_c rfl wl_n))))) rfl (by decide) (ih3282 _ (by omega) (v3283 + 1) v3368 H3321 w3325 f3328 ⟨by omega, by omega⟩ ⟨b3370.1, b3370.2⟩ rfl)
        exact wp_lc (ks := [5, 4, 3, 0, 1, 2]) (wl_c rfl (wl_c rfl (wl_c rfl (wl_c rfl (wl_c rfl wl_n))))) rfl (by decide) (lp3280 _ 0 0 H2772 w2776 wfr.rf ⟨by decide, by decide⟩ ⟨by decide, by decide⟩ rfl)
      · exfalso
        omega
    · have f3371 := f2753.tr f2777 rfl
      show wp _ _ 261 30 [(0, .ref r0), (1, vI a1), (2, vI a2)] [vI z2778] _ H2772 _
      have k3372 : wLM H2772 r0 = wLM H r0 := ((wLM_fr w2752 g0 f2777 rfl).trans (wLM_fr hW g0 ((wfr.rf (l := [(42, 0)])).put' e2751 g0 rfl) rfl))
      refine wp_of e261 c261_30 (rw_istore_n (pc' := 31) (z := z2778) (L' := [(3, vI z2778), (0, .ref r0), (1, vI a1), (2, vI a2)]) rfl rfl rfl ?_)
      refine wp_of e261 c261_31 (rw_iload_n (pc' := 32) (z := z2778) rfl rfl ?_)
      refine wp_of e261 c261_32 (rw_if_le (p1 := 41) (p2 := 35) (by decide) rfl ⟨Int.le_trans (by decide) b2779.1, Int.le_trans b2779.2 (by decide)⟩ (fun c3373 => ?_) (fun c3373 => ?_))
      · exfalso
        omega
      · refine wp_of e261 c261_35 (rw_aload_n (pc' := 36) (v := .ref r0) rfl rfl rfl ?_)
        refine wp_of e261 c261_36 (rw_iload_n (pc' := 37) (z := z2778) rfl rfl ?_)
        refine wp_of e261 c261_37 (xc_V (pc' := 40) (r := r0) (as := [vI z2778]) (st := []) (lm_9_54) rfl rfl (Nat.le_of_ble_eq_true rfl) w2776 g0 sh_42 (by decide) rfl (by decide) (s_170 w2776 g0 ⟨Int.le_trans (by decide) b2779.1, Int.le_trans b2779.2 (by decide)⟩) (fun R3374 T3375 H3376 p3377 => ?_))
        obtain ⟨e3378, w3380, f3381, z3382, e3379, b3383⟩ := p3377
        subst e3378
        subst e3379
        have f3384 := f3371.tr f3381 rfl
        show wp _ _ 261 40 [(3, vI z2778), (0, .ref r0), (1, vI a1), (2, vI a2)] [vI z3382] _ H3376 _
        have k3385 : wKI H3376 r0 = wKI H2772 r0 := (wKI_fr w2776 g0 f3381 rfl)
        have h3386 : KNN T H3376 r0 e d := (KNN_fr w2776 g0 f3381 rfl a2796)
        exact wp_ireturn e261 c261_40 rfl ⟨rfl, w3380, f3384, z3382, rfl, ⟨b3383.1, b3383.2⟩, ⟨by omega, h3386⟩⟩
  · refine wp_of e261 c261_14 (rw_aload_n (pc' := 15) (v := .ref r0) rfl rfl rfl ?_)
    refine wp_of e261 c261_15 (rw_iload_n (pc' := 16) (z := a2) rfl rfl ?_)
    refine wp_of e261 c261_16 (xc_V (pc' := 19) (r := r0) (as := [vI a2]) (st := [.ref r0]) (lm_9_373) rfl rfl (Nat.le_of_ble_eq_true rfl) w2752 g0 sh_42 (by decide) rfl (by decide) (s_218 w2752 g0 ⟨i2.1, i2.2⟩) (fun R3387 T3388 H3389 p3390 => ?_))
    obtain ⟨e3391, e3393, z3395, e3392, b3396, p3394⟩ := p3390
    subst e3391
    subst e3392
    subst e3393
    show wp _ _ 261 19 [(0, .ref r0), (1, vI a1), (2, vI a2)] [vI z3395, .ref r0] _ H2750 _
    refine wp_of e261 c261_19 (rw_if_eq (p1 := 26) (p2 := 22) (by decide) rfl ⟨Int.le_trans (by decide) b3396.1, Int.le_trans b3396.2 (by decide)⟩ (fun c3397 => ?_) (fun c3397 => ?_))
    · refine wp_of e261 c261_26 (rw_iconst (pc' := 27) rfl ?_)
      have k3398 : H2750 r0 3 = H r0 3 := (wq_u_j e2751 rfl)
      have k3399 : wKI H2750 r0 = wKI H r0 := (wKI_fr hW g0 ((wfr.rf (l := [(42, 0)])).put' e2751 g0 rfl) rfl)
      have h3400 : RB T H2750 r0 e d := (RB_fr hW g0 ((wfr.rf (l := [(42, 0)])).put' e2751 g0 rfl) rfl hRB_r0)
      have h3401 : KNN T H2750 r0 e d := (KNN_fr hW g0 ((wfr.rf (l := [(42, 0)])).put' e2751 g0 rfl) rfl hKNN_r0)
      refine wp_of e261 c261_27 (xc_V (pc' := 30) (r := r0) (as := [vI 0]) (st := []) (lm_9_433) rfl rfl (Nat.le_of_ble_eq_true rfl) w2752 g0 sh_42 (by decide) rfl (by decide) (u_241 (e := e) (d := d) w2752 g0 ⟨by decide, by decide⟩ (by omega) (by omega) (by assumption) (by assumption) (by assumption) (by assumption) h3400 h3401) (fun R3402 T3403 H3404 p3405 => ?_))
      obtain ⟨e3406, w3408, f3409, z3410, e3407, b3411, p3412⟩ := p3405
      subst e3406
      subst e3407
      rcases p3412 with ⟨a3413, a3414, a3415, a3416, a3417, a3418, a3419, a3420, a3421⟩ | ⟨a3422, a3423, a3424, a3425, a3426, a3427, a3428⟩
      · have f3429 := f2753.tr f3409 rfl
        show wp _ _ 261 30 [(0, .ref r0), (1, vI a1), (2, vI a2)] [vI z3410] _ H3404 _
        have k3430 : wLM H3404 r0 = wLM H r0 := ((wLM_fr w2752 g0 f3409 rfl).trans (wLM_fr hW g0 ((wfr.rf (l := [(42, 0)])).put' e2751 g0 rfl) rfl))
        refine wp_of e261 c261_30 (rw_istore_n (pc' := 31) (z := z3410) (L' := [(3, vI z3410), (0, .ref r0), (1, vI a1), (2, vI a2)]) rfl rfl rfl ?_)
        refine wp_of e261 c261_31 (rw_iload_n (pc' := 32) (z := z3410) rfl rfl ?_)
        refine wp_of e261 c261_32 (rw_if_le (p1 := 41) (p2 := 35) (by decide) rfl ⟨Int.le_trans (by decide) b3411.1, Int.le_trans b3411.2 (by decide)⟩ (fun c3431 => ?_) (fun c3431 => ?_))
        · refine wp_of e261 c261_41 (rw_iconst (pc' := 42) rfl ?_)
          refine wp_of e261 c261_42 (rw_istore (pc' := 44) (z := 0) (L' := [(4, vI 0), (3, vI z3410), (0, .ref r0), (1, vI a1), (2, vI a2)]) rfl rfl rfl ?_)
          refine wp_of e261 c261_44 (rw_iconst (pc' := 45) rfl ?_)
          refine wp_of e261 c261_45 (rw_istore (pc' := 47) (z := 0) (L' := [(5, vI 0), (4, vI 0), (3, vI z3410), (0, .ref r0), (1, vI a1), (2, vI a2)]) rfl rfl rfl ?_)
          have lp3880 : ∀ (n3881 : Nat) (v3883 : Int) (v3884 : Int) (H3885 : wq_H), WT T H3885 → wfr [(51, 999)] T H3404 H3885 → (0 ≤ v3883 ∧ v3883 ≤ 20000) → ((-2147483648) ≤ v3884 ∧ v3884 ≤ 2147483647) → (20000 - v3883).toNat = n3881 → wp kt 7 261 47 [(5, vI v3883), (4, vI v3884), (0, .ref r0), (1, vI a1), (2, vI a2)] [] T H3885 (uq_261 r0 a1 a2 e d T H) := by
            intro n3881
            induction n3881 using Nat.strongRecOn with
            | _ n3881 ih3882 =>
              intro v3883 v3884 H3885 w3886 f3887 b3888 b3889 m3890
              have f3891 := f3429.tr f3887 rfl
              refine wp_of e261 c261_47 (rw_iload (pc' := 49) (z := v3883) rfl rfl ?_)
              refine wp_of e261 c261_49 (rw_aload_n (pc' := 50) (v := .ref r0) rfl rfl rfl ?_)
              have k3892 : H3885 r0 29 = H3404 r0 29 := (f3887 r0 29 _ g0 rfl)
              refine wp_of e261 c261_50 (xg_I (pc' := 53) lf_9_422 w3886 g0 sh_42 (by decide) (by decide) ty_42_29 rfl rfl (fun b3893 b3894 => ?_))
              refine wp_of e261 c261_53 (rw_icmp_ge (p1 := 110) (p2 := 56) (by decide) rfl ⟨Int.le_trans (by decide) b3888.1, Int.le_trans b3888.2 (by decide)⟩ ⟨Int.le_trans (by decide) b3893, Int.le_trans b3894 (by decide)⟩ (fun c3895 => ?_) (fun c3895 => ?_))
              · refine wp_of e261 c261_110 (rw_aload_n (pc' := 111) (v := .ref r0) rfl rfl rfl ?_)
                refine wp_of e261 c261_111 (rw_iload (pc' := 113) (z := v3884) rfl rfl ?_)
                refine wp_of e261 c261_113 (xc_V (pc' := 116) (r := r0) (as := [vI v3884]) (st := []) (lm_9_58) rfl rfl (Nat.le_of_ble_eq_true rfl) w3886 g0 sh_42 (by decide) rfl (by decide) (s_209 w3886 g0 ⟨b3889.1, b3889.2⟩) (fun R3896 T3897 H3898 p3899 => ?_))
                obtain ⟨e3900, w3902, f3903, z3904, e3901, b3905⟩ := p3899
                subst e3900
                subst e3901
                have f3906 := f3891.tr f3903 rfl
                show wp _ _ 261 116 [(5, vI v3883), (4, vI v3884), (0, .ref r0), (1, vI a1), (2, vI a2)] [vI z3904] _ H3898 _
                have k3907 : wKI H3898 r0 = wKI H3404 r0 := ((wKI_fr w3886 g0 f3903 rfl).trans (wKI_fr w3408 g0 f3887 rfl))
                have h3908 : KNN T H3898 r0 e d := (KNN_fr w3886 g0 f3903 rfl (KNN_fr w3408 g0 f3887 rfl a3420))
                exact wp_ireturn e261 c261_116 rfl ⟨rfl, w3902, f3906, z3904, rfl, ⟨b3905.1, b3905.2⟩, ⟨by omega, h3908⟩⟩
              · refine wp_of e261 c261_56 (rw_aload_n (pc' := 57) (v := .ref r0) rfl rfl rfl ?_)
                refine wp_of e261 c261_57 (rw_aload_n (pc' := 58) (v := .ref r0) rfl rfl rfl ?_)
                refine wp_of e261 c261_58 (xg_R (pc' := 61) lf_9_42 w3886 g0 sh_42 (by decide) (by decide) ty_42_30 rfl rfl (fun r3909 q3910 g3911 => ?_))
                refine wp_of e261 c261_61 (rw_iload (pc' := 63) (z := v3883) rfl rfl ?_)
                refine wp_of e261 c261_63 (xa_I (so := 0) (pc' := 64) w3886 g3911 sh_52 (by decide) (ty_52 _) (b3888.1) (by omega) rfl (fun b3912 b3913 => ?_))
                have k3914 : wLM H3885 r0 = wLM H3404 r0 := (wLM_fr w3408 g0 f3887 rfl)
                have k3915 : H3885 r0 3 = H2750 r0 3 := ((f3887 r0 3 _ g0 rfl).trans (f3409 r0 3 _ g0 rfl))
                obtain ⟨r3916, q3917, g3918⟩ := (w3886.opt g0 (t' := 54) (n := 33) (j := 3) (p := 0) (q := 0) rfl (by decide) rfl).resolve_left (by omega)
                refine wp_of e261 c261_64 (xc_V (pc' := 67) (r := r0) (as := [vI (H3885 r3909 (v3883.toNat))]) (st := []) (lm_9_425) rfl rfl (Nat.le_of_ble_eq_true rfl) w3886 g0 sh_42 (by decide) rfl (by decide) (s_243 w3886 g0 ⟨b3912, Int.le_trans b3913 (by decide)⟩ q3917 g3918 (by omega)) (fun R3919 T3920 H3921 p3922 => ?_))
                obtain ⟨e3923, w3925, f3926, e3924⟩ := p3922
                subst e3923
                subst e3924
                have f3927 := f3891.tr f3926 rfl
                have f3928 := f3887.tr f3926 rfl
                show wp _ _ 261 67 [(5, vI v3883), (4, vI v3884), (0, .ref r0), (1, vI a1), (2, vI a2)] [] _ H3921 _
                refine wp_of e261 c261_67 (rw_aload_n (pc' := 68) (v := .ref r0) rfl rfl rfl ?_)
                refine wp_of e261 c261_68 (xg_R (pc' := 71) lf_9_30 w3925 g0 sh_42 (by decide) (by decide) ty_42_24 rfl rfl (fun r3929 q3930 g3931 => ?_))
                refine wp_of e261 c261_71 (rw_bipush (pc' := 73) (z := 40) rfl (by decide) ?_)
                refine wp_of e261 c261_73 (rw_iload_n (pc' := 74) (z := a1) rfl rfl ?_)
                refine wp_of e261 c261_74 (rw_imul (pc' := 75) rfl ?_)
                refine wp_of e261 c261_75 (rw_aload_n (pc' := 76) (v := .ref r0) rfl rfl rfl ?_)
                refine wp_of e261 c261_76 (xg_R (pc' := 79) lf_9_39 w3925 g0 sh_42 (by decide) (by decide) ty_42_27 rfl rfl (fun r3932 q3933 g3934 => ?_))
                refine wp_of e261 c261_79 (rw_iload_n (pc' := 80) (z := a1) rfl rfl ?_)
                refine wp_of e261 c261_80 (xa_I (so := 0) (pc' := 81) w3925 g3934 sh_51 (by decide) (ty_51 _) (by omega) (by omega) rfl (fun b3935 b3936 => ?_))
                refine wp_of e261 c261_81 (rw_iadd (pc' := 82) rfl ?_)
                refine wp_of e261 c261_82 (xa_I (so := 0) (pc' := 83) w3925 g3931 sh_48 (by decide) (ty_48 _) (by omega) (by omega) rfl (fun b3937 b3938 => ?_))
                refine wp_of e261 c261_83 (rw_iload_n (pc' := 84) (z := a2) rfl rfl ?_)
                refine wp_of e261 c261_84 (xc_S (pc' := 87) (as := [vI (H3921 r3929 (((40 * a1) + (H3921 r3932 (a1.toNat))).toNat)), vI a2]) (st := []) (lm_9_346) rfl rfl (Nat.le_of_ble_eq_true rfl) rfl (by decide) (s_205 w3925 ⟨b3937, b3938⟩ ⟨i2.1, i2.2⟩) (fun R3939 T3940 H3941 p3942 => ?_))
                obtain ⟨e3943, e3945, z3946, e3944, b3947⟩ := p3942
                subst e3943
                subst e3944
                subst e3945
                show wp _ _ 261 87 [(5, vI v3883), (4, vI v3884), (0, .ref r0), (1, vI a1), (2, vI a2)] [vI z3946] _ H3921 _
                refine wp_of e261 c261_87 (rw_if_eq (p1 := 104) (p2 := 90) (by decide) rfl ⟨Int.le_trans (by decide) b3947.1, Int.le_trans b3947.2 (by decide)⟩ (fun c3948 => ?_) (fun c3948 => ?_))
                · refine wp_of e261 c261_104 (rw_iinc (pc' := 107) (z := v3883) (L' := [(5, vI (v3883 + 1)), (4, vI v3884), (0, .ref r0), (1, vI a1), (2, vI a2)]) rfl rfl rfl rfl ?_)
                  refine wp_of e261 c261_107 (rw_goto (p1 := 47) (by decide) ?_)
                  exact wp_lc (ks := [5, 4, 0, 1, 2]) (wl_c rfl (wl_c rfl (wl_c rfl (wl_c rfl (wl_c rfl wl_n))))) rfl (by decide) (ih3882 _ (by omega) (v3883 + 1) v3884 H3921 w3925 f3928 ⟨by omega, by omega⟩ ⟨b3889.1, b3889.2⟩ rfl)
                · refine wp_of e261 c261_90 (rw_iload (pc' := 92) (z := v3884) rfl rfl ?_)
                  refine wp_of e261 c261_92 (rw_aload_n (pc' := 93) (v := .ref r0) rfl rfl rfl ?_)
                  refine wp_of e261 c261_93 (rw_aload_n (pc' := 94) (v := .ref r0) rfl rfl rfl ?_)
                  refine wp_of e261 c261_94 (xg_K (pc' := 97) lf_9_39 w3925 g0 sh_42 (by decide) (by decide) rfl q3933 rfl ?_)
                  refine wp_of e261 c261_97 (rw_iload_n (pc' := 98) (z := a2) rfl rfl ?_)
                  have k3949 : H3921 r0 3 = H3885 r0 3 := (f3926 r0 3 _ g0 rfl)
                  have q3950 : H3921 r0 3 = (r3916 : Int) := k3949.trans q3917
                  refine wp_of e261 c261_98 (xc_V (pc' := 101) (r := r0) (as := [.ref r3932, vI a2]) (st := [vI v3884]) (lm_9_455) rfl rfl (Nat.le_of_ble_eq_true rfl) w3925 g0 sh_42 (by decide) rfl (by decide) (s_262_m_lot w3925 g0 g3934 ⟨i2.1, i2.2⟩ q3950 g3918) (fun R3951 T3952 H3953 p3954 => ?_))
                  obtain ⟨e3955, e3957, z3958, e3956, b3959⟩ := p3954
                  subst e3955
                  subst e3956
                  subst e3957
                  show wp _ _ 261 101 [(5, vI v3883), (4, vI v3884), (0, .ref r0), (1, vI a1), (2, vI a2)] [vI z3958, vI v3884] _ H3921 _
                  refine wp_of e261 c261_101 (rw_ior (pc' := 102) rfl ?_)
                  obtain ⟨v3960, e3961⟩ : ∃ x : Int, x = wq_or v3884 z3958 := ⟨_, rfl⟩
                  rw [← e3961]
                  have b3962 : -2147483648 ≤ v3960 ∧ v3960 ≤ 2147483647 := by
                    rw [e3961]
                    exact wI_or _ _
                  refine wp_of e261 c261_102 (rw_istore (pc' := 104) (z := v3960) (L' := [(4, vI v3960), (5, vI v3883), (0, .ref r0), (1, vI a1), (2, vI a2)]) rfl rfl rfl ?_)
                  refine wp_of e261 c261_104 (rw_iinc (pc' := 107) (z := v3883) (L' := [(5, vI (v3883 + 1)), (4, vI v3960), (0, .ref r0), (1, vI a1), (2, vI a2)]) rfl rfl rfl rfl ?_)
                  refine wp_of e261 c261_107 (rw_goto (p1 := 47) (by decide) ?_)
                  exact wp_lc (ks := [5, 4, 0, 1, 2]) (wl_c rfl (wl_c rfl (wl_c rfl (wl_c rfl (wl_c rfl wl_n))))) rfl (by decide) (ih3882 _ (by omega) (v3883 + 1) v3960 H3921 w3925 f3928 ⟨by omega, by omega⟩ ⟨b3962.1, b3962.2⟩ rfl)
          exact wp_lc (ks := [5, 4, 3, 0, 1, 2]) (wl_c rfl (wl_c rfl (wl_c rfl (wl_c rfl (wl_c rfl wl_n))))) rfl (by decide) (lp3880 _ 0 0 H3404 w3408 wfr.rf ⟨by decide, by decide⟩ ⟨by decide, by decide⟩ rfl)
        · exfalso
          omega
      · have f3963 := f2753.tr f3409 rfl
        show wp _ _ 261 30 [(0, .ref r0), (1, vI a1), (2, vI a2)] [vI z3410] _ H3404 _
        have k3964 : wLM H3404 r0 = wLM H r0 := ((wLM_fr w2752 g0 f3409 rfl).trans (wLM_fr hW g0 ((wfr.rf (l := [(42, 0)])).put' e2751 g0 rfl) rfl))
        refine wp_of e261 c261_30 (rw_istore_n (pc' := 31) (z := z3410) (L' := [(3, vI z3410), (0, .ref r0), (1, vI a1), (2, vI a2)]) rfl rfl rfl ?_)
        refine wp_of e261 c261_31 (rw_iload_n (pc' := 32) (z := z3410) rfl rfl ?_)
        refine wp_of e261 c261_32 (rw_if_le (p1 := 41) (p2 := 35) (by decide) rfl ⟨Int.le_trans (by decide) b3411.1, Int.le_trans b3411.2 (by decide)⟩ (fun c3965 => ?_) (fun c3965 => ?_))
        · exfalso
          omega
        · refine wp_of e261 c261_35 (rw_aload_n (pc' := 36) (v := .ref r0) rfl rfl rfl ?_)
          refine wp_of e261 c261_36 (rw_iload_n (pc' := 37) (z := z3410) rfl rfl ?_)
          refine wp_of e261 c261_37 (xc_V (pc' := 40) (r := r0) (as := [vI z3410]) (st := []) (lm_9_54) rfl rfl (Nat.le_of_ble_eq_true rfl) w3408 g0 sh_42 (by decide) rfl (by decide) (s_170 w3408 g0 ⟨Int.le_trans (by decide) b3411.1, Int.le_trans b3411.2 (by decide)⟩) (fun R3966 T3967 H3968 p3969 => ?_))
          obtain ⟨e3970, w3972, f3973, z3974, e3971, b3975⟩ := p3969
          subst e3970
          subst e3971
          have f3976 := f3963.tr f3973 rfl
          show wp _ _ 261 40 [(3, vI z3410), (0, .ref r0), (1, vI a1), (2, vI a2)] [vI z3974] _ H3968 _
          have k3977 : wKI H3968 r0 = wKI H3404 r0 := (wKI_fr w3408 g0 f3973 rfl)
          have h3978 : KNN T H3968 r0 e d := (KNN_fr w3408 g0 f3973 rfl a3428)
          exact wp_ireturn e261 c261_40 rfl ⟨rfl, w3972, f3976, z3974, rfl, ⟨b3975.1, b3975.2⟩, ⟨by omega, h3978⟩⟩
    · refine wp_of e261 c261_22 (rw_iconst (pc' := 23) rfl ?_)
      refine wp_of e261 c261_23 (rw_goto (p1 := 27) (by decide) ?_)
      have k3979 : H2750 r0 3 = H r0 3 := (wq_u_j e2751 rfl)
      have k3980 : wKI H2750 r0 = wKI H r0 := (wKI_fr hW g0 ((wfr.rf (l := [(42, 0)])).put' e2751 g0 rfl) rfl)
      have h3981 : RB T H2750 r0 e d := (RB_fr hW g0 ((wfr.rf (l := [(42, 0)])).put' e2751 g0 rfl) rfl hRB_r0)
      have h3982 : KNN T H2750 r0 e d := (KNN_fr hW g0 ((wfr.rf (l := [(42, 0)])).put' e2751 g0 rfl) rfl hKNN_r0)
      refine wp_of e261 c261_27 (xc_V (pc' := 30) (r := r0) (as := [vI 1]) (st := []) (lm_9_433) rfl rfl (Nat.le_of_ble_eq_true rfl) w2752 g0 sh_42 (by decide) rfl (by decide) (u_241 (e := e) (d := d) w2752 g0 ⟨by decide, by decide⟩ (by omega) (by omega) (by assumption) (by assumption) (by assumption) (by assumption) h3981 h3982) (fun R3983 T3984 H3985 p3986 => ?_))
      obtain ⟨e3987, w3989, f3990, z3991, e3988, b3992, p3993⟩ := p3986
      subst e3987
      subst e3988
      rcases p3993 with ⟨a3994, a3995, a3996, a3997, a3998, a3999, a4000, a4001, a4002⟩ | ⟨a4003, a4004, a4005, a4006, a4007, a4008, a4009⟩
      · have f4010 := f2753.tr f3990 rfl
        show wp _ _ 261 30 [(0, .ref r0), (1, vI a1), (2, vI a2)] [vI z3991] _ H3985 _
        have k4011 : wLM H3985 r0 = wLM H r0 := ((wLM_fr w2752 g0 f3990 rfl).trans (wLM_fr hW g0 ((wfr.rf (l := [(42, 0)])).put' e2751 g0 rfl) rfl))
        refine wp_of e261 c261_30 (rw_istore_n (pc' := 31) (z := z3991) (L' := [(3, vI z3991), (0, .ref r0), (1, vI a1), (2, vI a2)]) rfl rfl rfl ?_)
        refine wp_of e261 c261_31 (rw_iload_n (pc' := 32) (z := z3991) rfl rfl ?_)
        refine wp_of e261 c261_32 (rw_if_le (p1 := 41) (p2 := 35) (by decide) rfl ⟨Int.le_trans (by decide) b3992.1, Int.le_trans b3992.2 (by decide)⟩ (fun c4012 => ?_) (fun c4012 => ?_))
        · refine wp_of e261 c261_41 (rw_iconst (pc' := 42) rfl ?_)
          refine wp_of e261 c261_42 (rw_istore (pc' := 44) (z := 0) (L' := [(4, vI 0), (3, vI z3991), (0, .ref r0), (1, vI a1), (2, vI a2)]) rfl rfl rfl ?_)
          refine wp_of e261 c261_44 (rw_iconst (pc' := 45) rfl ?_)
          refine wp_of e261 c261_45 (rw_istore (pc' := 47) (z := 0) (L' := [(5, vI 0), (4, vI 0), (3, vI z3991), (0, .ref r0), (1, vI a1), (2, vI a2)]) rfl rfl rfl ?_)
          have lp4461 : ∀ (n4462 : Nat) (v4464 : Int) (v4465 : Int) (H4466 : wq_H), WT T H4466 → wfr [(51, 999)] T H3985 H4466 → (0 ≤ v4464 ∧ v4464 ≤ 20000) → ((-2147483648) ≤ v4465 ∧ v4465 ≤ 2147483647) → (20000 - v4464).toNat = n4462 → wp kt 7 261 47 [(5, vI v4464), (4, vI v4465), (0, .ref r0), (1, vI a1), (2, vI a2)] [] T H4466 (uq_261 r0 a1 a2 e d T H) := by
            intro n4462
            induction n4462 using Nat.strongRecOn with
            | _ n4462 ih4463 =>
              intro v4464 v4465 H4466 w4467 f4468 b4469 b4470 m4471
              have f4472 := f4010.tr f4468 rfl
              refine wp_of e261 c261_47 (rw_iload (pc' := 49) (z := v4464) rfl rfl ?_)
              refine wp_of e261 c261_49 (rw_aload_n (pc' := 50) (v := .ref r0) rfl rfl rfl ?_)
              have k4473 : H4466 r0 29 = H3985 r0 29 := (f4468 r0 29 _ g0 rfl)
              refine wp_of e261 c261_50 (xg_I (pc' := 53) lf_9_422 w4467 g0 sh_42 (by decide) (by decide) ty_42_29 rfl rfl (fun b4474 b4475 => ?_))
              refine wp_of e261 c261_53 (rw_icmp_ge (p1 := 110) (p2 := 56) (by decide) rfl ⟨Int.le_trans (by decide) b4469.1, Int.le_trans b4469.2 (by decide)⟩ ⟨Int.le_trans (by decide) b4474, Int.le_trans b4475 (by decide)⟩ (fun c4476 => ?_) (fun c4476 => ?_))
              · refine wp_of e261 c261_110 (rw_aload_n (pc' := 111) (v := .ref r0) rfl rfl rfl ?_)
                refine wp_of e261 c261_111 (rw_iload (pc' := 113) (z := v4465) rfl rfl ?_)
                refine wp_of e261 c261_113 (xc_V (pc' := 116) (r := r0) (as := [vI v4465]) (st := []) (lm_9_58) rfl rfl (Nat.le_of_ble_eq_true rfl) w4467 g0 sh_42 (by decide) rfl (by decide) (s_209 w4467 g0 ⟨b4470.1, b4470.2⟩) (fun R4477 T4478 H4479 p4480 => ?_))
                obtain ⟨e4481, w4483, f4484, z4485, e4482, b4486⟩ := p4480
                subst e4481
                subst e4482
                have f4487 := f4472.tr f4484 rfl
                show wp _ _ 261 116 [(5, vI v4464), (4, vI v4465), (0, .ref r0), (1, vI a1), (2, vI a2)] [vI z4485] _ H4479 _
                have k4488 : wKI H4479 r0 = wKI H3985 r0 := ((wKI_fr w4467 g0 f4484 rfl).trans (wKI_fr w3989 g0 f4468 rfl))
                have h4489 : KNN T H4479 r0 e d := (KNN_fr w4467 g0 f4484 rfl (KNN_fr w3989 g0 f4468 rfl a4001))
                exact wp_ireturn e261 c261_116 rfl ⟨rfl, w4483, f4487, z4485, rfl, ⟨b4486.1, b4486.2⟩, ⟨by omega, h4489⟩⟩
              · refine wp_of e261 c261_56 (rw_aload_n (pc' := 57) (v := .ref r0) rfl rfl rfl ?_)
                refine wp_of e261 c261_57 (rw_aload_n (pc' := 58) (v := .ref r0) rfl rfl rfl ?_)
                refine wp_of e261 c261_58 (xg_R (pc' := 61) lf_9_42 w4467 g0 sh_42 (by decide) (by decide) ty_42_30 rfl rfl (fun r4490 q4491 g4492 => ?_))
                refine wp_of e261 c261_61 (rw_iload (pc' := 63) (z := v4464) rfl rfl ?_)
                refine wp_of e261 c261_63 (xa_I (so := 0) (pc' := 64) w4467 g4492 sh_52 (by decide) (ty_52 _) (b4469.1) (by omega) rfl (fun b4493 b4494 => ?_))
                have k4495 : wLM H4466 r0 = wLM H3985 r0 := (wLM_fr w3989 g0 f4468 rfl)
                have k4496 : H4466 r0 3 = H2750 r0 3 := ((f4468 r0 3 _ g0 rfl).trans (f3990 r0 3 _ g0 rfl))
                obtain ⟨r4497, q4498, g4499⟩ := (w4467.opt g0 (t' := 54) (n := 33) (j := 3) (p := 0) (q := 0) rfl (by decide) rfl).resolve_left (by omega)
                refine wp_of e261 c261_64 (xc_V (pc' := 67) (r := r0) (as := [vI (H4466 r4490 (v4464.toNat))]) (st := []) (lm_9_425) rfl rfl (Nat.le_of_ble_eq_true rfl) w4467 g0 sh_42 (by decide) rfl (by decide) (s_243 w4467 g0 ⟨b4493, Int.le_trans b4494 (by decide)⟩ q4498 g4499 (by omega)) (fun R4500 T4501 H4502 p4503 => ?_))
                obtain ⟨e4504, w4506, f4507, e4505⟩ := p4503
                subst e4504
                subst e4505
                have f4508 := f4472.tr f4507 rfl
                have f4509 := f4468.tr f4507 rfl
                show wp _ _ 261 67 [(5, vI v4464), (4, vI v4465), (0, .ref r0), (1, vI a1), (2, vI a2)] [] _ H4502 _
                refine wp_of e261 c261_67 (rw_aload_n (pc' := 68) (v := .ref r0) rfl rfl rfl ?_)
                refine wp_of e261 c261_68 (xg_R (pc' := 71) lf_9_30 w4506 g0 sh_42 (by decide) (by decide) ty_42_24 rfl rfl (fun r4510 q4511 g4512 => ?_))
                refine wp_of e261 c261_71 (rw_bipush (pc' := 73) (z := 40) rfl (by decide) ?_)
                refine wp_of e261 c261_73 (rw_iload_n (pc' := 74) (z := a1) rfl rfl ?_)
                refine wp_of e261 c261_74 (rw_imul (pc' := 75) rfl ?_)
                refine wp_of e261 c261_75 (rw_aload_n (pc' := 76) (v := .ref r0) rfl rfl rfl ?_)
                refine wp_of e261 c261_76 (xg_R (pc' := 79) lf_9_39 w4506 g0 sh_42 (by decide) (by decide) ty_42_27 rfl rfl (fun r4513 q4514 g4515 => ?_))
                refine wp_of e261 c261_79 (rw_iload_n (pc' := 80) (z := a1) rfl rfl ?_)
                refine wp_of e261 c261_80 (xa_I (so := 0) (pc' := 81) w4506 g4515 sh_51 (by decide) (ty_51 _) (by omega) (by omega) rfl (fun b4516 b4517 => ?_))
                refine wp_of e261 c261_81 (rw_iadd (pc' := 82) rfl ?_)
                refine wp_of e261 c261_82 (xa_I (so := 0) (pc' := 83) w4506 g4512 sh_48 (by decide) (ty_48 _) (by omega) (by omega) rfl (fun b4518 b4519 => ?_))
                refine wp_of e261 c261_83 (rw_iload_n (pc' := 84) (z := a2) rfl rfl ?_)
                refine wp_of e261 c261_84 (xc_S (pc' := 87) (as := [vI (H4502 r4510 (((40 * a1) + (H4502 r4513 (a1.toNat))).toNat)), vI a2]) (st := []) (lm_9_346) rfl rfl (Nat.le_of_ble_eq_true rfl) rfl (by decide) (s_205 w4506 ⟨b4518, b4519⟩ ⟨i2.1, i2.2⟩) (fun R4520 T4521 H4522 p4523 => ?_))
                obtain ⟨e4524, e4526, z4527, e4525, b4528⟩ := p4523
                subst e4524
                subst e4525
                subst e4526
                show wp _ _ 261 87 [(5, vI v4464), (4, vI v4465), (0, .ref r0), (1, vI a1), (2, vI a2)] [vI z4527] _ H4502 _
                refine wp_of e261 c261_87 (rw_if_eq (p1 := 104) (p2 := 90) (by decide) rfl ⟨Int.le_trans (by decide) b4528.1, Int.le_trans b4528.2 (by decide)⟩ (fun c4529 => ?_) (fun c4529 => ?_))
                · refine wp_of e261 c261_104 (rw_iinc (pc' := 107) (z := v4464) (L' := [(5, vI (v4464 + 1)), (4, vI v4465), (0, .ref r0), (1, vI a1), (2, vI a2)]) rfl rfl rfl rfl ?_)
                  refine wp_of e261 c261_107 (rw_goto (p1 := 47) (by decide) ?_)
                  exact wp_lc (ks := [5, 4, 0, 1, 2]) (wl_c rfl (wl_c rfl (wl_c rfl (wl_c rfl (wl_c rfl wl_n))))) rfl (by decide) (ih4463 _ (by omega) (v4464 + 1) v4465 H4502 w4506 f4509 ⟨by omega, by omega⟩ ⟨b4470.1, b4470.2⟩ rfl)
                · refine wp_of e261 c261_90 (rw_iload (pc' := 92) (z := v4465) rfl rfl ?_)
                  refine wp_of e261 c261_92 (rw_aload_n (pc' := 93) (v := .ref r0) rfl rfl rfl ?_)
                  refine wp_of e261 c261_93 (rw_aload_n (pc' := 94) (v := .ref r0) rfl rfl rfl ?_)
                  refine wp_of e261 c261_94 (xg_K (pc' := 97) lf_9_39 w4506 g0 sh_42 (by decide) (by decide) rfl q4514 rfl ?_)
                  refine wp_of e261 c261_97 (rw_iload_n (pc' := 98) (z := a2) rfl rfl ?_)
                  have k4530 : H4502 r0 3 = H4466 r0 3 := (f4507 r0 3 _ g0 rfl)
                  have q4531 : H4502 r0 3 = (r4497 : Int) := k4530.trans q4498
                  refine wp_of e261 c261_98 (xc_V (pc' := 101) (r := r0) (as := [.ref r4513, vI a2]) (st := [vI v4465]) (lm_9_455) rfl rfl (Nat.le_of_ble_eq_true rfl) w4506 g0 sh_42 (by decide) rfl (by decide) (s_262_m_lot w4506 g0 g4515 ⟨i2.1, i2.2⟩ q4531 g4499) (fun R4532 T4533 H4534 p4535 => ?_))
                  obtain ⟨e4536, e4538, z4539, e4537, b4540⟩ := p4535
                  subst e4536
                  subst e4537
                  subst e4538
                  show wp _ _ 261 101 [(5, vI v4464), (4, vI v4465), (0, .ref r0), (1, vI a1), (2, vI a2)] [vI z4539, vI v4465] _ H4502 _
                  refine wp_of e261 c261_101 (rw_ior (pc' := 102) rfl ?_)
                  obtain ⟨v4541, e4542⟩ : ∃ x : Int, x = wq_or v4465 z4539 := ⟨_, rfl⟩
                  rw [← e4542]
                  have b4543 : -2147483648 ≤ v4541 ∧ v4541 ≤ 2147483647 := by
                    rw [e4542]
                    exact wI_or _ _
                  refine wp_of e261 c261_102 (rw_istore (pc' := 104) (z := v4541) (L' := [(4, vI v4541), (5, vI v4464), (0, .ref r0), (1, vI a1), (2, vI a2)]) rfl rfl rfl ?_)
                  refine wp_of e261 c261_104 (rw_iinc (pc' := 107) (z := v4464) (L' := [(5, vI (v4464 + 1)), (4, vI v4541), (0, .ref r0), (1, vI a1), (2, vI a2)]) rfl rfl rfl rfl ?_)
                  refine wp_of e261 c261_107 (rw_goto (p1 := 47) (by decide) ?_)
                  exact wp_lc (ks := [5, 4, 0, 1, 2]) (wl_c rfl (wl_c rfl (wl_c rfl (wl_c rfl (wl_c rfl wl_n))))) rfl (by decide) (ih4463 _ (by omega) (v4464 + 1) v4541 H4502 w4506 f4509 ⟨by omega, by omega⟩ ⟨b4543.1, b4543.2⟩ rfl)
          exact wp_lc (ks := [5, 4, 3, 0, 1, 2]) (wl_c rfl (wl_c rfl (wl_c rfl (wl_c rfl (wl_c rfl wl_n))))) rfl (by decide) (lp4461 _ 0 0 H3985 w3989 wfr.rf ⟨by decide, by decide⟩ ⟨by decide, by decide⟩ rfl)
        · exfalso
          omega
      · have f4544 := f2753.tr f3990 rfl
        show wp _ _ 261 30 [(0, .ref r0), (1, vI a1), (2, vI a2)] [vI z3991] _ H3985 _
        have k4545 : wLM H3985 r0 = wLM H r0 := ((wLM_fr w2752 g0 f3990 rfl).trans (wLM_fr hW g0 ((wfr.rf (l := [(42, 0)])).put' e2751 g0 rfl) rfl))
        refine wp_of e261 c261_30 (rw_istore_n (pc' := 31) (z := z3991) (L' := [(3, vI z3991), (0, .ref r0), (1, vI a1), (2, vI a2)]) rfl rfl rfl ?_)
        refine wp_of e261 c261_31 (rw_iload_n (pc' := 32) (z := z3991) rfl rfl ?_)
        refine wp_of e261 c261_32 (rw_if_le (p1 := 41) (p2 := 35) (by decide) rfl ⟨Int.le_trans (by decide) b3992.1, Int.le_trans b3992.2 (by decide)⟩ (fun c4546 => ?_) (fun c4546 => ?_))
        · exfalso
          omega
        · refine wp_of e261 c261_35 (rw_aload_n (pc' := 36) (v := .ref r0) rfl rfl rfl ?_)
          refine wp_of e261 c261_36 (rw_iload_n (pc' := 37) (z := z3991) rfl rfl ?_)
          refine wp_of e261 c261_37 (xc_V (pc' := 40) (r := r0) (as := [vI z3991]) (st := []) (lm_9_54) rfl rfl (Nat.le_of_ble_eq_true rfl) w3989 g0 sh_42 (by decide) rfl (by decide) (s_170 w3989 g0 ⟨Int.le_trans (by decide) b3992.1, Int.le_trans b3992.2 (by decide)⟩) (fun R4547 T4548 H4549 p4550 => ?_))
          obtain ⟨e4551, w4553, f4554, z4555, e4552, b4556⟩ := p4550
          subst e4551
          subst e4552
          have f4557 := f4544.tr f4554 rfl
          show wp _ _ 261 40 [(3, vI z3991), (0, .ref r0), (1, vI a1), (2, vI a2)] [vI z4555] _ H4549 _
          have k4558 : wKI H4549 r0 = wKI H3985 r0 := (wKI_fr w3989 g0 f4554 rfl)
          have h4559 : KNN T H4549 r0 e d := (KNN_fr w3989 g0 f4554 rfl a4009)
          exact wp_ireturn e261 c261_40 rfl ⟨rfl, w4553, f4557, z4555, rfl, ⟨b4556.1, b4556.2⟩, ⟨by omega, h4559⟩⟩
/-! StrikeAwakeModel.bed(IZ)I  -/
abbrev uq_263 (r0 : Nat) (a1 : Int) (a2 : Int) (e : xD) (d : xD) (T : wq_T) (H : wq_H) : Option Value → wq_T → wq_H → Prop := fun r T' H' => T = T' ∧ WT T H' ∧ wfr [(42, 0), (42, 1), (42, 2), (42, 28), (42, 29), (51, 999), (52, 999)] T H H' ∧ ∃ z : Int, some (vI z) = r ∧ ((-2147483648) ≤ z ∧ z ≤ 2147483647) ∧ (((wKI H' r0 = 1) ∧ KNN T H' r0 e d))
set_option maxHeartbeats 4000000 in
theorem u_263 {kt : Nat → Option mc_E} {T : wq_T} {H : wq_H} {r0 : Nat} {a1 : Int} {a2 : Int} {e : xD} {d : xD} (hW : WT T H) (g0 : T.2.2.2 r0 = some 42) (i1 : (-2147483648) ≤ a1 ∧ a1 ≤ 2147483647) (i2 : 0 ≤ a2 ∧ a2 ≤ 1) (p0 : wKI H r0 = 1) (p1 : XW d) (p2 : ∀ h : Nat, d 0 0 ≤ (h : Int) → h < 24 → e 13 h = 0) (p3 : XN d) (p4 : ∀ h : Nat, h < 24 → 0 ≤ e 13 h ∧ e 13 h ≤ 100) (hRB_r0 : RB T H r0 e d) (hKNN_r0 : KNN T H r0 e d) : wpc kt 9 263 [.ref r0, vI a1, vI a2] T H (uq_263 r0 a1 a2 e d T H) := by
  refine wp_enter e263 (Nat.le_of_ble_eq_true rfl) rfl ?_
  have f0 : wfr [(42, 0), (42, 1), (42, 2), (42, 28), (42, 29), (51, 999), (52, 999)] T H H := wfr.rf
  show wp _ _ 263 0 [(0, .ref r0), (1, vI a1), (2, vI a2)] [] _ H _
  have _b := RB_b hW hRB_r0
  have _nu := RB_n3 hRB_r0
  have _lm := RB_lm hRB_r0
  refine wp_of e263 c263_0 (rw_aload_n (pc' := 1) (v := .ref r0) rfl rfl rfl ?_)
  refine wp_of e263 c263_1 (rw_iconst (pc' := 2) rfl ?_)
  refine wp_of e263 c263_2 (xp_I (pc' := 5) lf_9_48 hW g0 sh_42 (by decide) (by decide) ty_42_0 rfl rfl (by decide) (by decide) ⟨by decide, by decide⟩ rfl (fun H1092 e1093 w1094 => ?_))
  have f1095 := f0.put' e1093 g0 rfl
  have k1096 : H1092 r0 0 = 0 := wq_u_s e1093
  refine wp_of e263 c263_5 (rw_aload_n (pc' := 6) (v := .ref r0) rfl rfl rfl ?_)
  refine wp_of e263 c263_6 (rw_aload_n (pc' := 7) (v := .ref r0) rfl rfl rfl ?_)
  refine wp_of e263 c263_7 (rw_iload_n (pc' := 8) (z := a1) rfl rfl ?_)
  refine wp_of e263 c263_8 (xc_V (pc' := 11) (r := r0) (as := [vI a1]) (st := [.ref r0]) (lm_9_364) rfl rfl (Nat.le_of_ble_eq_true rfl) w1094 g0 sh_42 (by decide) rfl (by decide) (s_213 w1094 g0 ⟨i1.1, i1.2⟩) (fun R1097 T1098 H1099 p1100 => ?_))
  obtain ⟨e1101, e1103, z1105, e1102, b1106, p1104⟩ := p1100
  subst e1101
  subst e1102
  subst e1103
  show wp _ _ 263 11 [(0, .ref r0), (1, vI a1), (2, vI a2)] [vI z1105, .ref r0] _ H1092 _
  have k1107 : H1092 r0 3 = H r0 3 := (wq_u_j e1093 rfl)
  have k1108 : wKI H1092 r0 = wKI H r0 := (wKI_fr hW g0 ((wfr.rf (l := [(42, 0)])).put' e1093 g0 rfl) rfl)
  have h1109 : RB T H1092 r0 e d := (RB_fr hW g0 ((wfr.rf (l := [(42, 0)])).put' e1093 g0 rfl) rfl hRB_r0)
  have h1110 : KNN T H1092 r0 e d := (KNN_fr hW g0 ((wfr.rf (l := [(42, 0)])).put' e1093 g0 rfl) rfl hKNN_r0)
  refine wp_of e263 c263_11 (xc_V (pc' := 14) (r := r0) (as := [vI z1105]) (st := []) (lm_9_447) rfl rfl (Nat.le_of_ble_eq_true rfl) w1094 g0 sh_42 (by decide) rfl (by decide) (u_253 (e := e) (d := d) w1094 g0 ⟨b1106.1, b1106.2⟩ (by omega) (by omega) (by assumption) (by assumption) (by assumption) (by assumption) h1109 h1110) (fun R1111 T1112 H1113 p1114 => ?_))
  obtain ⟨e1115, w1117, f1118, z1119, e1116, b1120, p1121⟩ := p1114
  subst e1115
  subst e1116
  rcases p1121 with ⟨a1122, a1123, a1124, a1125, a1126, a1127, a1128, a1129, a1130, a1131⟩ | ⟨a1132, a1133, a1134, a1135, a1136, a1137, a1138⟩
  · have f1139 := f1095.tr f1118 rfl
    show wp _ _ 263 14 [(0, .ref r0), (1, vI a1), (2, vI a2)] [vI z1119] _ H1113 _
    have k1140 : wLM H1113 r0 = wLM H r0 := ((wLM_fr w1094 g0 f1118 rfl).trans (wLM_fr hW g0 ((wfr.rf (l := [(42, 0)])).put' e1093 g0 rfl) rfl))
    refine wp_of e263 c263_14 (rw_istore_n (pc' := 15) (z := z1119) (L' := [(3, vI z1119), (0, .ref r0), (1, vI a1), (2, vI a2)]) rfl rfl rfl ?_)
    refine wp_of e263 c263_15 (rw_iload_n (pc' := 16) (z := z1119) rfl rfl ?_)
    refine wp_of e263 c263_16 (rw_if_le (p1 := 27) (p2 := 19) (by decide) rfl ⟨Int.le_trans (by decide) b1120.1, Int.le_trans b1120.2 (by decide)⟩ (fun c1141 => ?_) (fun c1141 => ?_))
    · refine wp_of e263 c263_27 (rw_aload_n (pc' := 28) (v := .ref r0) rfl rfl rfl ?_)
      refine wp_of e263 c263_28 (rw_aload_n (pc' := 29) (v := .ref r0) rfl rfl rfl ?_)
      refine wp_of e263 c263_29 (rw_iload_n (pc' := 30) (z := a1) rfl rfl ?_)
      refine wp_of e263 c263_30 (rw_aload_n (pc' := 31) (v := .ref r0) rfl rfl rfl ?_)
      refine wp_of e263 c263_31 (xg_R (pc' := 34) lf_9_24 w1117 g0 sh_42 (by decide) (by decide) ty_42_22 rfl rfl (fun r1142 q1143 g1144 => ?_))
      refine wp_of e263 c263_34 (rw_iload_n (pc' := 35) (z := a2) rfl rfl ?_)
      have k1145 : H1113 r0 3 = H1092 r0 3 := (f1118 r0 3 _ g0 rfl)
      obtain ⟨r1146, q1147, g1148⟩ := (w1117.opt g0 (t' := 54) (n := 33) (j := 3) (p := 0) (q := 0) rfl (by decide) rfl).resolve_left (by omega)
      refine wp_of e263 c263_35 (xc_V (pc' := 38) (r := r0) (as := [vI a1, .ref r1142, vI a2]) (st := [.ref r0]) (lm_9_458) rfl rfl (Nat.le_of_ble_eq_true rfl) w1117 g0 sh_42 (by decide) rfl (by decide) (s_264_m_bed w1117 g0 ⟨by omega, by omega⟩ g1144 ⟨i2.1, i2.2⟩ q1147 g1148 (by omega)) (fun R1149 T1150 H1151 p1152 => ?_))
      obtain ⟨e1153, w1155, f1156, z1157, e1154, b1158⟩ := p1152
      subst e1153
      subst e1154
      have f1159 := f1139.tr f1156 rfl
      show wp _ _ 263 38 [(3, vI z1119), (0, .ref r0), (1, vI a1), (2, vI a2)] [vI z1157, .ref r0] _ H1151 _
      refine wp_of e263 c263_38 (xc_V (pc' := 41) (r := r0) (as := [vI z1157]) (st := []) (lm_9_58) rfl rfl (Nat.le_of_ble_eq_true rfl) w1155 g0 sh_42 (by decide) rfl (by decide) (s_209 w1155 g0 ⟨b1158.1, b1158.2⟩) (fun R1160 T1161 H1162 p1163 => ?_))
      obtain ⟨e1164, w1166, f1167, z1168, e1165, b1169⟩ := p1163
      subst e1164
      subst e1165
      have f1170 := f1159.tr f1167 rfl
      show wp _ _ 263 41 [(3, vI z1119), (0, .ref r0), (1, vI a1), (2, vI a2)] [vI z1168] _ H1162 _
      have k1171 : wKI H1162 r0 = wKI H1113 r0 := ((wKI_fr w1155 g0 f1167 rfl).trans (wKI_fr w1117 g0 f1156 rfl))
      have h1172 : KNN T H1162 r0 e d := (KNN_fr w1155 g0 f1167 rfl (KNN_fr w1117 g0 f1156 rfl a1130))
      exact wp_ireturn e263 c263_41 rfl ⟨rfl, w1166, f1170, z1168, rfl, ⟨b1169.1, b1169.2⟩, ⟨by omega, h1172⟩⟩
    · exfalso
      omega
  · have f1173 := f1095.tr f1118 rfl
    show wp _ _ 263 14 [(0, .ref r0), (1, vI a1), (2, vI a2)] [vI z1119] _ H1113 _
    have k1174 : wLM H1113 r0 = wLM H r0 := ((wLM_fr w1094 g0 f1118 rfl).trans (wLM_fr hW g0 ((wfr.rf (l := [(42, 0)])).put' e1093 g0 rfl) rfl))
    refine wp_of e263 c263_14 (rw_istore_n (pc' := 15) (z := z1119) (L' := [(3, vI z1119), (0, .ref r0), (1, vI a1), (2, vI a2)]) rfl rfl rfl ?_)
    refine wp_of e263 c263_15 (rw_iload_n (pc' := 16) (z := z1119) rfl rfl ?_)
    refine wp_of e263 c263_16 (rw_if_le (p1 := 27) (p2 := 19) (by decide) rfl ⟨Int.le_trans (by decide) b1120.1, Int.le_trans b1120.2 (by decide)⟩ (fun c1175 => ?_) (fun c1175 => ?_))
    · exfalso
      omega
    · refine wp_of e263 c263_19 (rw_aload_n (pc' := 20) (v := .ref r0) rfl rfl rfl ?_)
      refine wp_of e263 c263_20 (rw_iload_n (pc' := 21) (z := z1119) rfl rfl ?_)
      refine wp_of e263 c263_21 (xc_V (pc' := 24) (r := r0) (as := [vI z1119]) (st := []) (lm_9_54) rfl rfl (Nat.le_of_ble_eq_true rfl) w1117 g0 sh_42 (by decide) rfl (by decide) (s_170 w1117 g0 ⟨Int.le_trans (by decide) b1120.1, Int.le_trans b1120.2 (by decide)⟩) (fun R1176 T1177 H1178 p1179 => ?_))
      obtain ⟨e1180, w1182, f1183, z1184, e1181, b1185⟩ := p1179
      subst e1180
      subst e1181
      have f1186 := f1173.tr f1183 rfl
      show wp _ _ 263 24 [(3, vI z1119), (0, .ref r0), (1, vI a1), (2, vI a2)] [vI z1184] _ H1178 _
      refine wp_of e263 c263_24 (rw_goto (p1 := 41) (by decide) ?_)
      have k1187 : wKI H1178 r0 = wKI H1113 r0 := (wKI_fr w1117 g0 f1183 rfl)
      have h1188 : KNN T H1178 r0 e d := (KNN_fr w1117 g0 f1183 rfl a1138)
      exact wp_ireturn e263 c263_41 rfl ⟨rfl, w1182, f1186, z1184, rfl, ⟨b1185.1, b1185.2⟩, ⟨by omega, h1188⟩⟩
/-! StrikeAwakeModel.sleeps(IZ)I  -/
abbrev uq_265 (r0 : Nat) (a1 : Int) (a2 : Int) (e : xD) (d : xD) (T : wq_T) (H : wq_H) : Option Value → wq_T → wq_H → Prop := fun r T' H' => T = T' ∧ WT T H' ∧ wfr [(42, 0), (42, 1), (42, 2), (42, 28), (42, 29), (51, 999), (52, 999)] T H H' ∧ ∃ z : Int, some (vI z) = r ∧ ((-2147483648) ≤ z ∧ z ≤ 2147483647) ∧ (((wKI H' r0 = 1) ∧ KNN T H' r0 e d))
set_option maxHeartbeats 4000000 in
theorem u_265 {kt : Nat → Option mc_E} {T : wq_T} {H : wq_H} {r0 : Nat} {a1 : Int} {a2 : Int} {e : xD} {d : xD} (hW : WT T H) (g0 : T.2.2.2 r0 = some 42) (i1 : (-2147483648) ≤ a1 ∧ a1 ≤ 2147483647) (i2 : 0 ≤ a2 ∧ a2 ≤ 1) (p0 : wKI H r0 = 1) (p1 : XW d) (p2 : ∀ h : Nat, d 0 0 ≤ (h : Int) → h < 24 → e 13 h = 0) (p3 : XN d) (p4 : ∀ h : Nat, h < 24 → 0 ≤ e 13 h ∧ e 13 h ≤ 100) (hRB_r0 : RB T H r0 e d) (hKNN_r0 : KNN T H r0 e d) : wpc kt 9 265 [.ref r0, vI a1, vI a2] T H (uq_265 r0 a1 a2 e d T H) := by
  refine wp_enter e265 (Nat.le_of_ble_eq_true rfl) rfl ?_
  have f0 : wfr [(42, 0), (42, 1), (42, 2), (42, 28), (42, 29), (51, 999), (52, 999)] T H H := wfr.rf
  show wp _ _ 265 0 [(0, .ref r0), (1, vI a1), (2, vI a2)] [] _ H _
  have _b := RB_b hW hRB_r0
  have _nu := RB_n3 hRB_r0
  have _lm := RB_lm hRB_r0
  refine wp_of e265 c265_0 (rw_aload_n (pc' := 1) (v := .ref r0) rfl rfl rfl ?_)
  refine wp_of e265 c265_1 (rw_iconst (pc' := 2) rfl ?_)
  refine wp_of e265 c265_2 (xp_I (pc' := 5) lf_9_48 hW g0 sh_42 (by decide) (by decide) ty_42_0 rfl rfl (by decide) (by decide) ⟨by decide, by decide⟩ rfl (fun H1092 e1093 w1094 => ?_))
  have f1095 := f0.put' e1093 g0 rfl
  have k1096 : H1092 r0 0 = 0 := wq_u_s e1093
  refine wp_of e265 c265_5 (rw_aload_n (pc' := 6) (v := .ref r0) rfl rfl rfl ?_)
  refine wp_of e265 c265_6 (rw_aload_n (pc' := 7) (v := .ref r0) rfl rfl rfl ?_)
  refine wp_of e265 c265_7 (rw_iload_n (pc' := 8) (z := a1) rfl rfl ?_)
  refine wp_of e265 c265_8 (xc_V (pc' := 11) (r := r0) (as := [vI a1]) (st := [.ref r0]) (lm_9_364) rfl rfl (Nat.le_of_ble_eq_true rfl) w1094 g0 sh_42 (by decide) rfl (by decide) (s_213 w1094 g0 ⟨i1.1, i1.2⟩) (fun R1097 T1098 H1099 p1100 => ?_))
  obtain ⟨e1101, e1103, z1105, e1102, b1106, p1104⟩ := p1100
  subst e1101
  subst e1102
  subst e1103
  show wp _ _ 265 11 [(0, .ref r0), (1, vI a1), (2, vI a2)] [vI z1105, .ref r0] _ H1092 _
  have k1107 : H1092 r0 3 = H r0 3 := (wq_u_j e1093 rfl)
  have k1108 : wKI H1092 r0 = wKI H r0 := (wKI_fr hW g0 ((wfr.rf (l := [(42, 0)])).put' e1093 g0 rfl) rfl)
  have h1109 : RB T H1092 r0 e d := (RB_fr hW g0 ((wfr.rf (l := [(42, 0)])).put' e1093 g0 rfl) rfl hRB_r0)
  have h1110 : KNN T H1092 r0 e d := (KNN_fr hW g0 ((wfr.rf (l := [(42, 0)])).put' e1093 g0 rfl) rfl hKNN_r0)
  refine wp_of e265 c265_11 (xc_V (pc' := 14) (r := r0) (as := [vI z1105]) (st := []) (lm_9_447) rfl rfl (Nat.le_of_ble_eq_true rfl) w1094 g0 sh_42 (by decide) rfl (by decide) (u_253 (e := e) (d := d) w1094 g0 ⟨b1106.1, b1106.2⟩ (by omega) (by omega) (by assumption) (by assumption) (by assumption) (by assumption) h1109 h1110) (fun R1111 T1112 H1113 p1114 => ?_))
  obtain ⟨e1115, w1117, f1118, z1119, e1116, b1120, p1121⟩ := p1114
  subst e1115
  subst e1116
  rcases p1121 with ⟨a1122, a1123, a1124, a1125, a1126, a1127, a1128, a1129, a1130, a1131⟩ | ⟨a1132, a1133, a1134, a1135, a1136, a1137, a1138⟩
  · have f1139 := f1095.tr f1118 rfl
    show wp _ _ 265 14 [(0, .ref r0), (1, vI a1), (2, vI a2)] [vI z1119] _ H1113 _
    have k1140 : wLM H1113 r0 = wLM H r0 := ((wLM_fr w1094 g0 f1118 rfl).trans (wLM_fr hW g0 ((wfr.rf (l := [(42, 0)])).put' e1093 g0 rfl) rfl))
    refine wp_of e265 c265_14 (rw_istore_n (pc' := 15) (z := z1119) (L' := [(3, vI z1119), (0, .ref r0), (1, vI a1), (2, vI a2)]) rfl rfl rfl ?_)
    refine wp_of e265 c265_15 (rw_iload_n (pc' := 16) (z := z1119) rfl rfl ?_)
    refine wp_of e265 c265_16 (rw_if_le (p1 := 27) (p2 := 19) (by decide) rfl ⟨Int.le_trans (by decide) b1120.1, Int.le_trans b1120.2 (by decide)⟩ (fun c1141 => ?_) (fun c1141 => ?_))
    · refine wp_of e265 c265_27 (rw_aload_n (pc' := 28) (v := .ref r0) rfl rfl rfl ?_)
      refine wp_of e265 c265_28 (rw_aload_n (pc' := 29) (v := .ref r0) rfl rfl rfl ?_)
      refine wp_of e265 c265_29 (rw_iload_n (pc' := 30) (z := a1) rfl rfl ?_)
      refine wp_of e265 c265_30 (rw_aload_n (pc' := 31) (v := .ref r0) rfl rfl rfl ?_)
      refine wp_of e265 c265_31 (xg_R (pc' := 34) lf_9_27 w1117 g0 sh_42 (by decide) (by decide) ty_42_23 rfl rfl (fun r1142 q1143 g1144 => ?_))
      refine wp_of e265 c265_34 (rw_iload_n (pc' := 35) (z := a2) rfl rfl ?_)
      have k1145 : H1113 r0 3 = H1092 r0 3 := (f1118 r0 3 _ g0 rfl)
      obtain ⟨r1146, q1147, g1148⟩ := (w1117.opt g0 (t' := 54) (n := 33) (j := 3) (p := 0) (q := 0) rfl (by decide) rfl).resolve_left (by omega)
      refine wp_of e265 c265_35 (xc_V (pc' := 38) (r := r0) (as := [vI a1, .ref r1142, vI a2]) (st := [.ref r0]) (lm_9_458) rfl rfl (Nat.le_of_ble_eq_true rfl) w1117 g0 sh_42 (by decide) rfl (by decide) (s_264_m_length w1117 g0 ⟨by omega, by omega⟩ g1144 ⟨i2.1, i2.2⟩ q1147 g1148 (by omega)) (fun R1149 T1150 H1151 p1152 => ?_))
      obtain ⟨e1153, w1155, f1156, z1157, e1154, b1158⟩ := p1152
      subst e1153
      subst e1154
      have f1159 := f1139.tr f1156 rfl
      show wp _ _ 265 38 [(3, vI z1119), (0, .ref r0), (1, vI a1), (2, vI a2)] [vI z1157, .ref r0] _ H1151 _
      refine wp_of e265 c265_38 (xc_V (pc' := 41) (r := r0) (as := [vI z1157]) (st := []) (lm_9_58) rfl rfl (Nat.le_of_ble_eq_true rfl) w1155 g0 sh_42 (by decide) rfl (by decide) (s_209 w1155 g0 ⟨b1158.1, b1158.2⟩) (fun R1160 T1161 H1162 p1163 => ?_))
      obtain ⟨e1164, w1166, f1167, z1168, e1165, b1169⟩ := p1163
      subst e1164
      subst e1165
      have f1170 := f1159.tr f1167 rfl
      show wp _ _ 265 41 [(3, vI z1119), (0, .ref r0), (1, vI a1), (2, vI a2)] [vI z1168] _ H1162 _
      have k1171 : wKI H1162 r0 = wKI H1113 r0 := ((wKI_fr w1155 g0 f1167 rfl).trans (wKI_fr w1117 g0 f1156 rfl))
      have h1172 : KNN T H1162 r0 e d := (KNN_fr w1155 g0 f1167 rfl (KNN_fr w1117 g0 f1156 rfl a1130))
      exact wp_ireturn e265 c265_41 rfl ⟨rfl, w1166, f1170, z1168, rfl, ⟨b1169.1, b1169.2⟩, ⟨by omega, h1172⟩⟩
    · exfalso
      omega
  · have f1173 := f1095.tr f1118 rfl
    show wp _ _ 265 14 [(0, .ref r0), (1, vI a1), (2, vI a2)] [vI z1119] _ H1113 _
    have k1174 : wLM H1113 r0 = wLM H r0 := ((wLM_fr w1094 g0 f1118 rfl).trans (wLM_fr hW g0 ((wfr.rf (l := [(42, 0)])).put' e1093 g0 rfl) rfl))
    refine wp_of e265 c265_14 (rw_istore_n (pc' := 15) (z := z1119) (L' := [(3, vI z1119), (0, .ref r0), (1, vI a1), (2, vI a2)]) rfl rfl rfl ?_)
    refine wp_of e265 c265_15 (rw_iload_n (pc' := 16) (z := z1119) rfl rfl ?_)
    refine wp_of e265 c265_16 (rw_if_le (p1 := 27) (p2 := 19) (by decide) rfl ⟨Int.le_trans (by decide) b1120.1, Int.le_trans b1120.2 (by decide)⟩ (fun c1175 => ?_) (fun c1175 => ?_))
    · exfalso
      omega
    · refine wp_of e265 c265_19 (rw_aload_n (pc' := 20) (v := .ref r0) rfl rfl rfl ?_)
      refine wp_of e265 c265_20 (rw_iload_n (pc' := 21) (z := z1119) rfl rfl ?_)
      refine wp_of e265 c265_21 (xc_V (pc' := 24) (r := r0) (as := [vI z1119]) (st := []) (lm_9_54) rfl rfl (Nat.le_of_ble_eq_true rfl) w1117 g0 sh_42 (by decide) rfl (by decide) (s_170 w1117 g0 ⟨Int.le_trans (by decide) b1120.1, Int.le_trans b1120.2 (by decide)⟩) (fun R1176 T1177 H1178 p1179 => ?_))
      obtain ⟨e1180, w1182, f1183, z1184, e1181, b1185⟩ := p1179
      subst e1180
      subst e1181
      have f1186 := f1173.tr f1183 rfl
      show wp _ _ 265 24 [(3, vI z1119), (0, .ref r0), (1, vI a1), (2, vI a2)] [vI z1184] _ H1178 _
      refine wp_of e265 c265_24 (rw_goto (p1 := 41) (by decide) ?_)
      have k1187 : wKI H1178 r0 = wKI H1113 r0 := (wKI_fr w1117 g0 f1183 rfl)
      have h1188 : KNN T H1178 r0 e d := (KNN_fr w1117 g0 f1183 rfl a1138)
      exact wp_ireturn e265 c265_41 rfl ⟨rfl, w1182, f1186, z1184, rfl, ⟨b1185.1, b1185.2⟩, ⟨by omega, h1188⟩⟩
/-! StrikeAwakeModel.ask()I  -/
abbrev uq_266 (r0 : Nat) (e : xD) (d : xD) (T : wq_T) (H : wq_H) : Option Value → wq_T → wq_H → Prop := fun r T' H' => T = T' ∧ WT T H' ∧ wfr [(42, 0), (42, 1), (42, 2), (42, 28), (42, 29), (51, 999), (53, 999), (52, 999)] T H H' ∧ ∃ z : Int, some (vI z) = r ∧ ((-2147483648) ≤ z ∧ z ≤ 2147483647) ∧ (((wKI H' r0 = 1) ∧ KNN T H' r0 e d))
set_option maxHeartbeats 4000000 in
theorem u_266 {kt : Nat → Option mc_E} {T : wq_T} {H : wq_H} {r0 : Nat} {e : xD} {d : xD} (hW : WT T H) (g0 : T.2.2.2 r0 = some 42) (p0 : wKI H r0 = 1) (p1 : XW d) (p2 : ∀ h : Nat, d 0 0 ≤ (h : Int) → h < 24 → e 13 h = 0) (p3 : XN d) (p4 : ∀ h : Nat, h < 24 → 0 ≤ e 13 h ∧ e 13 h ≤ 100) (hRB_r0 : RB T H r0 e d) (hKNN_r0 : KNN T H r0 e d) : wpc kt 10 266 [.ref r0] T H (uq_266 r0 e d T H) := by
  refine wp_enter e266 (Nat.le_of_ble_eq_true rfl) rfl ?_
  have f0 : wfr [(42, 0), (42, 1), (42, 2), (42, 28), (42, 29), (51, 999), (53, 999), (52, 999)] T H H := wfr.rf
  show wp _ _ 266 0 [(0, .ref r0)] [] _ H _
  have _b := RB_b hW hRB_r0
  have _nu := RB_n3 hRB_r0
  have _lm := RB_lm hRB_r0
  refine wp_of e266 c266_0 (rw_aload_n (pc' := 1) (v := .ref r0) rfl rfl rfl ?_)
  refine wp_of e266 c266_1 (rw_iconst (pc' := 2) rfl ?_)
  refine wp_of e266 c266_2 (xp_I (pc' := 5) lf_9_48 hW g0 sh_42 (by decide) (by decide) ty_42_0 rfl rfl (by decide) (by decide) ⟨by decide, by decide⟩ rfl (fun H1123 e1124 w1125 => ?_))
  have f1126 := f0.put' e1124 g0 rfl
  have k1127 : H1123 r0 0 = 0 := wq_u_s e1124
  refine wp_of e266 c266_5 (rw_aload_n (pc' := 6) (v := .ref r0) rfl rfl rfl ?_)
  refine wp_of e266 c266_6 (rw_aload_n (pc' := 7) (v := .ref r0) rfl rfl rfl ?_)
  have k1128 : H1123 r0 3 = H r0 3 := (wq_u_j e1124 rfl)
  refine wp_of e266 c266_7 (xg_O (pc' := 10) lf_9_337 w1125 g0 sh_42 (by decide) (by decide) ty_42_3 rfl rfl (fun q1130 => ?_) (fun r1129 q1130 g1131 => ?_))
  · refine wp_of e266 c266_10 (rw_ifnull_n (p1 := 17) (p2 := 13) (by decide) rfl ?_)
    refine wp_of e266 c266_17 (rw_iconst (pc' := 18) rfl ?_)
    have k1132 : wKI H1123 r0 = wKI H r0 := (wKI_fr hW g0 ((wfr.rf (l := [(42, 0)])).put' e1124 g0 rfl) rfl)
    have h1133 : RB T H1123 r0 e d := (RB_fr hW g0 ((wfr.rf (l := [(42, 0)])).put' e1124 g0 rfl) rfl hRB_r0)
    have h1134 : KNN T H1123 r0 e d := (KNN_fr hW g0 ((wfr.rf (l := [(42, 0)])).put' e1124 g0 rfl) rfl hKNN_r0)
    refine wp_of e266 c266_18 (xc_V (pc' := 21) (r := r0) (as := [vI 0]) (st := []) (lm_9_467) rfl rfl (Nat.le_of_ble_eq_true rfl) w1125 g0 sh_42 (by decide) rfl (by decide) (u_267 (e := e) (d := d) w1125 g0 ⟨by decide, by decide⟩ (by omega) (by omega) (by assumption) (by assumption) (by assumption) (by assumption) h1133 h1134) (fun R1135 T1136 H1137 p1138 => ?_))
    obtain ⟨e1139, w1141, f1142, z1143, e1140, b1144, p1145⟩ := p1138
    subst e1139
    subst e1140
    obtain ⟨a1146, a1147, a1148, a1149, a1150⟩ := p1145
    have f1151 := f1126.tr f1142 rfl
    show wp _ _ 266 21 [(0, .ref r0)] [vI z1143] _ H1137 _
    have k1152 : wLM H1137 r0 = wLM H r0 := ((wLM_fr w1125 g0 f1142 rfl).trans (wLM_fr hW g0 ((wfr.rf (l := [(42, 0)])).put' e1124 g0 rfl) rfl))
    refine wp_of e266 c266_21 (rw_istore_n (pc' := 22) (z := z1143) (L' := [(1, vI z1143), (0, .ref r0)]) rfl rfl rfl ?_)
    refine wp_of e266 c266_22 (rw_iload_n (pc' := 23) (z := z1143) rfl rfl ?_)
    refine wp_of e266 c266_23 (rw_if_le (p1 := 34) (p2 := 26) (by decide) rfl ⟨Int.le_trans (by decide) b1144.1, Int.le_trans b1144.2 (by decide)⟩ (fun c1153 => ?_) (fun c1153 => ?_))
    · refine wp_of e266 c266_34 (rw_aload_n (pc' := 35) (v := .ref r0) rfl rfl rfl ?_)
      refine wp_of e266 c266_35 (rw_aload_n (pc' := 36) (v := .ref r0) rfl rfl rfl ?_)
      refine wp_of e266 c266_36 (rw_iconst (pc' := 37) rfl ?_)
      have k1154 : H1137 r0 3 = H1123 r0 3 := (f1142 r0 3 _ g0 rfl)
      have q1155 : H1137 r0 3 = -1 := k1154.trans q1130
      obtain ⟨r1156, q1157, g1158⟩ := (w1141.opt g0 (t' := 54) (n := 33) (j := 3) (p := 0) (q := 0) rfl (by decide) rfl).resolve_left (by omega)
      refine wp_of e266 c266_37 (xc_V (pc' := 40) (r := r0) (as := [vI (-1)]) (st := [.ref r0]) (lm_9_470) rfl rfl (Nat.le_of_ble_eq_true rfl) w1141 g0 sh_42 (by decide) rfl (by decide) (s_268 w1141 g0 ⟨by decide, by decide⟩ q1157 g1158 (by omega)) (fun R1159 T1160 H1161 p1162 => ?_))
      obtain ⟨e1163, w1165, f1166, z1167, e1164, b1168⟩ := p1162
      subst e1163
      subst e1164
      have f1169 := f1151.tr f1166 rfl
      show wp _ _ 266 40 [(1, vI z1143), (0, .ref r0)] [vI z1167, .ref r0] _ H1161 _
      refine wp_of e266 c266_40 (xc_V (pc' := 43) (r := r0) (as := [vI z1167]) (st := []) (lm_9_58) rfl rfl (Nat.le_of_ble_eq_true rfl) w1165 g0 sh_42 (by decide) rfl (by decide) (s_209 w1165 g0 ⟨b1168.1, b1168.2⟩) (fun R1170 T1171 H1172 p1173 => ?_))
      obtain ⟨e1174, w1176, f1177, z1178, e1175, b1179⟩ := p1173
      subst e1174
      subst e1175
      have f1180 := f1169.tr f1177 rfl
      show wp _ _ 266 43 [(1, vI z1143), (0, .ref r0)] [vI z1178] _ H1172 _
      have k1181 : wKI H1172 r0 = wKI H1137 r0 := ((wKI_fr w1165 g0 f1177 rfl).trans (wKI_fr w1141 g0 f1166 rfl))
      have h1182 : KNN T H1172 r0 e d := (KNN_fr w1165 g0 f1177 rfl (KNN_fr w1141 g0 f1166 rfl a1150))
      exact wp_ireturn e266 c266_43 rfl ⟨rfl, w1176, f1180, z1178, rfl, ⟨b1179.1, b1179.2⟩, ⟨by omega, h1182⟩⟩
    · refine wp_of e266 c266_26 (rw_aload_n (pc' := 27) (v := .ref r0) rfl rfl rfl ?_)
      refine wp_of e266 c266_27 (rw_iload_n (pc' := 28) (z := z1143) rfl rfl ?_)
      refine wp_of e266 c266_28 (xc_V (pc' := 31) (r := r0) (as := [vI z1143]) (st := []) (lm_9_54) rfl rfl (Nat.le_of_ble_eq_true rfl) w1141 g0 sh_42 (by decide) rfl (by decide) (s_170 w1141 g0 ⟨Int.le_trans (by decide) b1144.1, Int.le_trans b1144.2 (by decide)⟩) (fun R1183 T1184 H1185 p1186 => ?_))
      obtain ⟨e1187, w1189, f1190, z1191, e1188, b1192⟩ := p1186
      subst e1187
      subst e1188
      have f1193 := f1151.tr f1190 rfl
      show wp _ _ 266 31 [(1, vI z1143), (0, .ref r0)] [vI z1191] _ H1185 _
      refine wp_of e266 c266_31 (rw_goto (p1 := 43) (by decide) ?_)
      have k1194 : wKI H1185 r0 = wKI H1137 r0 := (wKI_fr w1141 g0 f1190 rfl)
      have h1195 : KNN T H1185 r0 e d := (KNN_fr w1141 g0 f1190 rfl a1150)
      exact wp_ireturn e266 c266_43 rfl ⟨rfl, w1189, f1193, z1191, rfl, ⟨b1192.1, b1192.2⟩, ⟨by omega, h1195⟩⟩
  · refine wp_of e266 c266_10 (rw_ifnull_r (p1 := 17) (p2 := 13) (by decide) rfl ?_)
    refine wp_of e266 c266_13 (rw_iconst (pc' := 14) rfl ?_)
    refine wp_of e266 c266_14 (rw_goto (p1 := 18) (by decide) ?_)
    have k1196 : wKI H1123 r0 = wKI H r0 := (wKI_fr hW g0 ((wfr.rf (l := [(42, 0)])).put' e1124 g0 rfl) rfl)
    have h1197 : RB T H1123 r0 e d := (RB_fr hW g0 ((wfr.rf (l := [(42, 0)])).put' e1124 g0 rfl) rfl hRB_r0)
    have h1198 : KNN T H1123 r0 e d := (KNN_fr hW g0 ((wfr.rf (l := [(42, 0)])).put' e1124 g0 rfl) rfl hKNN_r0)
    refine wp_of e266 c266_18 (xc_V (pc' := 21) (r := r0) (as := [vI 1]) (st := []) (lm_9_467) rfl rfl (Nat.le_of_ble_eq_true rfl) w1125 g0 sh_42 (by decide) rfl (by decide) (u_267 (e := e) (d := d) w1125 g0 ⟨by decide, by decide⟩ (by omega) (by omega) (by assumption) (by assumption) (by assumption) (by assumption) h1197 h1198) (fun R1199 T1200 H1201 p1202 => ?_))
    obtain ⟨e1203, w1205, f1206, z1207, e1204, b1208, p1209⟩ := p1202
    subst e1203
    subst e1204
    obtain ⟨a1210, a1211, a1212, a1213, a1214⟩ := p1209
    have f1215 := f1126.tr f1206 rfl
    show wp _ _ 266 21 [(0, .ref r0)] [vI z1207] _ H1201 _
    have k1216 : wLM H1201 r0 = wLM H r0 := ((wLM_fr w1125 g0 f1206 rfl).trans (wLM_fr hW g0 ((wfr.rf (l := [(42, 0)])).put' e1124 g0 rfl) rfl))
    refine wp_of e266 c266_21 (rw_istore_n (pc' := 22) (z := z1207) (L' := [(1, vI z1207), (0, .ref r0)]) rfl rfl rfl ?_)
    refine wp_of e266 c266_22 (rw_iload_n (pc' := 23) (z := z1207) rfl rfl ?_)
    refine wp_of e266 c266_23 (rw_if_le (p1 := 34) (p2 := 26) (by decide) rfl ⟨Int.le_trans (by decide) b1208.1, Int.le_trans b1208.2 (by decide)⟩ (fun c1217 => ?_) (fun c1217 => ?_))
    · refine wp_of e266 c266_34 (rw_aload_n (pc' := 35) (v := .ref r0) rfl rfl rfl ?_)
      refine wp_of e266 c266_35 (rw_aload_n (pc' := 36) (v := .ref r0) rfl rfl rfl ?_)
      refine wp_of e266 c266_36 (rw_iconst (pc' := 37) rfl ?_)
      have k1218 : H1201 r0 3 = H1123 r0 3 := (f1206 r0 3 _ g0 rfl)
      have q1219 : H1201 r0 3 = (r1129 : Int) := k1218.trans q1130
      refine wp_of e266 c266_37 (xc_V (pc' := 40) (r := r0) (as := [vI (-1)]) (st := [.ref r0]) (lm_9_470) rfl rfl (Nat.le_of_ble_eq_true rfl) w1205 g0 sh_42 (by decide) rfl (by decide) (s_268 w1205 g0 ⟨by decide, by decide⟩ q1219 g1131 (by omega)) (fun R1220 T1221 H1222 p1223 => ?_))
      obtain ⟨e1224, w1226, f1227, z1228, e1225, b1229⟩ := p1223
      subst e1224
      subst e1225
      have f1230 := f1215.tr f1227 rfl
      show wp _ _ 266 40 [(1, vI z1207), (0, .ref r0)] [vI z1228, .ref r0] _ H1222 _
      refine wp_of e266 c266_40 (xc_V (pc' := 43) (r := r0) (as := [vI z1228]) (st := []) (lm_9_58) rfl rfl (Nat.le_of_ble_eq_true rfl) w1226 g0 sh_42 (by decide) rfl (by decide) (s_209 w1226 g0 ⟨b1229.1, b1229.2⟩) (fun R1231 T1232 H1233 p1234 => ?_))
      obtain ⟨e1235, w1237, f1238, z1239, e1236, b1240⟩ := p1234
      subst e1235
      subst e1236
      have f1241 := f1230.tr f1238 rfl
      show wp _ _ 266 43 [(1, vI z1207), (0, .ref r0)] [vI z1239] _ H1233 _
      have k1242 : wKI H1233 r0 = wKI H1201 r0 := ((wKI_fr w1226 g0 f1238 rfl).trans (wKI_fr w1205 g0 f1227 rfl))
      have h1243 : KNN T H1233 r0 e d := (KNN_fr w1226 g0 f1238 rfl (KNN_fr w1205 g0 f1227 rfl a1214))
      exact wp_ireturn e266 c266_43 rfl ⟨rfl, w1237, f1241, z1239, rfl, ⟨b1240.1, b1240.2⟩, ⟨by omega, h1243⟩⟩
    · refine wp_of e266 c266_26 (rw_aload_n (pc' := 27) (v := .ref r0) rfl rfl rfl ?_)
      refine wp_of e266 c266_27 (rw_iload_n (pc' := 28) (z := z1207) rfl rfl ?_)
      refine wp_of e266 c266_28 (xc_V (pc' := 31) (r := r0) (as := [vI z1207]) (st := []) (lm_9_54) rfl rfl (Nat.le_of_ble_eq_true rfl) w1205 g0 sh_42 (by decide) rfl (by decide) (s_170 w1205 g0 ⟨Int.le_trans (by decide) b1208.1, Int.le_trans b1208.2 (by decide)⟩) (fun R1244 T1245 H1246 p1247 => ?_))
      obtain ⟨e1248, w1250, f1251, z1252, e1249, b1253⟩ := p1247
      subst e1248
      subst e1249
      have f1254 := f1215.tr f1251 rfl
      show wp _ _ 266 31 [(1, vI z1207), (0, .ref r0)] [vI z1252] _ H1246 _
      refine wp_of e266 c266_31 (rw_goto (p1 := 43) (by decide) ?_)
      have k1255 : wKI H1246 r0 = wKI H1201 r0 := (wKI_fr w1205 g0 f1251 rfl)
      have h1256 : KNN T H1246 r0 e d := (KNN_fr w1205 g0 f1251 rfl a1214)
      exact wp_ireturn e266 c266_43 rfl ⟨rfl, w1250, f1254, z1252, rfl, ⟨b1253.1, b1253.2⟩, ⟨by omega, h1256⟩⟩
/-! StrikeAwakeModel.askFor(I)I  -/
abbrev uq_271 (r0 : Nat) (a1 : Int) (e : xD) (d : xD) (T : wq_T) (H : wq_H) : Option Value → wq_T → wq_H → Prop := fun r T' H' => T = T' ∧ WT T H' ∧ wfr [(42, 0), (42, 1), (42, 2), (42, 28), (42, 29), (51, 999), (53, 999), (52, 999)] T H H' ∧ ∃ z : Int, some (vI z) = r ∧ ((-2147483648) ≤ z ∧ z ≤ 2147483647) ∧ (((wKI H' r0 = 1) ∧ KNN T H' r0 e d))
set_option maxHeartbeats 4000000 in
theorem u_271 {kt : Nat → Option mc_E} {T : wq_T} {H : wq_H} {r0 : Nat} {a1 : Int} {e : xD} {d : xD} (hW : WT T H) (g0 : T.2.2.2 r0 = some 42) (i1 : (-2147483648) ≤ a1 ∧ a1 ≤ 2147483647) (p0 : wKI H r0 = 1) (p1 : XW d) (p2 : ∀ h : Nat, d 0 0 ≤ (h : Int) → h < 24 → e 13 h = 0) (p3 : XN d) (p4 : ∀ h : Nat, h < 24 → 0 ≤ e 13 h ∧ e 13 h ≤ 100) (hRB_r0 : RB T H r0 e d) (hKNN_r0 : KNN T H r0 e d) : wpc kt 10 271 [.ref r0, vI a1] T H (uq_271 r0 a1 e d T H) := by
  refine wp_enter e271 (Nat.le_of_ble_eq_true rfl) rfl ?_
  have f0 : wfr [(42, 0), (42, 1), (42, 2), (42, 28), (42, 29), (51, 999), (53, 999), (52, 999)] T H H := wfr.rf
  show wp _ _ 271 0 [(0, .ref r0), (1, vI a1)] [] _ H _
  have _b := RB_b hW hRB_r0
  have _nu := RB_n3 hRB_r0
  have _lm := RB_lm hRB_r0
  refine wp_of e271 c271_0 (rw_aload_n (pc' := 1) (v := .ref r0) rfl rfl rfl ?_)
  refine wp_of e271 c271_1 (rw_iconst (pc' := 2) rfl ?_)
  refine wp_of e271 c271_2 (xp_I (pc' := 5) lf_9_48 hW g0 sh_42 (by decide) (by decide) ty_42_0 rfl rfl (by decide) (by decide) ⟨by decide, by decide⟩ rfl (fun H1074 e1075 w1076 => ?_))
  have f1077 := f0.put' e1075 g0 rfl
  have k1078 : H1074 r0 0 = 0 := wq_u_s e1075
  refine wp_of e271 c271_5 (rw_aload_n (pc' := 6) (v := .ref r0) rfl rfl rfl ?_)
  refine wp_of e271 c271_6 (rw_aload_n (pc' := 7) (v := .ref r0) rfl rfl rfl ?_)
  refine wp_of e271 c271_7 (rw_iload_n (pc' := 8) (z := a1) rfl rfl ?_)
  refine wp_of e271 c271_8 (xc_V (pc' := 11) (r := r0) (as := [vI a1]) (st := [.ref r0]) (lm_9_373) rfl rfl (Nat.le_of_ble_eq_true rfl) w1076 g0 sh_42 (by decide) rfl (by decide) (s_218 w1076 g0 ⟨i1.1, i1.2⟩) (fun R1079 T1080 H1081 p1082 => ?_))
  obtain ⟨e1083, e1085, z1087, e1084, b1088, p1086⟩ := p1082
  subst e1083
  subst e1084
  subst e1085
  show wp _ _ 271 11 [(0, .ref r0), (1, vI a1)] [vI z1087, .ref r0] _ H1074 _
  have k1089 : H1074 r0 3 = H r0 3 := (wq_u_j e1075 rfl)
  have k1090 : wKI H1074 r0 = wKI H r0 := (wKI_fr hW g0 ((wfr.rf (l := [(42, 0)])).put' e1075 g0 rfl) rfl)
  have h1091 : RB T H1074 r0 e d := (RB_fr hW g0 ((wfr.rf (l := [(42, 0)])).put' e1075 g0 rfl) rfl hRB_r0)
  have h1092 : KNN T H1074 r0 e d := (KNN_fr hW g0 ((wfr.rf (l := [(42, 0)])).put' e1075 g0 rfl) rfl hKNN_r0)
  refine wp_of e271 c271_11 (xc_V (pc' := 14) (r := r0) (as := [vI z1087]) (st := []) (lm_9_467) rfl rfl (Nat.le_of_ble_eq_true rfl) w1076 g0 sh_42 (by decide) rfl (by decide) (u_267 (e := e) (d := d) w1076 g0 ⟨b1088.1, b1088.2⟩ (by omega) (by omega) (by assumption) (by assumption) (by assumption) (by assumption) h1091 h1092) (fun R1093 T1094 H1095 p1096 => ?_))
  obtain ⟨e1097, w1099, f1100, z1101, e1098, b1102, p1103⟩ := p1096
  subst e1097
  subst e1098
  obtain ⟨a1104, a1105, a1106, a1107, a1108⟩ := p1103
  have f1109 := f1077.tr f1100 rfl
  show wp _ _ 271 14 [(0, .ref r0), (1, vI a1)] [vI z1101] _ H1095 _
  have k1110 : wLM H1095 r0 = wLM H r0 := ((wLM_fr w1076 g0 f1100 rfl).trans (wLM_fr hW g0 ((wfr.rf (l := [(42, 0)])).put' e1075 g0 rfl) rfl))
  refine wp_of e271 c271_14 (rw_istore_n (pc' := 15) (z := z1101) (L' := [(2, vI z1101), (0, .ref r0), (1, vI a1)]) rfl rfl rfl ?_)
  refine wp_of e271 c271_15 (rw_iload_n (pc' := 16) (z := z1101) rfl rfl ?_)
  refine wp_of e271 c271_16 (rw_if_le (p1 := 27) (p2 := 19) (by decide) rfl ⟨Int.le_trans (by decide) b1102.1, Int.le_trans b1102.2 (by decide)⟩ (fun c1111 => ?_) (fun c1111 => ?_))
  · refine wp_of e271 c271_27 (rw_aload_n (pc' := 28) (v := .ref r0) rfl rfl rfl ?_)
    refine wp_of e271 c271_28 (rw_aload_n (pc' := 29) (v := .ref r0) rfl rfl rfl ?_)
    refine wp_of e271 c271_29 (rw_iload_n (pc' := 30) (z := a1) rfl rfl ?_)
    have k1112 : H1095 r0 3 = H1074 r0 3 := (f1100 r0 3 _ g0 rfl)
    obtain ⟨r1113, q1114, g1115⟩ := (w1099.opt g0 (t' := 54) (n := 33) (j := 3) (p := 0) (q := 0) rfl (by decide) rfl).resolve_left (by omega)
    refine wp_of e271 c271_30 (xc_V (pc' := 33) (r := r0) (as := [vI a1]) (st := [.ref r0]) (lm_9_470) rfl rfl (Nat.le_of_ble_eq_true rfl) w1099 g0 sh_42 (by decide) rfl (by decide) (s_268 w1099 g0 ⟨i1.1, i1.2⟩ q1114 g1115 (by omega)) (fun R1116 T1117 H1118 p1119 => ?_))
    obtain ⟨e1120, w1122, f1123, z1124, e1121, b1125⟩ := p1119
    subst e1120
    subst e1121
    have f1126 := f1109.tr f1123 rfl
    show wp _ _ 271 33 [(2, vI z1101), (0, .ref r0), (1, vI a1)] [vI z1124, .ref r0] _ H1118 _
    refine wp_of e271 c271_33 (xc_V (pc' := 36) (r := r0) (as := [vI z1124]) (st := []) (lm_9_58) rfl rfl (Nat.le_of_ble_eq_true rfl) w1122 g0 sh_42 (by decide) rfl (by decide) (s_209 w1122 g0 ⟨b1125.1, b1125.2⟩) (fun R1127 T1128 H1129 p1130 => ?_))
    obtain ⟨e1131, w1133, f1134, z1135, e1132, b1136⟩ := p1130
    subst e1131
    subst e1132
    have f1137 := f1126.tr f1134 rfl
    show wp _ _ 271 36 [(2, vI z1101), (0, .ref r0), (1, vI a1)] [vI z1135] _ H1129 _
    have k1138 : wKI H1129 r0 = wKI H1095 r0 := ((wKI_fr w1122 g0 f1134 rfl).trans (wKI_fr w1099 g0 f1123 rfl))
    have h1139 : KNN T H1129 r0 e d := (KNN_fr w1122 g0 f1134 rfl (KNN_fr w1099 g0 f1123 rfl a1108))
    exact wp_ireturn e271 c271_36 rfl ⟨rfl, w1133, f1137, z1135, rfl, ⟨b1136.1, b1136.2⟩, ⟨by omega, h1139⟩⟩
  · refine wp_of e271 c271_19 (rw_aload_n (pc' := 20) (v := .ref r0) rfl rfl rfl ?_)
    refine wp_of e271 c271_20 (rw_iload_n (pc' := 21) (z := z1101) rfl rfl ?_)
    refine wp_of e271 c271_21 (xc_V (pc' := 24) (r := r0) (as := [vI z1101]) (st := []) (lm_9_54) rfl rfl (Nat.le_of_ble_eq_true rfl) w1099 g0 sh_42 (by decide) rfl (by decide) (s_170 w1099 g0 ⟨Int.le_trans (by decide) b1102.1, Int.le_trans b1102.2 (by decide)⟩) (fun R1140 T1141 H1142 p1143 => ?_))
    obtain ⟨e1144, w1146, f1147, z1148, e1145, b1149⟩ := p1143
    subst e1144
    subst e1145
    have f1150 := f1109.tr f1147 rfl
    show wp _ _ 271 24 [(2, vI z1101), (0, .ref r0), (1, vI a1)] [vI z1148] _ H1142 _
    refine wp_of e271 c271_24 (rw_goto (p1 := 36) (by decide) ?_)
    have k1151 : wKI H1142 r0 = wKI H1095 r0 := (wKI_fr w1099 g0 f1147 rfl)
    have h1152 : KNN T H1142 r0 e d := (KNN_fr w1099 g0 f1147 rfl a1108)
    exact wp_ireturn e271 c271_36 rfl ⟨rfl, w1146, f1150, z1148, rfl, ⟨b1149.1, b1149.2⟩, ⟨by omega, h1152⟩⟩
/-! StrikeAwakeModel.lie(I)I  -/
abbrev uq_272 (r0 : Nat) (a1 : Int) (e : xD) (d : xD) (T : wq_T) (H : wq_H) : Option Value → wq_T → wq_H → Prop := fun r T' H' => T = T' ∧ WT T H' ∧ wfr [(42, 0), (42, 1), (42, 2), (42, 28), (42, 29), (51, 999), (52, 999)] T H H' ∧ ∃ z : Int, some (vI z) = r ∧ ((-2147483648) ≤ z ∧ z ≤ 2147483647) ∧ (((wKI H' r0 = 1) ∧ KNN T H' r0 e d))
set_option maxHeartbeats 4000000 in
theorem u_272 {kt : Nat → Option mc_E} {T : wq_T} {H : wq_H} {r0 : Nat} {a1 : Int} {e : xD} {d : xD} (hW : WT T H) (g0 : T.2.2.2 r0 = some 42) (i1 : (-2147483648) ≤ a1 ∧ a1 ≤ 2147483647) (p0 : wKI H r0 = 1) (p1 : XW d) (p2 : ∀ h : Nat, d 0 0 ≤ (h : Int) → h < 24 → e 13 h = 0) (p3 : XN d) (p4 : ∀ h : Nat, h < 24 → 0 ≤ e 13 h ∧ e 13 h ≤ 100) (hRB_r0 : RB T H r0 e d) (hKNN_r0 : KNN T H r0 e d) : wpc kt 8 272 [.ref r0, vI a1] T H (uq_272 r0 a1 e d T H) := by
  refine wp_enter e272 (Nat.le_of_ble_eq_true rfl) rfl ?_
  have f0 : wfr [(42, 0), (42, 1), (42, 2), (42, 28), (42, 29), (51, 999), (52, 999)] T H H := wfr.rf
  show wp _ _ 272 0 [(0, .ref r0), (1, vI a1)] [] _ H _
  have _b := RB_b hW hRB_r0
  have _nu := RB_n3 hRB_r0
  have _lm := RB_lm hRB_r0
  refine wp_of e272 c272_0 (rw_aload_n (pc' := 1) (v := .ref r0) rfl rfl rfl ?_)
  refine wp_of e272 c272_1 (rw_iconst (pc' := 2) rfl ?_)
  refine wp_of e272 c272_2 (xp_I (pc' := 5) lf_9_48 hW g0 sh_42 (by decide) (by decide) ty_42_0 rfl rfl (by decide) (by decide) ⟨by decide, by decide⟩ rfl (fun H1100 e1101 w1102 => ?_))
  have f1103 := f0.put' e1101 g0 rfl
  have k1104 : H1100 r0 0 = 0 := wq_u_s e1101
  refine wp_of e272 c272_5 (rw_aload_n (pc' := 6) (v := .ref r0) rfl rfl rfl ?_)
  refine wp_of e272 c272_6 (rw_aload_n (pc' := 7) (v := .ref r0) rfl rfl rfl ?_)
  refine wp_of e272 c272_7 (rw_iload_n (pc' := 8) (z := a1) rfl rfl ?_)
  refine wp_of e272 c272_8 (xc_V (pc' := 11) (r := r0) (as := [vI a1]) (st := [.ref r0]) (lm_9_473) rfl rfl (Nat.le_of_ble_eq_true rfl) w1102 g0 sh_42 (by decide) rfl (by decide) (s_273 w1102 g0 ⟨i1.1, i1.2⟩) (fun R1105 T1106 H1107 p1108 => ?_))
  obtain ⟨e1109, e1111, z1113, e1110, b1114, p1112⟩ := p1108
  subst e1109
  subst e1110
  subst e1111
  show wp _ _ 272 11 [(0, .ref r0), (1, vI a1)] [vI z1113, .ref r0] _ H1100 _
  have k1115 : H1100 r0 3 = H r0 3 := (wq_u_j e1101 rfl)
  have k1116 : wKI H1100 r0 = wKI H r0 := (wKI_fr hW g0 ((wfr.rf (l := [(42, 0)])).put' e1101 g0 rfl) rfl)
  have h1117 : RB T H1100 r0 e d := (RB_fr hW g0 ((wfr.rf (l := [(42, 0)])).put' e1101 g0 rfl) rfl hRB_r0)
  have h1118 : KNN T H1100 r0 e d := (KNN_fr hW g0 ((wfr.rf (l := [(42, 0)])).put' e1101 g0 rfl) rfl hKNN_r0)
  refine wp_of e272 c272_11 (xc_V (pc' := 14) (r := r0) (as := [vI z1113]) (st := []) (lm_9_433) rfl rfl (Nat.le_of_ble_eq_true rfl) w1102 g0 sh_42 (by decide) rfl (by decide) (u_241 (e := e) (d := d) w1102 g0 ⟨b1114.1, b1114.2⟩ (by omega) (by omega) (by assumption) (by assumption) (by assumption) (by assumption) h1117 h1118) (fun R1119 T1120 H1121 p1122 => ?_))
  obtain ⟨e1123, w1125, f1126, z1127, e1124, b1128, p1129⟩ := p1122
  subst e1123
  subst e1124
  rcases p1129 with ⟨a1130, a1131, a1132, a1133, a1134, a1135, a1136, a1137, a1138⟩ | ⟨a1139, a1140, a1141, a1142, a1143, a1144, a1145⟩
  · have f1146 := f1103.tr f1126 rfl
    show wp _ _ 272 14 [(0, .ref r0), (1, vI a1)] [vI z1127] _ H1121 _
    have k1147 : wLM H1121 r0 = wLM H r0 := ((wLM_fr w1102 g0 f1126 rfl).trans (wLM_fr hW g0 ((wfr.rf (l := [(42, 0)])).put' e1101 g0 rfl) rfl))
    refine wp_of e272 c272_14 (rw_istore_n (pc' := 15) (z := z1127) (L' := [(2, vI z1127), (0, .ref r0), (1, vI a1)]) rfl rfl rfl ?_)
    refine wp_of e272 c272_15 (rw_iload_n (pc' := 16) (z := z1127) rfl rfl ?_)
    refine wp_of e272 c272_16 (rw_if_le (p1 := 27) (p2 := 19) (by decide) rfl ⟨Int.le_trans (by decide) b1128.1, Int.le_trans b1128.2 (by decide)⟩ (fun c1148 => ?_) (fun c1148 => ?_))
    · refine wp_of e272 c272_27 (rw_aload_n (pc' := 28) (v := .ref r0) rfl rfl rfl ?_)
      refine wp_of e272 c272_28 (rw_aload_n (pc' := 29) (v := .ref r0) rfl rfl rfl ?_)
      refine wp_of e272 c272_29 (rw_iload_n (pc' := 30) (z := a1) rfl rfl ?_)
      have k1149 : H1121 r0 3 = H1100 r0 3 := (f1126 r0 3 _ g0 rfl)
      obtain ⟨r1150, q1151, g1152⟩ := (w1125.opt g0 (t' := 54) (n := 33) (j := 3) (p := 0) (q := 0) rfl (by decide) rfl).resolve_left (by omega)
      refine wp_of e272 c272_30 (xc_V (pc' := 33) (r := r0) (as := [vI a1]) (st := [.ref r0]) (lm_9_476) rfl rfl (Nat.le_of_ble_eq_true rfl) w1125 g0 sh_42 (by decide) rfl (by decide) (s_274 w1125 g0 ⟨by omega, by omega⟩ q1151 g1152 (by omega)) (fun R1153 T1154 H1155 p1156 => ?_))
      obtain ⟨e1157, w1159, f1160, z1161, e1158, b1162⟩ := p1156
      subst e1157
      subst e1158
      have f1163 := f1146.tr f1160 rfl
      show wp _ _ 272 33 [(2, vI z1127), (0, .ref r0), (1, vI a1)] [vI z1161, .ref r0] _ H1155 _
      refine wp_of e272 c272_33 (rw_bipush (pc' := 35) (z := 24) rfl (by decide) ?_)
      refine wp_of e272 c272_35 (rw_icmp_ne (p1 := 42) (p2 := 38) (by decide) rfl ⟨b1162.1, b1162.2⟩ ⟨by decide, by decide⟩ (fun c1164 => ?_) (fun c1164 => ?_))
      · refine wp_of e272 c272_42 (rw_iconst (pc' := 43) rfl ?_)
        refine wp_of e272 c272_43 (xc_V (pc' := 46) (r := r0) (as := [vI 1]) (st := []) (lm_9_58) rfl rfl (Nat.le_of_ble_eq_true rfl) w1159 g0 sh_42 (by decide) rfl (by decide) (s_209 w1159 g0 ⟨by decide, by decide⟩) (fun R1165 T1166 H1167 p1168 => ?_))
        obtain ⟨e1169, w1171, f1172, z1173, e1170, b1174⟩ := p1168
        subst e1169
        subst e1170
        have f1175 := f1163.tr f1172 rfl
        show wp _ _ 272 46 [(2, vI z1127), (0, .ref r0), (1, vI a1)] [vI z1173] _ H1167 _
        have k1176 : wKI H1167 r0 = wKI H1121 r0 := ((wKI_fr w1159 g0 f1172 rfl).trans (wKI_fr w1125 g0 f1160 rfl))
        have h1177 : KNN T H1167 r0 e d := (KNN_fr w1159 g0 f1172 rfl (KNN_fr w1125 g0 f1160 rfl a1137))
        exact wp_ireturn e272 c272_46 rfl ⟨rfl, w1171, f1175, z1173, rfl, ⟨b1174.1, b1174.2⟩, ⟨by omega, h1177⟩⟩
      · refine wp_of e272 c272_38 (rw_iconst (pc' := 39) rfl ?_)
        refine wp_of e272 c272_39 (rw_goto (p1 := 43) (by decide) ?_)
        refine wp_of e272 c272_43 (xc_V (pc' := 46) (r := r0) (as := [vI 0]) (st := []) (lm_9_58) rfl rfl (Nat.le_of_ble_eq_true rfl) w1159 g0 sh_42 (by decide) rfl (by decide) (s_209 w1159 g0 ⟨by decide, by decide⟩) (fun R1178 T1179 H1180 p1181 => ?_))
        obtain ⟨e1182, w1184, f1185, z1186, e1183, b1187⟩ := p1181
        subst e1182
        subst e1183
        have f1188 := f1163.tr f1185 rfl
        show wp _ _ 272 46 [(2, vI z1127), (0, .ref r0), (1, vI a1)] [vI z1186] _ H1180 _
        have k1189 : wKI H1180 r0 = wKI H1121 r0 := ((wKI_fr w1159 g0 f1185 rfl).trans (wKI_fr w1125 g0 f1160 rfl))
        have h1190 : KNN T H1180 r0 e d := (KNN_fr w1159 g0 f1185 rfl (KNN_fr w1125 g0 f1160 rfl a1137))
        exact wp_ireturn e272 c272_46 rfl ⟨rfl, w1184, f1188, z1186, rfl, ⟨b1187.1, b1187.2⟩, ⟨by omega, h1190⟩⟩
    · exfalso
      omega
  · have f1191 := f1103.tr f1126 rfl
    show wp _ _ 272 14 [(0, .ref r0), (1, vI a1)] [vI z1127] _ H1121 _
    have k1192 : wLM H1121 r0 = wLM H r0 := ((wLM_fr w1102 g0 f1126 rfl).trans (wLM_fr hW g0 ((wfr.rf (l := [(42, 0)])).put' e1101 g0 rfl) rfl))
    refine wp_of e272 c272_14 (rw_istore_n (pc' := 15) (z := z1127) (L' := [(2, vI z1127), (0, .ref r0), (1, vI a1)]) rfl rfl rfl ?_)
    refine wp_of e272 c272_15 (rw_iload_n (pc' := 16) (z := z1127) rfl rfl ?_)
    refine wp_of e272 c272_16 (rw_if_le (p1 := 27) (p2 := 19) (by decide) rfl ⟨Int.le_trans (by decide) b1128.1, Int.le_trans b1128.2 (by decide)⟩ (fun c1193 => ?_) (fun c1193 => ?_))
    · exfalso
      omega
    · refine wp_of e272 c272_19 (rw_aload_n (pc' := 20) (v := .ref r0) rfl rfl rfl ?_)
      refine wp_of e272 c272_20 (rw_iload_n (pc' := 21) (z := z1127) rfl rfl ?_)
      refine wp_of e272 c272_21 (xc_V (pc' := 24) (r := r0) (as := [vI z1127]) (st := []) (lm_9_54) rfl rfl (Nat.le_of_ble_eq_true rfl) w1125 g0 sh_42 (by decide) rfl (by decide) (s_170 w1125 g0 ⟨Int.le_trans (by decide) b1128.1, Int.le_trans b1128.2 (by decide)⟩) (fun R1194 T1195 H1196 p1197 => ?_))
      obtain ⟨e1198, w1200, f1201, z1202, e1199, b1203⟩ := p1197
      subst e1198
      subst e1199
      have f1204 := f1191.tr f1201 rfl
      show wp _ _ 272 24 [(2, vI z1127), (0, .ref r0), (1, vI a1)] [vI z1202] _ H1196 _
      refine wp_of e272 c272_24 (rw_goto (p1 := 46) (by decide) ?_)
      have k1205 : wKI H1196 r0 = wKI H1121 r0 := (wKI_fr w1125 g0 f1201 rfl)
      have h1206 : KNN T H1196 r0 e d := (KNN_fr w1125 g0 f1201 rfl a1145)
      exact wp_ireturn e272 c272_46 rfl ⟨rfl, w1200, f1204, z1202, rfl, ⟨b1203.1, b1203.2⟩, ⟨by omega, h1206⟩⟩
/-! StrikeAwakeModel.bars(I)I  -/
abbrev uq_275 (r0 : Nat) (a1 : Int) (e : xD) (d : xD) (T : wq_T) (H : wq_H) : Option Value → wq_T → wq_H → Prop := fun r T' H' => T = T' ∧ WT T H' ∧ wfr [(42, 0), (42, 1), (42, 2), (42, 28), (42, 29), (51, 999), (52, 999)] T H H' ∧ ∃ z : Int, some (vI z) = r ∧ ((-2147483648) ≤ z ∧ z ≤ 2147483647) ∧ (((wKI H' r0 = 1) ∧ KNN T H' r0 e d))
set_option maxHeartbeats 4000000 in
theorem u_275 {kt : Nat → Option mc_E} {T : wq_T} {H : wq_H} {r0 : Nat} {a1 : Int} {e : xD} {d : xD} (hW : WT T H) (g0 : T.2.2.2 r0 = some 42) (i1 : (-2147483648) ≤ a1 ∧ a1 ≤ 2147483647) (p0 : wKI H r0 = 1) (p1 : XW d) (p2 : ∀ h : Nat, d 0 0 ≤ (h : Int) → h < 24 → e 13 h = 0) (p3 : XN d) (p4 : ∀ h : Nat, h < 24 → 0 ≤ e 13 h ∧ e 13 h ≤ 100) (hRB_r0 : RB T H r0 e d) (hKNN_r0 : KNN T H r0 e d) : wpc kt 8 275 [.ref r0, vI a1] T H (uq_275 r0 a1 e d T H) := by
  refine wp_enter e275 (Nat.le_of_ble_eq_true rfl) rfl ?_
  have f0 : wfr [(42, 0), (42, 1), (42, 2), (42, 28), (42, 29), (51, 999), (52, 999)] T H H := wfr.rf
  show wp _ _ 275 0 [(0, .ref r0), (1, vI a1)] [] _ H _
  have _b := RB_b hW hRB_r0
  have _nu := RB_n3 hRB_r0
  have _lm := RB_lm hRB_r0
  refine wp_of e275 c275_0 (rw_aload_n (pc' := 1) (v := .ref r0) rfl rfl rfl ?_)
  refine wp_of e275 c275_1 (rw_iconst (pc' := 2) rfl ?_)
  refine wp_of e275 c275_2 (xp_I (pc' := 5) lf_9_48 hW g0 sh_42 (by decide) (by decide) ty_42_0 rfl rfl (by decide) (by decide) ⟨by decide, by decide⟩ rfl (fun H1100 e1101 w1102 => ?_))
  have f1103 := f0.put' e1101 g0 rfl
  have k1104 : H1100 r0 0 = 0 := wq_u_s e1101
  refine wp_of e275 c275_5 (rw_aload_n (pc' := 6) (v := .ref r0) rfl rfl rfl ?_)
  refine wp_of e275 c275_6 (rw_aload_n (pc' := 7) (v := .ref r0) rfl rfl rfl ?_)
  refine wp_of e275 c275_7 (rw_iload_n (pc' := 8) (z := a1) rfl rfl ?_)
  refine wp_of e275 c275_8 (xc_V (pc' := 11) (r := r0) (as := [vI a1]) (st := [.ref r0]) (lm_9_473) rfl rfl (Nat.le_of_ble_eq_true rfl) w1102 g0 sh_42 (by decide) rfl (by decide) (s_273 w1102 g0 ⟨i1.1, i1.2⟩) (fun R1105 T1106 H1107 p1108 => ?_))
  obtain ⟨e1109, e1111, z1113, e1110, b1114, p1112⟩ := p1108
  subst e1109
  subst e1110
  subst e1111
  show wp _ _ 275 11 [(0, .ref r0), (1, vI a1)] [vI z1113, .ref r0] _ H1100 _
  have k1115 : H1100 r0 3 = H r0 3 := (wq_u_j e1101 rfl)
  have k1116 : wKI H1100 r0 = wKI H r0 := (wKI_fr hW g0 ((wfr.rf (l := [(42, 0)])).put' e1101 g0 rfl) rfl)
  have h1117 : RB T H1100 r0 e d := (RB_fr hW g0 ((wfr.rf (l := [(42, 0)])).put' e1101 g0 rfl) rfl hRB_r0)
  have h1118 : KNN T H1100 r0 e d := (KNN_fr hW g0 ((wfr.rf (l := [(42, 0)])).put' e1101 g0 rfl) rfl hKNN_r0)
  refine wp_of e275 c275_11 (xc_V (pc' := 14) (r := r0) (as := [vI z1113]) (st := []) (lm_9_433) rfl rfl (Nat.le_of_ble_eq_true rfl) w1102 g0 sh_42 (by decide) rfl (by decide) (u_241 (e := e) (d := d) w1102 g0 ⟨b1114.1, b1114.2⟩ (by omega) (by omega) (by assumption) (by assumption) (by assumption) (by assumption) h1117 h1118) (fun R1119 T1120 H1121 p1122 => ?_))
  obtain ⟨e1123, w1125, f1126, z1127, e1124, b1128, p1129⟩ := p1122
  subst e1123
  subst e1124
  rcases p1129 with ⟨a1130, a1131, a1132, a1133, a1134, a1135, a1136, a1137, a1138⟩ | ⟨a1139, a1140, a1141, a1142, a1143, a1144, a1145⟩
  · have f1146 := f1103.tr f1126 rfl
    show wp _ _ 275 14 [(0, .ref r0), (1, vI a1)] [vI z1127] _ H1121 _
    have k1147 : wLM H1121 r0 = wLM H r0 := ((wLM_fr w1102 g0 f1126 rfl).trans (wLM_fr hW g0 ((wfr.rf (l := [(42, 0)])).put' e1101 g0 rfl) rfl))
    refine wp_of e275 c275_14 (rw_istore_n (pc' := 15) (z := z1127) (L' := [(2, vI z1127), (0, .ref r0), (1, vI a1)]) rfl rfl rfl ?_)
    refine wp_of e275 c275_15 (rw_iload_n (pc' := 16) (z := z1127) rfl rfl ?_)
    refine wp_of e275 c275_16 (rw_if_le (p1 := 25) (p2 := 19) (by decide) rfl ⟨Int.le_trans (by decide) b1128.1, Int.le_trans b1128.2 (by decide)⟩ (fun c1148 => ?_) (fun c1148 => ?_))
    · refine wp_of e275 c275_25 (rw_aload_n (pc' := 26) (v := .ref r0) rfl rfl rfl ?_)
      refine wp_of e275 c275_26 (rw_iload_n (pc' := 27) (z := a1) rfl rfl ?_)
      have k1149 : H1121 r0 3 = H1100 r0 3 := (f1126 r0 3 _ g0 rfl)
      obtain ⟨r1150, q1151, g1152⟩ := (w1125.opt g0 (t' := 54) (n := 33) (j := 3) (p := 0) (q := 0) rfl (by decide) rfl).resolve_left (by omega)
      refine wp_of e275 c275_27 (xc_V (pc' := 30) (r := r0) (as := [vI a1]) (st := []) (lm_9_476) rfl rfl (Nat.le_of_ble_eq_true rfl) w1125 g0 sh_42 (by decide) rfl (by decide) (s_274 w1125 g0 ⟨by omega, by omega⟩ q1151 g1152 (by omega)) (fun R1153 T1154 H1155 p1156 => ?_))
      obtain ⟨e1157, w1159, f1160, z1161, e1158, b1162⟩ := p1156
      subst e1157
      subst e1158
      have f1163 := f1146.tr f1160 rfl
      show wp _ _ 275 30 [(2, vI z1127), (0, .ref r0), (1, vI a1)] [vI z1161] _ H1155 _
      refine wp_of e275 c275_30 (rw_istore_n (pc' := 31) (z := z1161) (L' := [(3, vI z1161), (2, vI z1127), (0, .ref r0), (1, vI a1)]) rfl rfl rfl ?_)
      refine wp_of e275 c275_31 (rw_aload_n (pc' := 32) (v := .ref r0) rfl rfl rfl ?_)
      refine wp_of e275 c275_32 (rw_iload_n (pc' := 33) (z := z1161) rfl rfl ?_)
      refine wp_of e275 c275_33 (rw_bipush (pc' := 35) (z := 24) rfl (by decide) ?_)
      refine wp_of e275 c275_35 (rw_icmp_ne (p1 := 43) (p2 := 38) (by decide) rfl ⟨b1162.1, b1162.2⟩ ⟨by decide, by decide⟩ (fun c1164 => ?_) (fun c1164 => ?_))
      · refine wp_of e275 c275_43 (rw_iload_n (pc' := 44) (z := z1161) rfl rfl ?_)
        refine wp_of e275 c275_44 (xc_V (pc' := 47) (r := r0) (as := [vI z1161]) (st := []) (lm_9_58) rfl rfl (Nat.le_of_ble_eq_true rfl) w1159 g0 sh_42 (by decide) rfl (by decide) (s_209 w1159 g0 ⟨b1162.1, b1162.2⟩) (fun R1165 T1166 H1167 p1168 => ?_))
        obtain ⟨e1169, w1171, f1172, z1173, e1170, b1174⟩ := p1168
        subst e1169
        subst e1170
        have f1175 := f1163.tr f1172 rfl
        show wp _ _ 275 47 [(3, vI z1161), (2, vI z1127), (0, .ref r0), (1, vI a1)] [vI z1173] _ H1167 _
        have k1176 : wKI H1167 r0 = wKI H1121 r0 := ((wKI_fr w1159 g0 f1172 rfl).trans (wKI_fr w1125 g0 f1160 rfl))
        have h1177 : KNN T H1167 r0 e d := (KNN_fr w1159 g0 f1172 rfl (KNN_fr w1125 g0 f1160 rfl a1137))
        exact wp_ireturn e275 c275_47 rfl ⟨rfl, w1171, f1175, z1173, rfl, ⟨b1174.1, b1174.2⟩, ⟨by omega, h1177⟩⟩
      · refine wp_of e275 c275_38 (rw_bipush (pc' := 40) (z := -2) rfl (by decide) ?_)
        refine wp_of e275 c275_40 (rw_goto (p1 := 44) (by decide) ?_)
        refine wp_of e275 c275_44 (xc_V (pc' := 47) (r := r0) (as := [vI (-2)]) (st := []) (lm_9_58) rfl rfl (Nat.le_of_ble_eq_true rfl) w1159 g0 sh_42 (by decide) rfl (by decide) (s_209 w1159 g0 ⟨by decide, by decide⟩) (fun R1178 T1179 H1180 p1181 => ?_))
        obtain ⟨e1182, w1184, f1185, z1186, e1183, b1187⟩ := p1181
        subst e1182
        subst e1183
        have f1188 := f1163.tr f1185 rfl
        show wp _ _ 275 47 [(3, vI z1161), (2, vI z1127), (0, .ref r0), (1, vI a1)] [vI z1186] _ H1180 _
        have k1189 : wKI H1180 r0 = wKI H1121 r0 := ((wKI_fr w1159 g0 f1185 rfl).trans (wKI_fr w1125 g0 f1160 rfl))
        have h1190 : KNN T H1180 r0 e d := (KNN_fr w1159 g0 f1185 rfl (KNN_fr w1125 g0 f1160 rfl a1137))
        exact wp_ireturn e275 c275_47 rfl ⟨rfl, w1184, f1188, z1186, rfl, ⟨b1187.1, b1187.2⟩, ⟨by omega, h1190⟩⟩
    · exfalso
      omega
  · have f1191 := f1103.tr f1126 rfl
    show wp _ _ 275 14 [(0, .ref r0), (1, vI a1)] [vI z1127] _ H1121 _
    have k1192 : wLM H1121 r0 = wLM H r0 := ((wLM_fr w1102 g0 f1126 rfl).trans (wLM_fr hW g0 ((wfr.rf (l := [(42, 0)])).put' e1101 g0 rfl) rfl))
    refine wp_of e275 c275_14 (rw_istore_n (pc' := 15) (z := z1127) (L' := [(2, vI z1127), (0, .ref r0), (1, vI a1)]) rfl rfl rfl ?_)
    refine wp_of e275 c275_15 (rw_iload_n (pc' := 16) (z := z1127) rfl rfl ?_)
    refine wp_of e275 c275_16 (rw_if_le (p1 := 25) (p2 := 19) (by decide) rfl ⟨Int.le_trans (by decide) b1128.1, Int.le_trans b1128.2 (by decide)⟩ (fun c1193 => ?_) (fun c1193 => ?_))
    · exfalso
      omega
    · refine wp_of e275 c275_19 (rw_aload_n (pc' := 20) (v := .ref r0) rfl rfl rfl ?_)
      refine wp_of e275 c275_20 (rw_iload_n (pc' := 21) (z := z1127) rfl rfl ?_)
      refine wp_of e275 c275_21 (xc_V (pc' := 24) (r := r0) (as := [vI z1127]) (st := []) (lm_9_54) rfl rfl (Nat.le_of_ble_eq_true rfl) w1125 g0 sh_42 (by decide) rfl (by decide) (s_170 w1125 g0 ⟨Int.le_trans (by decide) b1128.1, Int.le_trans b1128.2 (by decide)⟩) (fun R1194 T1195 H1196 p1197 => ?_))
      obtain ⟨e1198, w1200, f1201, z1202, e1199, b1203⟩ := p1197
      subst e1198
      subst e1199
      have f1204 := f1191.tr f1201 rfl
      show wp _ _ 275 24 [(2, vI z1127), (0, .ref r0), (1, vI a1)] [vI z1202] _ H1196 _
      have k1205 : wKI H1196 r0 = wKI H1121 r0 := (wKI_fr w1125 g0 f1201 rfl)
      have h1206 : KNN T H1196 r0 e d := (KNN_fr w1125 g0 f1201 rfl a1145)
      exact wp_ireturn e275 c275_24 rfl ⟨rfl, w1200, f1204, z1202, rfl, ⟨b1203.1, b1203.2⟩, ⟨by omega, h1206⟩⟩
/-! StrikeAwakeModel.proof()I  -/
abbrev uq_276 (r0 : Nat) (e : xD) (d : xD) (T : wq_T) (H : wq_H) : Option Value → wq_T → wq_H → Prop := fun r T' H' => T = T' ∧ WT T H' ∧ wfr [(42, 0), (42, 1), (42, 2), (42, 28), (42, 29), (51, 999), (52, 999)] T H H' ∧ ∃ z : Int, some (vI z) = r ∧ ((-2147483648) ≤ z ∧ z ≤ 2147483647) ∧ (((wKI H' r0 = 1) ∧ KNN T H' r0 e d))
set_option maxHeartbeats 4000000 in
theorem u_276 {kt : Nat → Option mc_E} {T : wq_T} {H : wq_H} {r0 : Nat} {e : xD} {d : xD} (hW : WT T H) (g0 : T.2.2.2 r0 = some 42) (p0 : wKI H r0 = 1) (p1 : XW d) (p2 : ∀ h : Nat, d 0 0 ≤ (h : Int) → h < 24 → e 13 h = 0) (p3 : XN d) (p4 : ∀ h : Nat, h < 24 → 0 ≤ e 13 h ∧ e 13 h ≤ 100) (hRB_r0 : RB T H r0 e d) (hKNN_r0 : KNN T H r0 e d) : wpc kt 8 276 [.ref r0] T H (uq_276 r0 e d T H) := by
  refine wp_enter e276 (Nat.le_of_ble_eq_true rfl) rfl ?_
  have f0 : wfr [(42, 0), (42, 1), (42, 2), (42, 28), (42, 29), (51, 999), (52, 999)] T H H := wfr.rf
  show wp _ _ 276 0 [(0, .ref r0)] [] _ H _
  have _b := RB_b hW hRB_r0
  have _nu := RB_n3 hRB_r0
  have _lm := RB_lm hRB_r0
  refine wp_of e276 c276_0 (rw_aload_n (pc' := 1) (v := .ref r0) rfl rfl rfl ?_)
  refine wp_of e276 c276_1 (rw_iconst (pc' := 2) rfl ?_)
  refine wp_of e276 c276_2 (xp_I (pc' := 5) lf_9_48 hW g0 sh_42 (by decide) (by decide) ty_42_0 rfl rfl (by decide) (by decide) ⟨by decide, by decide⟩ rfl (fun H1451 e1452 w1453 => ?_))
  have f1454 := f0.put' e1452 g0 rfl
  have k1455 : H1451 r0 0 = 0 := wq_u_s e1452
  refine wp_of e276 c276_5 (rw_aload_n (pc' := 6) (v := .ref r0) rfl rfl rfl ?_)
  refine wp_of e276 c276_6 (rw_aload_n (pc' := 7) (v := .ref r0) rfl rfl rfl ?_)
  have k1456 : H1451 r0 3 = H r0 3 := (wq_u_j e1452 rfl)
  refine wp_of e276 c276_7 (xg_O (pc' := 10) lf_9_337 w1453 g0 sh_42 (by decide) (by decide) ty_42_3 rfl rfl (fun q1458 => ?_) (fun r1457 q1458 g1459 => ?_))
  · refine wp_of e276 c276_10 (rw_ifnull_n (p1 := 17) (p2 := 13) (by decide) rfl ?_)
    refine wp_of e276 c276_17 (rw_iconst (pc' := 18) rfl ?_)
    have k1460 : wKI H1451 r0 = wKI H r0 := (wKI_fr hW g0 ((wfr.rf (l := [(42, 0)])).put' e1452 g0 rfl) rfl)
    have h1461 : RB T H1451 r0 e d := (RB_fr hW g0 ((wfr.rf (l := [(42, 0)])).put' e1452 g0 rfl) rfl hRB_r0)
    have h1462 : KNN T H1451 r0 e d := (KNN_fr hW g0 ((wfr.rf (l := [(42, 0)])).put' e1452 g0 rfl) rfl hKNN_r0)
    refine wp_of e276 c276_18 (xc_V (pc' := 21) (r := r0) (as := [vI 0]) (st := []) (lm_9_433) rfl rfl (Nat.le_of_ble_eq_true rfl) w1453 g0 sh_42 (by decide) rfl (by decide) (u_241 (e := e) (d := d) w1453 g0 ⟨by decide, by decide⟩ (by omega) (by omega) (by assumption) (by assumption) (by assumption) (by assumption) h1461 h1462) (fun R1463 T1464 H1465 p1466 => ?_))
    obtain ⟨e1467, w1469, f1470, z1471, e1468, b1472, p1473⟩ := p1466
    subst e1467
    subst e1468
    rcases p1473 with ⟨a1474, a1475, a1476, a1477, a1478, a1479, a1480, a1481, a1482⟩ | ⟨a1483, a1484, a1485, a1486, a1487, a1488, a1489⟩
    · have f1490 := f1454.tr f1470 rfl
      show wp _ _ 276 21 [(0, .ref r0)] [vI z1471] _ H1465 _
      have k1491 : wLM H1465 r0 = wLM H r0 := ((wLM_fr w1453 g0 f1470 rfl).trans (wLM_fr hW g0 ((wfr.rf (l := [(42, 0)])).put' e1452 g0 rfl) rfl))
      refine wp_of e276 c276_21 (rw_istore_n (pc' := 22) (z := z1471) (L' := [(1, vI z1471), (0, .ref r0)]) rfl rfl rfl ?_)
      refine wp_of e276 c276_22 (rw_iload_n (pc' := 23) (z := z1471) rfl rfl ?_)
      refine wp_of e276 c276_23 (rw_if_ne (p1 := 39) (p2 := 26) (by decide) rfl ⟨Int.le_trans (by decide) b1472.1, Int.le_trans b1472.2 (by decide)⟩ (fun c1492 => ?_) (fun c1492 => ?_))
      · exfalso
        omega
      · refine wp_of e276 c276_26 (rw_aload_n (pc' := 27) (v := .ref r0) rfl rfl rfl ?_)
        have k1493 : H1465 r0 3 = H1451 r0 3 := (f1470 r0 3 _ g0 rfl)
        have q1494 : H1465 r0 3 = -1 := k1493.trans q1458
        obtain ⟨r1495, q1496, g1497⟩ := (w1469.opt g0 (t' := 54) (n := 33) (j := 3) (p := 0) (q := 0) rfl (by decide) rfl).resolve_left (by omega)
        refine wp_of e276 c276_27 (xc_V (pc' := 30) (r := r0) (as := []) (st := []) (lm_9_376) rfl rfl (Nat.le_of_ble_eq_true rfl) w1469 g0 sh_42 (by decide) rfl (by decide) (s_220 w1469 g0 q1496 g1497) (fun R1498 T1499 H1500 p1501 => ?_))
        obtain ⟨e1502, e1504, z1506, e1503, b1507, p1505⟩ := p1501
        subst e1502
        subst e1503
        subst e1504
        show wp _ _ 276 30 [(1, vI z1471), (0, .ref r0)] [vL z1506] _ H1465 _
        refine wp_of e276 c276_30 (rw_ldc2 (pc' := 33) (z := 5000) rfl rfl rfl ?_)
        refine wp_of e276 c276_33 (rw_lcmp (pc' := 34) rfl ⟨Int.le_trans (by decide) b1507.1, Int.le_trans b1507.2 (by decide)⟩ ⟨by decide, by decide⟩ ?_)
        have b1508 := wq_cmp_b z1506 5000
        refine wp_of e276 c276_34 (rw_if_le (p1 := 39) (p2 := 37) (by decide) rfl ⟨by omega, by omega⟩ (fun c1509 => ?_) (fun c1509 => ?_))
        · refine wp_of e276 c276_39 (rw_iload_n (pc' := 40) (z := z1471) rfl rfl ?_)
          refine wp_of e276 c276_40 (rw_if_ne (p1 := 52) (p2 := 43) (by decide) rfl ⟨Int.le_trans (by decide) b1472.1, Int.le_trans b1472.2 (by decide)⟩ (fun c1510 => ?_) (fun c1510 => ?_))
          · exfalso
            omega
          · refine wp_of e276 c276_43 (rw_aload_n (pc' := 44) (v := .ref r0) rfl rfl rfl ?_)
            refine wp_of e276 c276_44 (xg_I (pc' := 47) lf_9_422 w1469 g0 sh_42 (by decide) (by decide) ty_42_29 rfl rfl (fun b1511 b1512 => ?_))
            refine wp_of e276 c276_47 (rw_if_le (p1 := 52) (p2 := 50) (by decide) rfl ⟨Int.le_trans (by decide) b1511, Int.le_trans b1512 (by decide)⟩ (fun c1513 => ?_) (fun c1513 => ?_))
            · refine wp_of e276 c276_52 (rw_iload_n (pc' := 53) (z := z1471) rfl rfl ?_)
              refine wp_of e276 c276_53 (rw_if_le (p1 := 62) (p2 := 56) (by decide) rfl ⟨Int.le_trans (by decide) b1472.1, Int.le_trans b1472.2 (by decide)⟩ (fun c1514 => ?_) (fun c1514 => ?_))
              · refine wp_of e276 c276_62 (rw_aload_n (pc' := 63) (v := .ref r0) rfl rfl rfl ?_)
                refine wp_of e276 c276_63 (xc_V (pc' := 66) (r := r0) (as := []) (st := []) (lm_9_357) rfl rfl (Nat.le_of_ble_eq_true rfl) w1469 g0 sh_42 (by decide) rfl (by decide) (s_207 w1469 g0) (fun R1515 T1516 H1517 p1518 => ?_))
                obtain ⟨e1519, e1521, z1522, e1520, b1523⟩ := p1518
                subst e1519
                subst e1520
                subst e1521
                show wp _ _ 276 66 [(1, vI z1471), (0, .ref r0)] [vI z1522] _ H1465 _
                refine wp_of e276 c276_66 (rw_istore_n (pc' := 67) (z := z1522) (L' := [(2, vI z1522), (1, vI z1471), (0, .ref r0)]) rfl rfl rfl ?_)
                refine wp_of e276 c276_67 (rw_iconst (pc' := 68) rfl ?_)
                refine wp_of e276 c276_68 (rw_istore_n (pc' := 69) (z := 0) (L' := [(3, vI 0), (2, vI z1522), (1, vI z1471), (0, .ref r0)]) rfl rfl rfl ?_)
                have lp1604 : ∀ (n1605 : Nat) (v1607 : Int) (H1608 : wq_H), WT T H1608 → wfr [(51, 999)] T H1465 H1608 → (0 ≤ v1607 ∧ v1607 ≤ 4) → (4 - v1607).toNat = n1605 → wp kt 7 276 69 [(3, vI v1607), (2, vI z1522), (0, .ref r0)] [] T H1608 (uq_276 r0 e d T H) := by
                  intro n1605
                  induction n1605 using Nat.strongRecOn with
                  | _ n1605 ih1606 =>
                    intro v1607 H1608 w1609 f1610 b1611 m1612
                    have f1613 := f1490.tr f1610 rfl
                    refine wp_of e276 c276_69 (rw_iload_n (pc' := 70) (z := v1607) rfl rfl ?_)
                    refine wp_of e276 c276_70 (rw_iconst (pc' := 71) rfl ?_)
                    refine wp_of e276 c276_71 (rw_icmp_ge (p1 := 101) (p2 := 74) (by decide) rfl ⟨Int.le_trans (by decide) b1611.1, Int.le_trans b1611.2 (by decide)⟩ ⟨by decide, by decide⟩ (fun c1614 => ?_) (fun c1614 => ?_))
                    · refine wp_of e276 c276_101 (rw_aload_n (pc' := 102) (v := .ref r0) rfl rfl rfl ?_)
                      refine wp_of e276 c276_102 (rw_bipush (pc' := 104) (z := -2) rfl (by decide) ?_)
                      refine wp_of e276 c276_104 (xc_V (pc' := 107) (r := r0) (as := [vI (-2)]) (st := []) (lm_9_58) rfl rfl (Nat.le_of_ble_eq_true rfl) w1609 g0 sh_42 (by decide) rfl (by decide) (s_209 w1609 g0 ⟨by decide, by decide⟩) (fun R1615 T1616 H1617 p1618 => ?_))
                      obtain ⟨e1619, w1621, f1622, z1623, e1620, b1624⟩ := p1618
                      subst e1619
                      subst e1620
                      have f1625 := f1613.tr f1622 rfl
                      show wp _ _ 276 107 [(3, vI v1607), (2, vI z1522), (0, .ref r0)] [vI z1623] _ H1617 _
                      have k1626 : wKI H1617 r0 = wKI H1465 r0 := ((wKI_fr w1609 g0 f1622 rfl).trans (wKI_fr w1469 g0 f1610 rfl))
                      have h1627 : KNN T H1617 r0 e d := (KNN_fr w1609 g0 f1622 rfl (KNN_fr w1469 g0 f1610 rfl a1481))
                      exact wp_ireturn e276 c276_107 rfl ⟨rfl, w1621, f1625, z1623, rfl, ⟨b1624.1, b1624.2⟩, ⟨by omega, h1627⟩⟩
                    · refine wp_of e276 c276_74 (rw_aload_n (pc' := 75) (v := .ref r0) rfl rfl rfl ?_)
                      refine wp_of e276 c276_75 (rw_iload_n (pc' := 76) (z := z1522) rfl rfl ?_)
                      have k1628 : wLM H1608 r0 = wLM H1465 r0 := (wLM_fr w1469 g0 f1610 rfl)
                      refine wp_of e276 c276_76 (rw_iload_n (pc' := 77) (z := v1607) rfl rfl ?_)
                      have k1629 : H1608 r0 3 = H1465 r0 3 := (f1610 r0 3 _ g0 rfl)
                      have q1630 : H1608 r0 3 = (r1495 : Int) := k1629.trans q1496
                      refine wp_of e276 c276_77 (xc_V (pc' := 80) (r := r0) (as := [vI z1522, vI v1607]) (st := []) (lm_9_481) rfl rfl (Nat.le_of_ble_eq_true rfl) w1609 g0 sh_42 (by decide) rfl (by decide) (s_277 w1609 g0 ⟨Int.le_trans (by decide) b1523.1, Int.le_trans b1523.2 (by decide)⟩ ⟨b1611.1, by omega⟩ q1630 g1497 (by omega)) (fun R1631 T1632 H1633 p1634 => ?_))
                      obtain ⟨e1635, w1637, f1638, z1639, e1636, b1640⟩ := p1634
                      subst e1635
                      subst e1636
                      have f1641 := f1613.tr f1638 rfl
                      have f1642 := f1610.tr f1638 rfl
                      show wp _ _ 276 80 [(3, vI v1607), (2, vI z1522), (0, .ref r0)] [vI z1639] _ H1633 _
                      refine wp_of e276 c276_80 (rw_istore (pc' := 82) (z := z1639) (L' := [(4, vI z1639), (3, vI v1607), (2, vI z1522), (0, .ref r0)]) rfl rfl rfl ?_)
                      refine wp_of e276 c276_82 (rw_iload (pc' := 84) (z := z1639) rfl rfl ?_)
                      refine wp_of e276 c276_84 (rw_iconst (pc' := 85) rfl ?_)
                      refine wp_of e276 c276_85 (rw_icmp_eq (p1 := 95) (p2 := 88) (by decide) rfl ⟨b1640.1, b1640.2⟩ ⟨by decide, by decide⟩ (fun c1643 => ?_) (fun c1643 => ?_))
                      · refine wp_of e276 c276_95 (rw_iinc (pc' := 98) (z := v1607) (L' := [(3, vI (v1607 + 1)), (4, vI z1639), (2, vI z1522), (0, .ref r0)]) rfl rfl rfl rfl ?_)
                        refine wp_of e276 c276_98 (rw_goto (p1 := 69) (by decide) ?_)
                        exact wp_lc (ks := [3, 4, 2, 0]) (wl_c rfl (wl_c rfl (wl_c rfl wl_n))) rfl (by decide) (ih1606 _ (by omega) (v1607 + 1) H1633 w1637 f1642 ⟨by omega, by omega⟩ rfl)
                      · refine wp_of e276 c276_88 (rw_aload_n (pc' := 89) (v := .ref r0) rfl rfl rfl ?_)
                        refine wp_of e276 c276_89 (rw_iload (pc' := 91) (z := z1639) rfl rfl ?_)
                        refine wp_of e276 c276_91 (xc_V (pc' := 94) (r := r0) (as := [vI z1639]) (st := []) (lm_9_58) rfl rfl (Nat.le_of_ble_eq_true rfl) w1637 g0 sh_42 (by decide) rfl (by decide) (s_209 w1637 g0 ⟨b1640.1, b1640.2⟩) (fun R1644 T1645 H1646 p1647 => ?_))
                        obtain ⟨e1648, w1650, f1651, z1652, e1649, b1653⟩ := p1647
                        subst e1648
                        subst e1649
                        have f1654 := f1641.tr f1651 rfl
                        show wp _ _ 276 94 [(4, vI z1639), (3, vI v1607), (2, vI z1522), (0, .ref r0)] [vI z1652] _ H1646 _
                        have k1655 : wKI H1646 r0 = wKI H1465 r0 := ((wKI_fr w1637 g0 f1651 rfl).trans ((wKI_fr w1609 g0 f1638 rfl).trans (wKI_fr w1469 g0 f1610 rfl)))
                        have h1656 : KNN T H1646 r0 e d := (KNN_fr w1637 g0 f1651 rfl (KNN_fr w1609 g0 f1638 rfl (KNN_fr w1469 g0 f1610 rfl a1481)))
                        exact wp_ireturn e276 c276_94 rfl ⟨rfl, w1650, f1654, z1652, rfl, ⟨b1653.1, b1653.2⟩, ⟨by omega, h1656⟩⟩
                exact wp_lc (ks := [3, 2, 1, 0]) (wl_c rfl (wl_c rfl (wl_c rfl wl_n))) rfl (by decide) (lp1604 _ 0 H1465 w1469 wfr.rf ⟨by decide, by decide⟩ rfl)
              · exfalso
                omega
            · refine wp_of e276 c276_50 (rw_iconst (pc' := 51) rfl ?_)
              refine wp_of e276 c276_51 (rw_istore_n (pc' := 52) (z := 5) (L' := [(1, vI 5), (0, .ref r0)]) rfl rfl rfl ?_)
              refine wp_of e276 c276_52 (rw_iload_n (pc' := 53) (z := 5) rfl rfl ?_)
              refine wp_of e276 c276_53 (rw_if_le (p1 := 62) (p2 := 56) (by decide) rfl ⟨by decide, by decide⟩ (fun c1657 => ?_) (fun c1657 => ?_))
              · exfalso
                omega
              · refine wp_of e276 c276_56 (rw_aload_n (pc' := 57) (v := .ref r0) rfl rfl rfl ?_)
                refine wp_of e276 c276_57 (rw_iload_n (pc' := 58) (z := 5) rfl rfl ?_)
                refine wp_of e276 c276_58 (xc_V (pc' := 61) (r := r0) (as := [vI 5]) (st := []) (lm_9_54) rfl rfl (Nat.le_of_ble_eq_true rfl) w1469 g0 sh_42 (by decide) rfl (by decide) (s_170 w1469 g0 ⟨by decide, by decide⟩) (fun R1658 T1659 H1660 p1661 => ?_))
                obtain ⟨e1662, w1664, f1665, z1666, e1663, b1667⟩ := p1661
                subst e1662
                subst e1663
                have f1668 := f1490.tr f1665 rfl
                show wp _ _ 276 61 [(1, vI 5), (0, .ref r0)] [vI z1666] _ H1660 _
                have k1669 : wKI H1660 r0 = wKI H1465 r0 := (wKI_fr w1469 g0 f1665 rfl)
                have h1670 : KNN T H1660 r0 e d := (KNN_fr w1469 g0 f1665 rfl a1481)
                exact wp_ireturn e276 c276_61 rfl ⟨rfl, w1664, f1668, z1666, rfl, ⟨b1667.1, b1667.2⟩, ⟨by omega, h1670⟩⟩
        · refine wp_of e276 c276_37 (rw_iconst (pc' := 38) rfl ?_)
          refine wp_of e276 c276_38 (rw_istore_n (pc' := 39) (z := 3) (L' := [(1, vI 3), (0, .ref r0)]) rfl rfl rfl ?_)
          refine wp_of e276 c276_39 (rw_iload_n (pc' := 40) (z := 3) rfl rfl ?_)
          refine wp_of e276 c276_40 (rw_if_ne (p1 := 52) (p2 := 43) (by decide) rfl ⟨by decide, by decide⟩ (fun c1671 => ?_) (fun c1671 => ?_))
          · refine wp_of e276 c276_52 (rw_iload_n (pc' := 53) (z := 3) rfl rfl ?_)
            refine wp_of e276 c276_53 (rw_if_le (p1 := 62) (p2 := 56) (by decide) rfl ⟨by decide, by decide⟩ (fun c1672 => ?_) (fun c1672 => ?_))
            · exfalso
              omega
            · refine wp_of e276 c276_56 (rw_aload_n (pc' := 57) (v := .ref r0) rfl rfl rfl ?_)
              refine wp_of e276 c276_57 (rw_iload_n (pc' := 58) (z := 3) rfl rfl ?_)
              refine wp_of e276 c276_58 (xc_V (pc' := 61) (r := r0) (as := [vI 3]) (st := []) (lm_9_54) rfl rfl (Nat.le_of_ble_eq_true rfl) w1469 g0 sh_42 (by decide) rfl (by decide) (s_170 w1469 g0 ⟨by decide, by decide⟩) (fun R1673 T1674 H1675 p1676 => ?_))
              obtain ⟨e1677, w1679, f1680, z1681, e1678, b1682⟩ := p1676
              subst e1677
              subst e1678
              have f1683 := f1490.tr f1680 rfl
              show wp _ _ 276 61 [(1, vI 3), (0, .ref r0)] [vI z1681] _ H1675 _
              have k1684 : wKI H1675 r0 = wKI H1465 r0 := (wKI_fr w1469 g0 f1680 rfl)
              have h1685 : KNN T H1675 r0 e d := (KNN_fr w1469 g0 f1680 rfl a1481)
              exact wp_ireturn e276 c276_61 rfl ⟨rfl, w1679, f1683, z1681, rfl, ⟨b1682.1, b1682.2⟩, ⟨by omega, h1685⟩⟩
          · exfalso
            omega
    · have f1686 := f1454.tr f1470 rfl
      show wp _ _ 276 21 [(0, .ref r0)] [vI z1471] _ H1465 _
      have k1687 : wLM H1465 r0 = wLM H r0 := ((wLM_fr w1453 g0 f1470 rfl).trans (wLM_fr hW g0 ((wfr.rf (l := [(42, 0)])).put' e1452 g0 rfl) rfl))
      refine wp_of e276 c276_21 (rw_istore_n (pc' := 22) (z := z1471) (L' := [(1, vI z1471), (0, .ref r0)]) rfl rfl rfl ?_)
      refine wp_of e276 c276_22 (rw_iload_n (pc' := 23) (z := z1471) rfl rfl ?_)
      refine wp_of e276 c276_23 (rw_if_ne (p1 := 39) (p2 := 26) (by decide) rfl ⟨Int.le_trans (by decide) b1472.1, Int.le_trans b1472.2 (by decide)⟩ (fun c1688 => ?_) (fun c1688 => ?_))
      · refine wp_of e276 c276_39 (rw_iload_n (pc' := 40) (z := z1471) rfl rfl ?_)
        refine wp_of e276 c276_40 (rw_if_ne (p1 := 52) (p2 := 43) (by decide) rfl ⟨Int.le_trans (by decide) b1472.1, Int.le_trans b1472.2 (by decide)⟩ (fun c1689 => ?_) (fun c1689 => ?_))
        · refine wp_of e276 c276_52 (rw_iload_n (pc' := 53) (z := z1471) rfl rfl ?_)
          refine wp_of e276 c276_53 (rw_if_le (p1 := 62) (p2 := 56) (by decide) rfl ⟨Int.le_trans (by decide) b1472.1, Int.le_trans b1472.2 (by decide)⟩ (fun c1690 => ?_) (fun c1690 => ?_))
          · exfalso
            omega
          · refine wp_of e276 c276_56 (rw_aload_n (pc' := 57) (v := .ref r0) rfl rfl rfl ?_)
            refine wp_of e276 c276_57 (rw_iload_n (pc' := 58) (z := z1471) rfl rfl ?_)
            refine wp_of e276 c276_58 (xc_V (pc' := 61) (r := r0) (as := [vI z1471]) (st := []) (lm_9_54) rfl rfl (Nat.le_of_ble_eq_true rfl) w1469 g0 sh_42 (by decide) rfl (by decide) (s_170 w1469 g0 ⟨Int.le_trans (by decide) b1472.1, Int.le_trans b1472.2 (by decide)⟩) (fun R1691 T1692 H1693 p1694 => ?_))
            obtain ⟨e1695, w1697, f1698, z1699, e1696, b1700⟩ := p1694
            subst e1695
            subst e1696
            have f1701 := f1686.tr f1698 rfl
            show wp _ _ 276 61 [(1, vI z1471), (0, .ref r0)] [vI z1699] _ H1693 _
            have k1702 : wKI H1693 r0 = wKI H1465 r0 := (wKI_fr w1469 g0 f1698 rfl)
            have h1703 : KNN T H1693 r0 e d := (KNN_fr w1469 g0 f1698 rfl a1489)
            exact wp_ireturn e276 c276_61 rfl ⟨rfl, w1697, f1701, z1699, rfl, ⟨b1700.1, b1700.2⟩, ⟨by omega, h1703⟩⟩
        · exfalso
          omega
      · exfalso
        omega
  · refine wp_of e276 c276_10 (rw_ifnull_r (p1 := 17) (p2 := 13) (by decide) rfl ?_)
    refine wp_of e276 c276_13 (rw_iconst (pc' := 14) rfl ?_)
    refine wp_of e276 c276_14 (rw_goto (p1 := 18) (by decide) ?_)
    have k1704 : wKI H1451 r0 = wKI H r0 := (wKI_fr hW g0 ((wfr.rf (l := [(42, 0)])).put' e1452 g0 rfl) rfl)
    have h1705 : RB T H1451 r0 e d := (RB_fr hW g0 ((wfr.rf (l := [(42, 0)])).put' e1452 g0 rfl) rfl hRB_r0)
    have h1706 : KNN T H1451 r0 e d := (KNN_fr hW g0 ((wfr.rf (l := [(42, 0)])).put' e1452 g0 rfl) rfl hKNN_r0)
    refine wp_of e276 c276_18 (xc_V (pc' := 21) (r := r0) (as := [vI 1]) (st := []) (lm_9_433) rfl rfl (Nat.le_of_ble_eq_true rfl) w1453 g0 sh_42 (by decide) rfl (by decide) (u_241 (e := e) (d := d) w1453 g0 ⟨by decide, by decide⟩ (by omega) (by omega) (by assumption) (by assumption) (by assumption) (by assumption) h1705 h1706) (fun R1707 T1708 H1709 p1710 => ?_))
    obtain ⟨e1711, w1713, f1714, z1715, e1712, b1716, p1717⟩ := p1710
    subst e1711
    subst e1712
    rcases p1717 with ⟨a1718, a1719, a1720, a1721, a1722, a1723, a1724, a1725, a1726⟩ | ⟨a1727, a1728, a1729, a1730, a1731, a1732, a1733⟩
    · have f1734 := f1454.tr f1714 rfl
      show wp _ _ 276 21 [(0, .ref r0)] [vI z1715] _ H1709 _
      have k1735 : wLM H1709 r0 = wLM H r0 := ((wLM_fr w1453 g0 f1714 rfl).trans (wLM_fr hW g0 ((wfr.rf (l := [(42, 0)])).put' e1452 g0 rfl) rfl))
      refine wp_of e276 c276_21 (rw_istore_n (pc' := 22) (z := z1715) (L' := [(1, vI z1715), (0, .ref r0)]) rfl rfl rfl ?_)
      refine wp_of e276 c276_22 (rw_iload_n (pc' := 23) (z := z1715) rfl rfl ?_)
      refine wp_of e276 c276_23 (rw_if_ne (p1 := 39) (p2 := 26) (by decide) rfl ⟨Int.le_trans (by decide) b1716.1, Int.le_trans b1716.2 (by decide)⟩ (fun c1736 => ?_) (fun c1736 => ?_))
      · exfalso
        omega
      · refine wp_of e276 c276_26 (rw_aload_n (pc' := 27) (v := .ref r0) rfl rfl rfl ?_)
        have k1737 : H1709 r0 3 = H1451 r0 3 := (f1714 r0 3 _ g0 rfl)
        have q1738 : H1709 r0 3 = (r1457 : Int) := k1737.trans q1458
        refine wp_of e276 c276_27 (xc_V (pc' := 30) (r := r0) (as := []) (st := []) (lm_9_376) rfl rfl (Nat.le_of_ble_eq_true rfl) w1713 g0 sh_42 (by decide) rfl (by decide) (s_220 w1713 g0 q1738 g1459) (fun R1739 T1740 H1741 p1742 => ?_))
        obtain ⟨e1743, e1745, z1747, e1744, b1748, p1746⟩ := p1742
        subst e1743
        subst e1744
        subst e1745
        show wp _ _ 276 30 [(1, vI z1715), (0, .ref r0)] [vL z1747] _ H1709 _
        refine wp_of e276 c276_30 (rw_ldc2 (pc' := 33) (z := 5000) rfl rfl rfl ?_)
        refine wp_of e276 c276_33 (rw_lcmp (pc' := 34) rfl ⟨Int.le_trans (by decide) b1748.1, Int.le_trans b1748.2 (by decide)⟩ ⟨by decide, by decide⟩ ?_)
        have b1749 := wq_cmp_b z1747 5000
        refine wp_of e276 c276_34 (rw_if_le (p1 := 39) (p2 := 37) (by decide) rfl ⟨by omega, by omega⟩ (fun c1750 => ?_) (fun c1750 => ?_))
        · refine wp_of e276 c276_39 (rw_iload_n (pc' := 40) (z := z1715) rfl rfl ?_)
          refine wp_of e276 c276_40 (rw_if_ne (p1 := 52) (p2 := 43) (by decide) rfl ⟨Int.le_trans (by decide) b1716.1, Int.le_trans b1716.2 (by decide)⟩ (fun c1751 => ?_) (fun c1751 => ?_))
          · exfalso
            omega
          · refine wp_of e276 c276_43 (rw_aload_n (pc' := 44) (v := .ref r0) rfl rfl rfl ?_)
            refine wp_of e276 c276_44 (xg_I (pc' := 47) lf_9_422 w1713 g0 sh_42 (by decide) (by decide) ty_42_29 rfl rfl (fun b1752 b1753 => ?_))
            refine wp_of e276 c276_47 (rw_if_le (p1 := 52) (p2 := 50) (by decide) rfl ⟨Int.le_trans (by decide) b1752, Int.le_trans b1753 (by decide)⟩ (fun c1754 => ?_) (fun c1754 => ?_))
            · refine wp_of e276 c276_52 (rw_iload_n (pc' := 53) (z := z1715) rfl rfl ?_)
              refine wp_of e276 c276_53 (rw_if_le (p1 := 62) (p2 := 56) (by decide) rfl ⟨Int.le_trans (by decide) b1716.1, Int.le_trans b1716.2 (by decide)⟩ (fun c1755 => ?_) (fun c1755 => ?_))
              · refine wp_of e276 c276_62 (rw_aload_n (pc' := 63) (v := .ref r0) rfl rfl rfl ?_)
                refine wp_of e276 c276_63 (xc_V (pc' := 66) (r := r0) (as := []) (st := []) (lm_9_357) rfl rfl (Nat.le_of_ble_eq_true rfl) w1713 g0 sh_42 (by decide) rfl (by decide) (s_207 w1713 g0) (fun R1756 T1757 H1758 p1759 => ?_))
                obtain ⟨e1760, e1762, z1763, e1761, b1764⟩ := p1759
                subst e1760
                subst e1761
                subst e1762
                show wp _ _ 276 66 [(1, vI z1715), (0, .ref r0)] [vI z1763] _ H1709 _
                refine wp_of e276 c276_66 (rw_istore_n (pc' := 67) (z := z1763) (L' := [(2, vI z1763), (1, vI z1715), (0, .ref r0)]) rfl rfl rfl ?_)
                refine wp_of e276 c276_67 (rw_iconst (pc' := 68) rfl ?_)
                refine wp_of e276 c276_68 (rw_istore_n (pc' := 69) (z := 0) (L' := [(3, vI 0), (2, vI z1763), (1, vI z1715), (0, .ref r0)]) rfl rfl rfl ?_)
                have lp1845 : ∀ (n1846 : Nat) (v1848 : Int) (H1849 : wq_H), WT T H1849 → wfr [(51, 999)] T H1709 H1849 → (0 ≤ v1848 ∧ v1848 ≤ 4) → (4 - v1848).toNat = n1846 → wp kt 7 276 69 [(3, vI v1848), (2, vI z1763), (0, .ref r0)] [] T H1849 (uq_276 r0 e d T H) := by
                  intro n1846
                  induction n1846 using Nat.strongRecOn with
                  | _ n1846 ih1847 =>
                    intro v1848 H1849 w1850 f1851 b1852 m1853
                    have f1854 := f1734.tr f1851 rfl
                    refine wp_of e276 c276_69 (rw_iload_n (pc' := 70) (z := v1848) rfl rfl ?_)
                    refine wp_of e276 c276_70 (rw_iconst (pc' := 71) rfl ?_)
                    refine wp_of e276 c276_71 (rw_icmp_ge (p1 := 101) (p2 := 74) (by decide) rfl ⟨Int.le_trans (by decide) b1852.1, Int.le_trans b1852.2 (by decide)⟩ ⟨by decide, by decide⟩ (fun c1855 => ?_) (fun c1855 => ?_))
                    · refine wp_of e276 c276_101 (rw_aload_n (pc' := 102) (v := .ref r0) rfl rfl rfl ?_)
                      refine wp_of e276 c276_102 (rw_bipush (pc' := 104) (z := -2) rfl (by decide) ?_)
                      refine wp_of e276 c276_104 (xc_V (pc' := 107) (r := r0) (as := [vI (-2)]) (st := []) (lm_9_58) rfl rfl (Nat.le_of_ble_eq_true rfl) w1850 g0 sh_42 (by decide) rfl (by decide) (s_209 w1850 g0 ⟨by decide, by decide⟩) (fun R1856 T1857 H1858 p1859 => ?_))
                      obtain ⟨e1860, w1862, f1863, z1864, e1861, b1865⟩ := p1859
                      subst e1860
                      subst e1861
                      have f1866 := f1854.tr f1863 rfl
                      show wp _ _ 276 107 [(3, vI v1848), (2, vI z1763), (0, .ref r0)] [vI z1864] _ H1858 _
                      have k1867 : wKI H1858 r0 = wKI H1709 r0 := ((wKI_fr w1850 g0 f1863 rfl).trans (wKI_fr w1713 g0 f1851 rfl))
                      have h1868 : KNN T H1858 r0 e d := (KNN_fr w1850 g0 f1863 rfl (KNN_fr w1713 g0 f1851 rfl a1725))
                      exact wp_ireturn e276 c276_107 rfl ⟨rfl, w1862, f1866, z1864, rfl, ⟨b1865.1, b1865.2⟩, ⟨by omega, h1868⟩⟩
                    · refine wp_of e276 c276_74 (rw_aload_n (pc' := 75) (v := .ref r0) rfl rfl rfl ?_)
                      refine wp_of e276 c276_75 (rw_iload_n (pc' := 76) (z := z1763) rfl rfl ?_)
                      have k1869 : wLM H1849 r0 = wLM H1709 r0 := (wLM_fr w1713 g0 f1851 rfl)
                      refine wp_of e276 c276_76 (rw_iload_n (pc' := 77) (z := v1848) rfl rfl ?_)
                      have k1870 : H1849 r0 3 = H1709 r0 3 := (f1851 r0 3 _ g0 rfl)
                      have q1871 : H1849 r0 3 = (r1457 : Int) := k1870.trans q1738
                      refine wp_of e276 c276_77 (xc_V (pc' := 80) (r := r0) (as := [vI z1763, vI v1848]) (st := []) (lm_9_481) rfl rfl (Nat.le_of_ble_eq_true rfl) w1850 g0 sh_42 (by decide) rfl (by decide) (s_277 w1850 g0 ⟨Int.le_trans (by decide) b1764.1, Int.le_trans b1764.2 (by decide)⟩ ⟨b1852.1, by omega⟩ q1871 g1459 (by omega)) (fun R1872 T1873 H1874 p1875 => ?_))
                      obtain ⟨e1876, w1878, f1879, z1880, e1877, b1881⟩ := p1875
                      subst e1876
                      subst e1877
                      have f1882 := f1854.tr f1879 rfl
                      have f1883 := f1851.tr f1879 rfl
                      show wp _ _ 276 80 [(3, vI v1848), (2, vI z1763), (0, .ref r0)] [vI z1880] _ H1874 _
                      refine wp_of e276 c276_80 (rw_istore (pc' := 82) (z := z1880) (L' := [(4, vI z1880), (3, vI v1848), (2, vI z1763), (0, .ref r0)]) rfl rfl rfl ?_)
                      refine wp_of e276 c276_82 (rw_iload (pc' := 84) (z := z1880) rfl rfl ?_)
                      refine wp_of e276 c276_84 (rw_iconst (pc' := 85) rfl ?_)
                      refine wp_of e276 c276_85 (rw_icmp_eq (p1 := 95) (p2 := 88) (by decide) rfl ⟨b1881.1, b1881.2⟩ ⟨by decide, by decide⟩ (fun c1884 => ?_) (fun c1884 => ?_))
                      · refine wp_of e276 c276_95 (rw_iinc (pc' := 98) (z := v1848) (L' := [(3, vI (v1848 + 1)), (4, vI z1880), (2, vI z1763), (0, .ref r0)]) rfl rfl rfl rfl ?_)
                        refine wp_of e276 c276_98 (rw_goto (p1 := 69) (by decide) ?_)
                        exact wp_lc (ks := [3, 4, 2, 0]) (wl_c rfl (wl_c rfl (wl_c rfl wl_n))) rfl (by decide) (ih1847 _ (by omega) (v1848 + 1) H1874 w1878 f1883 ⟨by omega, by omega⟩ rfl)
                      · refine wp_of e276 c276_88 (rw_aload_n (pc' := 89) (v := .ref r0) rfl rfl rfl ?_)
                        refine wp_of e276 c276_89 (rw_iload (pc' := 91) (z := z1880) rfl rfl ?_)
                        refine wp_of e276 c276_91 (xc_V (pc' := 94) (r := r0) (as := [vI z1880]) (st := []) (lm_9_58) rfl rfl (Nat.le_of_ble_eq_true rfl) w1878 g0 sh_42 (by decide) rfl (by decide) (s_209 w1878 g0 ⟨b1881.1, b1881.2⟩) (fun R1885 T1886 H1887 p1888 => ?_))
                        obtain ⟨e1889, w1891, f1892, z1893, e1890, b1894⟩ := p1888
                        subst e1889
                        subst e1890
                        have f1895 := f1882.tr f1892 rfl
                        show wp _ _ 276 94 [(4, vI z1880), (3, vI v1848), (2, vI z1763), (0, .ref r0)] [vI z1893] _ H1887 _
                        have k1896 : wKI H1887 r0 = wKI H1709 r0 := ((wKI_fr w1878 g0 f1892 rfl).trans ((wKI_fr w1850 g0 f1879 rfl).trans (wKI_fr w1713 g0 f1851 rfl)))
                        have h1897 : KNN T H1887 r0 e d := (KNN_fr w1878 g0 f1892 rfl (KNN_fr w1850 g0 f1879 rfl (KNN_fr w1713 g0 f1851 rfl a1725)))
                        exact wp_ireturn e276 c276_94 rfl ⟨rfl, w1891, f1895, z1893, rfl, ⟨b1894.1, b1894.2⟩, ⟨by omega, h1897⟩⟩
                exact wp_lc (ks := [3, 2, 1, 0]) (wl_c rfl (wl_c rfl (wl_c rfl wl_n))) rfl (by decide) (lp1845 _ 0 H1709 w1713 wfr.rf ⟨by decide, by decide⟩ rfl)
              · exfalso
                omega
            · refine wp_of e276 c276_50 (rw_iconst (pc' := 51) rfl ?_)
              refine wp_of e276 c276_51 (rw_istore_n (pc' := 52) (z := 5) (L' := [(1, vI 5), (0, .ref r0)]) rfl rfl rfl ?_)
              refine wp_of e276 c276_52 (rw_iload_n (pc' := 53) (z := 5) rfl rfl ?_)
              refine wp_of e276 c276_53 (rw_if_le (p1 := 62) (p2 := 56) (by decide) rfl ⟨by decide, by decide⟩ (fun c1898 => ?_) (fun c1898 => ?_))
              · exfalso
                omega
              · refine wp_of e276 c276_56 (rw_aload_n (pc' := 57) (v := .ref r0) rfl rfl rfl ?_)
                refine wp_of e276 c276_57 (rw_iload_n (pc' := 58) (z := 5) rfl rfl ?_)
                refine wp_of e276 c276_58 (xc_V (pc' := 61) (r := r0) (as := [vI 5]) (st := []) (lm_9_54) rfl rfl (Nat.le_of_ble_eq_true rfl) w1713 g0 sh_42 (by decide) rfl (by decide) (s_170 w1713 g0 ⟨by decide, by decide⟩) (fun R1899 T1900 H1901 p1902 => ?_))
                obtain ⟨e1903, w1905, f1906, z1907, e1904, b1908⟩ := p1902
                subst e1903
                subst e1904
                have f1909 := f1734.tr f1906 rfl
                show wp _ _ 276 61 [(1, vI 5), (0, .ref r0)] [vI z1907] _ H1901 _
                have k1910 : wKI H1901 r0 = wKI H1709 r0 := (wKI_fr w1713 g0 f1906 rfl)
                have h1911 : KNN T H1901 r0 e d := (KNN_fr w1713 g0 f1906 rfl a1725)
                exact wp_ireturn e276 c276_61 rfl ⟨rfl, w1905, f1909, z1907, rfl, ⟨b1908.1, b1908.2⟩, ⟨by omega, h1911⟩⟩
        · refine wp_of e276 c276_37 (rw_iconst (pc' := 38) rfl ?_)
          refine wp_of e276 c276_38 (rw_istore_n (pc' := 39) (z := 3) (L' := [(1, vI 3), (0, .ref r0)]) rfl rfl rfl ?_)
          refine wp_of e276 c276_39 (rw_iload_n (pc' := 40) (z := 3) rfl rfl ?_)
          refine wp_of e276 c276_40 (rw_if_ne (p1 := 52) (p2 := 43) (by decide) rfl ⟨by decide, by decide⟩ (fun c1912 => ?_) (fun c1912 => ?_))
          · refine wp_of e276 c276_52 (rw_iload_n (pc' := 53) (z := 3) rfl rfl ?_)
            refine wp_of e276 c276_53 (rw_if_le (p1 := 62) (p2 := 56) (by decide) rfl ⟨by decide, by decide⟩ (fun c1913 => ?_) (fun c1913 => ?_))
            · exfalso
              omega
            · refine wp_of e276 c276_56 (rw_aload_n (pc' := 57) (v := .ref r0) rfl rfl rfl ?_)
              refine wp_of e276 c276_57 (rw_iload_n (pc' := 58) (z := 3) rfl rfl ?_)
              refine wp_of e276 c276_58 (xc_V (pc' := 61) (r := r0) (as := [vI 3]) (st := []) (lm_9_54) rfl rfl (Nat.le_of_ble_eq_true rfl) w1713 g0 sh_42 (by decide) rfl (by decide) (s_170 w1713 g0 ⟨by decide, by decide⟩) (fun R1914 T1915 H1916 p1917 => ?_))
              obtain ⟨e1918, w1920, f1921, z1922, e1919, b1923⟩ := p1917
              subst e1918
              subst e1919
              have f1924 := f1734.tr f1921 rfl
              show wp _ _ 276 61 [(1, vI 3), (0, .ref r0)] [vI z1922] _ H1916 _
              have k1925 : wKI H1916 r0 = wKI H1709 r0 := (wKI_fr w1713 g0 f1921 rfl)
              have h1926 : KNN T H1916 r0 e d := (KNN_fr w1713 g0 f1921 rfl a1725)
              exact wp_ireturn e276 c276_61 rfl ⟨rfl, w1920, f1924, z1922, rfl, ⟨b1923.1, b1923.2⟩, ⟨by omega, h1926⟩⟩
          · exfalso
            omega
    · have f1927 := f1454.tr f1714 rfl
      show wp _ _ 276 21 [(0, .ref r0)] [vI z1715] _ H1709 _
      have k1928 : wLM H1709 r0 = wLM H r0 := ((wLM_fr w1453 g0 f1714 rfl).trans (wLM_fr hW g0 ((wfr.rf (l := [(42, 0)])).put' e1452 g0 rfl) rfl))
      refine wp_of e276 c276_21 (rw_istore_n (pc' := 22) (z := z1715) (L' := [(1, vI z1715), (0, .ref r0)]) rfl rfl rfl ?_)
      refine wp_of e276 c276_22 (rw_iload_n (pc' := 23) (z := z1715) rfl rfl ?_)
      refine wp_of e276 c276_23 (rw_if_ne (p1 := 39) (p2 := 26) (by decide) rfl ⟨Int.le_trans (by decide) b1716.1, Int.le_trans b1716.2 (by decide)⟩ (fun c1929 => ?_) (fun c1929 => ?_))
      · refine wp_of e276 c276_39 (rw_iload_n (pc' := 40) (z := z1715) rfl rfl ?_)
        refine wp_of e276 c276_40 (rw_if_ne (p1 := 52) (p2 := 43) (by decide) rfl ⟨Int.le_trans (by decide) b1716.1, Int.le_trans b1716.2 (by decide)⟩ (fun c1930 => ?_) (fun c1930 => ?_))
        · refine wp_of e276 c276_52 (rw_iload_n (pc' := 53) (z := z1715) rfl rfl ?_)
          refine wp_of e276 c276_53 (rw_if_le (p1 := 62) (p2 := 56) (by decide) rfl ⟨Int.le_trans (by decide) b1716.1, Int.le_trans b1716.2 (by decide)⟩ (fun c1931 => ?_) (fun c1931 => ?_))
          · exfalso
            omega
          · refine wp_of e276 c276_56 (rw_aload_n (pc' := 57) (v := .ref r0) rfl rfl rfl ?_)
            refine wp_of e276 c276_57 (rw_iload_n (pc' := 58) (z := z1715) rfl rfl ?_)
            refine wp_of e276 c276_58 (xc_V (pc' := 61) (r := r0) (as := [vI z1715]) (st := []) (lm_9_54) rfl rfl (Nat.le_of_ble_eq_true rfl) w1713 g0 sh_42 (by decide) rfl (by decide) (s_170 w1713 g0 ⟨Int.le_trans (by decide) b1716.1, Int.le_trans b1716.2 (by decide)⟩) (fun R1932 T1933 H1934 p1935 => ?_))
            obtain ⟨e1936, w1938, f1939, z1940, e1937, b1941⟩ := p1935
            subst e1936
            subst e1937
            have f1942 := f1927.tr f1939 rfl
            show wp _ _ 276 61 [(1, vI z1715), (0, .ref r0)] [vI z1940] _ H1934 _
            have k1943 : wKI H1934 r0 = wKI H1709 r0 := (wKI_fr w1713 g0 f1939 rfl)
            have h1944 : KNN T H1934 r0 e d := (KNN_fr w1713 g0 f1939 rfl a1733)
            exact wp_ireturn e276 c276_61 rfl ⟨rfl, w1938, f1942, z1940, rfl, ⟨b1941.1, b1941.2⟩, ⟨by omega, h1944⟩⟩
        · exfalso
          omega
      · exfalso
        omega
/-! StrikeAwakeModel.part(IZ)I  -/
abbrev uq_279 (r0 : Nat) (a1 : Int) (a2 : Int) (e : xD) (d : xD) (T : wq_T) (H : wq_H) : Option Value → wq_T → wq_H → Prop := fun r T' H' => T = T' ∧ WT T H' ∧ wfr [(42, 0), (42, 1), (42, 2), (42, 28), (42, 29), (51, 999), (52, 999)] T H H' ∧ ∃ z : Int, some (vI z) = r ∧ ((-2147483648) ≤ z ∧ z ≤ 2147483647) ∧ (((wKI H' r0 = 1) ∧ KNN T H' r0 e d))
set_option maxHeartbeats 4000000 in
theorem u_279 {kt : Nat → Option mc_E} {T : wq_T} {H : wq_H} {r0 : Nat} {a1 : Int} {a2 : Int} {e : xD} {d : xD} (hW : WT T H) (g0 : T.2.2.2 r0 = some 42) (i1 : (-2147483648) ≤ a1 ∧ a1 ≤ 2147483647) (i2 : 0 ≤ a2 ∧ a2 ≤ 1) (p0 : wKI H r0 = 1) (p1 : XW d) (p2 : ∀ h : Nat, d 0 0 ≤ (h : Int) → h < 24 → e 13 h = 0) (p3 : XN d) (p4 : ∀ h : Nat, h < 24 → 0 ≤ e 13 h ∧ e 13 h ≤ 100) (hRB_r0 : RB T H r0 e d) (hKNN_r0 : KNN T H r0 e d) : wpc kt 9 279 [.ref r0, vI a1, vI a2] T H (uq_279 r0 a1 a2 e d T H) := by
  refine wp_enter e279 (Nat.le_of_ble_eq_true rfl) rfl ?_
  have f0 : wfr [(42, 0), (42, 1), (42, 2), (42, 28), (42, 29), (51, 999), (52, 999)] T H H := wfr.rf
  show wp _ _ 279 0 [(0, .ref r0), (1, vI a1), (2, vI a2)] [] _ H _
  have _b := RB_b hW hRB_r0
  have _nu := RB_n3 hRB_r0
  have _lm := RB_lm hRB_r0
  refine wp_of e279 c279_0 (rw_aload_n (pc' := 1) (v := .ref r0) rfl rfl rfl ?_)
  refine wp_of e279 c279_1 (rw_iconst (pc' := 2) rfl ?_)
  refine wp_of e279 c279_2 (xp_I (pc' := 5) lf_9_48 hW g0 sh_42 (by decide) (by decide) ty_42_0 rfl rfl (by decide) (by decide) ⟨by decide, by decide⟩ rfl (fun H1522 e1523 w1524 => ?_))
  have f1525 := f0.put' e1523 g0 rfl
  have k1526 : H1522 r0 0 = 0 := wq_u_s e1523
  refine wp_of e279 c279_5 (rw_aload_n (pc' := 6) (v := .ref r0) rfl rfl rfl ?_)
  refine wp_of e279 c279_6 (rw_aload_n (pc' := 7) (v := .ref r0) rfl rfl rfl ?_)
  refine wp_of e279 c279_7 (rw_iload_n (pc' := 8) (z := a1) rfl rfl ?_)
  refine wp_of e279 c279_8 (xc_V (pc' := 11) (r := r0) (as := [vI a1]) (st := [.ref r0]) (lm_9_487) rfl rfl (Nat.le_of_ble_eq_true rfl) w1524 g0 sh_42 (by decide) rfl (by decide) (s_280 w1524 g0 ⟨i1.1, i1.2⟩) (fun R1527 T1528 H1529 p1530 => ?_))
  obtain ⟨e1531, e1533, z1535, e1532, b1536, p1534⟩ := p1530
  subst e1531
  subst e1532
  subst e1533
  show wp _ _ 279 11 [(0, .ref r0), (1, vI a1), (2, vI a2)] [vI z1535, .ref r0] _ H1522 _
  have k1537 : H1522 r0 3 = H r0 3 := (wq_u_j e1523 rfl)
  have k1538 : wKI H1522 r0 = wKI H r0 := (wKI_fr hW g0 ((wfr.rf (l := [(42, 0)])).put' e1523 g0 rfl) rfl)
  have h1539 : RB T H1522 r0 e d := (RB_fr hW g0 ((wfr.rf (l := [(42, 0)])).put' e1523 g0 rfl) rfl hRB_r0)
  have h1540 : KNN T H1522 r0 e d := (KNN_fr hW g0 ((wfr.rf (l := [(42, 0)])).put' e1523 g0 rfl) rfl hKNN_r0)
  refine wp_of e279 c279_11 (xc_V (pc' := 14) (r := r0) (as := [vI z1535]) (st := []) (lm_9_447) rfl rfl (Nat.le_of_ble_eq_true rfl) w1524 g0 sh_42 (by decide) rfl (by decide) (u_253 (e := e) (d := d) w1524 g0 ⟨b1536.1, b1536.2⟩ (by omega) (by omega) (by assumption) (by assumption) (by assumption) (by assumption) h1539 h1540) (fun R1541 T1542 H1543 p1544 => ?_))
  obtain ⟨e1545, w1547, f1548, z1549, e1546, b1550, p1551⟩ := p1544
  subst e1545
  subst e1546
  rcases p1551 with ⟨a1552, a1553, a1554, a1555, a1556, a1557, a1558, a1559, a1560, a1561⟩ | ⟨a1562, a1563, a1564, a1565, a1566, a1567, a1568⟩
  · have f1569 := f1525.tr f1548 rfl
    show wp _ _ 279 14 [(0, .ref r0), (1, vI a1), (2, vI a2)] [vI z1549] _ H1543 _
    have k1570 : wLM H1543 r0 = wLM H r0 := ((wLM_fr w1524 g0 f1548 rfl).trans (wLM_fr hW g0 ((wfr.rf (l := [(42, 0)])).put' e1523 g0 rfl) rfl))
    refine wp_of e279 c279_14 (rw_istore_n (pc' := 15) (z := z1549) (L' := [(3, vI z1549), (0, .ref r0), (1, vI a1), (2, vI a2)]) rfl rfl rfl ?_)
    refine wp_of e279 c279_15 (rw_iload_n (pc' := 16) (z := z1549) rfl rfl ?_)
    refine wp_of e279 c279_16 (rw_if_le (p1 := 25) (p2 := 19) (by decide) rfl ⟨Int.le_trans (by decide) b1550.1, Int.le_trans b1550.2 (by decide)⟩ (fun c1571 => ?_) (fun c1571 => ?_))
    · refine wp_of e279 c279_25 (rw_iconst (pc' := 26) rfl ?_)
      refine wp_of e279 c279_26 (rw_istore (pc' := 28) (z := 0) (L' := [(4, vI 0), (3, vI z1549), (0, .ref r0), (1, vI a1), (2, vI a2)]) rfl rfl rfl ?_)
      refine wp_of e279 c279_28 (rw_iconst (pc' := 29) rfl ?_)
      refine wp_of e279 c279_29 (rw_istore (pc' := 31) (z := 0) (L' := [(5, vI 0), (4, vI 0), (3, vI z1549), (0, .ref r0), (1, vI a1), (2, vI a2)]) rfl rfl rfl ?_)
      have lp1969 : ∀ (n1970 : Nat) (v1972 : Int) (v1973 : Int) (H1974 : wq_H), WT T H1974 → wfr [(51, 999)] T H1543 H1974 → (0 ≤ v1972 ∧ v1972 ≤ 20000) → ((-2147483648) ≤ v1973 ∧ v1973 ≤ 2147483647) → (20000 - v1972).toNat = n1970 → wp kt 8 279 31 [(5, vI v1972), (4, vI v1973), (0, .ref r0), (1, vI a1), (2, vI a2)] [] T H1974 (uq_279 r0 a1 a2 e d T H) := by
        intro n1970
        induction n1970 using Nat.strongRecOn with
        | _ n1970 ih1971 =>
          intro v1972 v1973 H1974 w1975 f1976 b1977 b1978 m1979
          have f1980 := f1569.tr f1976 rfl
          refine wp_of e279 c279_31 (rw_iload (pc' := 33) (z := v1972) rfl rfl ?_)
          refine wp_of e279 c279_33 (rw_aload_n (pc' := 34) (v := .ref r0) rfl rfl rfl ?_)
          have k1981 : H1974 r0 29 = H1543 r0 29 := (f1976 r0 29 _ g0 rfl)
          refine wp_of e279 c279_34 (xg_I (pc' := 37) lf_9_422 w1975 g0 sh_42 (by decide) (by decide) ty_42_29 rfl rfl (fun b1982 b1983 => ?_))
          refine wp_of e279 c279_37 (rw_icmp_ge (p1 := 112) (p2 := 40) (by decide) rfl ⟨Int.le_trans (by decide) b1977.1, Int.le_trans b1977.2 (by decide)⟩ ⟨Int.le_trans (by decide) b1982, Int.le_trans b1983 (by decide)⟩ (fun c1984 => ?_) (fun c1984 => ?_))
          · refine wp_of e279 c279_112 (rw_aload_n (pc' := 113) (v := .ref r0) rfl rfl rfl ?_)
            refine wp_of e279 c279_113 (rw_iload (pc' := 115) (z := v1973) rfl rfl ?_)
            refine wp_of e279 c279_115 (xc_V (pc' := 118) (r := r0) (as := [vI v1973]) (st := []) (lm_9_58) rfl rfl (Nat.le_of_ble_eq_true rfl) w1975 g0 sh_42 (by decide) rfl (by decide) (s_209 w1975 g0 ⟨b1978.1, b1978.2⟩) (fun R1985 T1986 H1987 p1988 => ?_))
            obtain ⟨e1989, w1991, f1992, z1993, e1990, b1994⟩ := p1988
            subst e1989
            subst e1990
            have f1995 := f1980.tr f1992 rfl
            show wp _ _ 279 118 [(5, vI v1972), (4, vI v1973), (0, .ref r0), (1, vI a1), (2, vI a2)] [vI z1993] _ H1987 _
            have k1996 : wKI H1987 r0 = wKI H1543 r0 := ((wKI_fr w1975 g0 f1992 rfl).trans (wKI_fr w1547 g0 f1976 rfl))
            have h1997 : KNN T H1987 r0 e d := (KNN_fr w1975 g0 f1992 rfl (KNN_fr w1547 g0 f1976 rfl a1560))
            exact wp_ireturn e279 c279_118 rfl ⟨rfl, w1991, f1995, z1993, rfl, ⟨b1994.1, b1994.2⟩, ⟨by omega, h1997⟩⟩
          · refine wp_of e279 c279_40 (rw_aload_n (pc' := 41) (v := .ref r0) rfl rfl rfl ?_)
            refine wp_of e279 c279_41 (rw_aload_n (pc' := 42) (v := .ref r0) rfl rfl rfl ?_)
            refine wp_of e279 c279_42 (xg_R (pc' := 45) lf_9_42 w1975 g0 sh_42 (by decide) (by decide) ty_42_30 rfl rfl (fun r1998 q1999 g2000 => ?_))
            refine wp_of e279 c279_45 (rw_iload (pc' := 47) (z := v1972) rfl rfl ?_)
            refine wp_of e279 c279_47 (xa_I (so := 0) (pc' := 48) w1975 g2000 sh_52 (by decide) (ty_52 _) (b1977.1) (by omega) rfl (fun b2001 b2002 => ?_))
            have k2003 : wLM H1974 r0 = wLM H1543 r0 := (wLM_fr w1547 g0 f1976 rfl)
            have k2004 : H1974 r0 3 = H1522 r0 3 := ((f1976 r0 3 _ g0 rfl).trans (f1548 r0 3 _ g0 rfl))
            obtain ⟨r2005, q2006, g2007⟩ := (w1975.opt g0 (t' := 54) (n := 33) (j := 3) (p := 0) (q := 0) rfl (by decide) rfl).resolve_left (by omega)
            refine wp_of e279 c279_48 (xc_V (pc' := 51) (r := r0) (as := [vI (H1974 r1998 (v1972.toNat))]) (st := []) (lm_9_425) rfl rfl (Nat.le_of_ble_eq_true rfl) w1975 g0 sh_42 (by decide) rfl (by decide) (s_243 w1975 g0 ⟨b2001, Int.le_trans b2002 (by decide)⟩ q2006 g2007 (by omega)) (fun R2008 T2009 H2010 p2011 => ?_))
            obtain ⟨e2012, w2014, f2015, e2013⟩ := p2011
            subst e2012
            subst e2013
            have f2016 := f1980.tr f2015 rfl
            have f2017 := f1976.tr f2015 rfl
            show wp _ _ 279 51 [(5, vI v1972), (4, vI v1973), (0, .ref r0), (1, vI a1), (2, vI a2)] [] _ H2010 _
            refine wp_of e279 c279_51 (rw_aload_n (pc' := 52) (v := .ref r0) rfl rfl rfl ?_)
            refine wp_of e279 c279_52 (xg_R (pc' := 55) lf_9_17 w2014 g0 sh_42 (by decide) (by decide) ty_42_20 rfl rfl (fun r2018 q2019 g2020 => ?_))
            refine wp_of e279 c279_55 (rw_iload_n (pc' := 56) (z := a1) rfl rfl ?_)
            refine wp_of e279 c279_56 (xa_I (so := 0) (pc' := 57) w2014 g2020 sh_44 (by decide) (ty_44 _) (by omega) (by omega) rfl (fun b2021 b2022 => ?_))
            refine wp_of e279 c279_57 (rw_iconst (pc' := 58) rfl ?_)
            refine wp_of e279 c279_58 (rw_isubw (pc' := 59) rfl ?_)
            obtain ⟨v2023, e2024⟩ : ∃ x : Int, x = wq_w ((H2010 r2018 (a1.toNat)) - 1) := ⟨_, rfl⟩
            rw [← e2024]
            have b2025 : -2147483648 ≤ v2023 ∧ v2023 ≤ 2147483647 := by
              rw [e2024]
              exact wI_w _
            have b2026 : (-2147483648 ≤ (H2010 r2018 (a1.toNat)) - 1 ∧ (H2010 r2018 (a1.toNat)) - 1 ≤ 2147483647) → v2023 = (H2010 r2018 (a1.toNat)) - 1 := fun h => by rw [e2024]; exact wq_w_id h
            refine wp_of e279 c279_59 (rw_aload_n (pc' := 60) (v := .ref r0) rfl rfl rfl ?_)
            refine wp_of e279 c279_60 (rw_aload_n (pc' := 61) (v := .ref r0) rfl rfl rfl ?_)
            refine wp_of e279 c279_61 (xg_R (pc' := 64) lf_9_39 w2014 g0 sh_42 (by decide) (by decide) ty_42_27 rfl rfl (fun r2027 q2028 g2029 => ?_))
            refine wp_of e279 c279_64 (rw_iload_n (pc' := 65) (z := a1) rfl rfl ?_)
            have k2030 : H2010 r0 3 = H1974 r0 3 := (f2015 r0 3 _ g0 rfl)
            have q2031 : H2010 r0 3 = (r2005 : Int) := k2030.trans q2006
            refine wp_of e279 c279_65 (xc_V (pc' := 68) (r := r0) (as := [.ref r2027, vI a1]) (st := [vI v2023]) (lm_9_386) rfl rfl (Nat.le_of_ble_eq_true rfl) w2014 g0 sh_42 (by decide) rfl (by decide) (s_228_m_lot w2014 g0 g2029 ⟨i1.1, i1.2⟩ q2031 g2007) (fun R2032 T2033 H2034 p2035 => ?_))
            obtain ⟨e2036, e2038, z2039, e2037, b2040⟩ := p2035
            subst e2036
            subst e2037
            subst e2038
            show wp _ _ 279 68 [(5, vI v1972), (4, vI v1973), (0, .ref r0), (1, vI a1), (2, vI a2)] [vI z2039, vI v2023] _ H2010 _
            refine wp_of e279 c279_68 (rw_isubw (pc' := 69) rfl ?_)
            obtain ⟨v2041, e2042⟩ : ∃ x : Int, x = wq_w (v2023 - z2039) := ⟨_, rfl⟩
            rw [← e2042]
            have b2043 : -2147483648 ≤ v2041 ∧ v2041 ≤ 2147483647 := by
              rw [e2042]
              exact wI_w _
            have b2044 : (-2147483648 ≤ v2023 - z2039 ∧ v2023 - z2039 ≤ 2147483647) → v2041 = v2023 - z2039 := fun h => by rw [e2042]; exact wq_w_id h
            refine wp_of e279 c279_69 (rw_istore (pc' := 71) (z := v2041) (L' := [(6, vI v2041), (5, vI v1972), (4, vI v1973), (0, .ref r0), (1, vI a1), (2, vI a2)]) rfl rfl rfl ?_)
            refine wp_of e279 c279_71 (rw_iload (pc' := 73) (z := v1972) rfl rfl ?_)
            refine wp_of e279 c279_73 (rw_if_eq (p1 := 97) (p2 := 76) (by decide) rfl ⟨Int.le_trans (by decide) b1977.1, Int.le_trans b1977.2 (by decide)⟩ (fun c2045 => ?_) (fun c2045 => ?_))
            · refine wp_of e279 c279_97 (rw_iload (pc' := 99) (z := v2041) rfl rfl ?_)
              refine wp_of e279 c279_99 (rw_goto (p1 := 104) (by decide) ?_)
              refine wp_of e279 c279_104 (rw_istore (pc' := 106) (z := v2041) (L' := [(4, vI v2041), (6, vI v2041), (5, vI v1972), (0, .ref r0), (1, vI a1), (2, vI a2)]) rfl rfl rfl ?_)
              refine wp_of e279 c279_106 (rw_iinc (pc' := 109) (z := v1972) (L' := [(5, vI (v1972 + 1)), (4, vI v2041), (6, vI v2041), (0, .ref r0), (1, vI a1), (2, vI a2)]) rfl rfl rfl rfl ?_)
              refine wp_of e279 c279_109 (rw_goto (p1 := 31) (by decide) ?_)
              exact wp_lc (ks := [5, 4, 6, 0, 1, 2]) (wl_c rfl (wl_c rfl (wl_c rfl (wl_c rfl (wl_c rfl wl_n))))) rfl (by decide) (ih1971 _ (by omega) (v1972 + 1) v2041 H2010 w2014 f2017 ⟨by omega, by omega⟩ ⟨b2043.1, b2043.2⟩ rfl)
            · refine wp_of e279 c279_76 (rw_iload_n (pc' := 77) (z := a2) rfl rfl ?_)
              refine wp_of e279 c279_77 (rw_if_eq (p1 := 90) (p2 := 80) (by decide) rfl ⟨Int.le_trans (by decide) i2.1, Int.le_trans i2.2 (by decide)⟩ (fun c2046 => ?_) (fun c2046 => ?_))
              · refine wp_of e279 c279_90 (rw_iload (pc' := 92) (z := v2041) rfl rfl ?_)
                refine wp_of e279 c279_92 (rw_iload (pc' := 94) (z := v1973) rfl rfl ?_)
                refine wp_of e279 c279_94 (rw_icmp_ge (p1 := 102) (p2 := 97) (by decide) rfl ⟨b2043.1, b2043.2⟩ ⟨b1978.1, b1978.2⟩ (fun c2047 => ?_) (fun c2047 => ?_))
                · refine wp_of e279 c279_102 (rw_iload (pc' := 104) (z := v1973) rfl rfl ?_)
                  refine wp_of e279 c279_104 (rw_istore (pc' := 106) (z := v1973) (L' := [(4, vI v1973), (6, vI v2041), (5, vI v1972), (0, .ref r0), (1, vI a1), (2, vI a2)]) rfl rfl rfl ?_)
                  refine wp_of e279 c279_106 (rw_iinc (pc' := 109) (z := v1972) (L' := [(5, vI (v1972 + 1)), (4, vI v1973), (6, vI v2041), (0, .ref r0), (1, vI a1), (2, vI a2)]) rfl rfl rfl rfl ?_)
                  refine wp_of e279 c279_109 (rw_goto (p1 := 31) (by decide) ?_)
                  exact wp_lc (ks := [5, 4, 6, 0, 1, 2]) (wl_c rfl (wl_c rfl (wl_c rfl (wl_c rfl (wl_c rfl wl_n))))) rfl (by decide) (ih1971 _ (by omega) (v1972 + 1) v1973 H2010 w2014 f2017 ⟨by omega, by omega⟩ ⟨b1978.1, b1978.2⟩ rfl)
                · refine wp_of e279 c279_97 (rw_iload (pc' := 99) (z := v2041) rfl rfl ?_)
                  refine wp_of e279 c279_99 (rw_goto (p1 := 104) (by decide) ?_)
                  refine wp_of e279 c279_104 (rw_istore (pc' := 106) (z := v2041) (L' := [(4, vI v2041), (6, vI v2041), (5, vI v1972), (0, .ref r0), (1, vI a1), (2, vI a2)]) rfl rfl rfl ?_)
                  refine wp_of e279 c279_106 (rw_iinc (pc' := 109) (z := v1972) (L' := [(5, vI (v1972 + 1)), (4, vI v2041), (6, vI v2041), (0, .ref r0), (1, vI a1), (2, vI a2)]) rfl rfl rfl rfl ?_)
                  refine wp_of e279 c279_109 (rw_goto (p1 := 31) (by decide) ?_)
                  exact wp_lc (ks := [5, 4, 6, 0, 1, 2]) (wl_c rfl (wl_c rfl (wl_c rfl (wl_c rfl (wl_c rfl wl_n))))) rfl (by decide) (ih1971 _ (by omega) (v1972 + 1) v2041 H2010 w2014 f2017 ⟨by omega, by omega⟩ ⟨b2043.1, b2043.2⟩ rfl)
              · refine wp_of e279 c279_80 (rw_iload (pc' := 82) (z := v2041) rfl rfl ?_)
                refine wp_of e279 c279_82 (rw_iload (pc' := 84) (z := v1973) rfl rfl ?_)
                refine wp_of e279 c279_84 (rw_icmp_le (p1 := 102) (p2 := 87) (by decide) rfl ⟨b2043.1, b2043.2⟩ ⟨b1978.1, b1978.2⟩ (fun c2048 => ?_) (fun c2048 => ?_))
                · refine wp_of e279 c279_102 (rw_iload (pc' := 104) (z := v1973) rfl rfl ?_)
                  refine wp_of e279 c279_104 (rw_istore (pc' := 106) (z := v1973) (L' := [(4, vI v1973), (6, vI v2041), (5, vI v1972), (0, .ref r0), (1, vI a1), (2, vI a2)]) rfl rfl rfl ?_)
                  refine wp_of e279 c279_106 (rw_iinc (pc' := 109) (z := v1972) (L' := [(5, vI (v1972 + 1)), (4, vI v1973), (6, vI v2041), (0, .ref r0), (1, vI a1), (2, vI a2)]) rfl rfl rfl rfl ?_)
                  refine wp_of e279 c279_109 (rw_goto (p1 := 31) (by decide) ?_)
                  exact wp_lc (ks := [5, 4, 6, 0, 1, 2]) (wl_c rfl (wl_c rfl (wl_c rfl (wl_c rfl (wl_c rfl wl_n))))) rfl (by decide) (ih1971 _ (by omega) (v1972 + 1) v1973 H2010 w2014 f2017 ⟨by omega, by omega⟩ ⟨b1978.1, b1978.2⟩ rfl)
                · refine wp_of e279 c279_87 (rw_goto (p1 := 97) (by decide) ?_)
                  refine wp_of e279 c279_97 (rw_iload (pc' := 99) (z := v2041) rfl rfl ?_)
                  refine wp_of e279 c279_99 (rw_goto (p1 := 104) (by decide) ?_)
                  refine wp_of e279 c279_104 (rw_istore (pc' := 106) (z := v2041) (L' := [(4, vI v2041), (6, vI v2041), (5, vI v1972), (0, .ref r0), (1, vI a1), (2, vI a2)]) rfl rfl rfl ?_)
                  refine wp_of e279 c279_106 (rw_iinc (pc' := 109) (z := v1972) (L' := [(5, vI (v1972 + 1)), (4, vI v2041), (6, vI v2041), (0, .ref r0), (1, vI a1), (2, vI a2)]) rfl rfl rfl rfl ?_)
                  refine wp_of e279 c279_109 (rw_goto (p1 := 31) (by decide) ?_)
                  exact wp_lc (ks := [5, 4, 6, 0, 1, 2]) (wl_c rfl (wl_c rfl (wl_c rfl (wl_c rfl (wl_c rfl wl_n))))) rfl (by decide) (ih1971 _ (by omega) (v1972 + 1) v2041 H2010 w2014 f2017 ⟨by omega, by omega⟩ ⟨b2043.1, b2043.2⟩ rfl)
      exact wp_lc (ks := [5, 4, 3, 0, 1, 2]) (wl_c rfl (wl_c rfl (wl_c rfl (wl_c rfl (wl_c rfl wl_n))))) rfl (by decide) (lp1969 _ 0 0 H1543 w1547 wfr.rf ⟨by decide, by decide⟩ ⟨by decide, by decide⟩ rfl)
    · exfalso
      omega
  · have f2049 := f1525.tr f1548 rfl
    show wp _ _ 279 14 [(0, .ref r0), (1, vI a1), (2, vI a2)] [vI z1549] _ H1543 _
    have k2050 : wLM H1543 r0 = wLM H r0 := ((wLM_fr w1524 g0 f1548 rfl).trans (wLM_fr hW g0 ((wfr.rf (l := [(42, 0)])).put' e1523 g0 rfl) rfl))
    refine wp_of e279 c279_14 (rw_istore_n (pc' := 15) (z := z1549) (L' := [(3, vI z1549), (0, .ref r0), (1, vI a1), (2, vI a2)]) rfl rfl rfl ?_)
    refine wp_of e279 c279_15 (rw_iload_n (pc' := 16) (z := z1549) rfl rfl ?_)
    refine wp_of e279 c279_16 (rw_if_le (p1 := 25) (p2 := 19) (by decide) rfl ⟨Int.le_trans (by decide) b1550.1, Int.le_trans b1550.2 (by decide)⟩ (fun c2051 => ?_) (fun c2051 => ?_))
    · exfalso
      omega
    · refine wp_of e279 c279_19 (rw_aload_n (pc' := 20) (v := .ref r0) rfl rfl rfl ?_)
      refine wp_of e279 c279_20 (rw_iload_n (pc' := 21) (z := z1549) rfl rfl ?_)
      refine wp_of e279 c279_21 (xc_V (pc' := 24) (r := r0) (as := [vI z1549]) (st := []) (lm_9_490) rfl rfl (Nat.le_of_ble_eq_true rfl) w1547 g0 sh_42 (by decide) rfl (by decide) (s_281 w1547 g0 ⟨Int.le_trans (by decide) b1550.1, Int.le_trans b1550.2 (by decide)⟩) (fun R2052 T2053 H2054 p2055 => ?_))
      obtain ⟨e2056, w2058, f2059, z2060, e2057, b2061⟩ := p2055
      subst e2056
      subst e2057
      have f2062 := f2049.tr f2059 rfl
      show wp _ _ 279 24 [(3, vI z1549), (0, .ref r0), (1, vI a1), (2, vI a2)] [vI z2060] _ H2054 _
      have k2063 : wKI H2054 r0 = wKI H1543 r0 := (wKI_fr w1547 g0 f2059 rfl)
      have h2064 : KNN T H2054 r0 e d := (KNN_fr w1547 g0 f2059 rfl a1568)
      exact wp_ireturn e279 c279_24 rfl ⟨rfl, w2058, f2062, z2060, rfl, ⟨b2061.1, b2061.2⟩, ⟨by omega, h2064⟩⟩
