/-! what methods do (own work, written by wip/gen3/sx3.py) -/
/-! StrikeAwakeModel.hiding(II)I  -/
abbrev uq_261 (r0 : Nat) (a1 : Int) (a2 : Int) (e : xD) (d : xD) (T : wq_T) (H : wq_H) : Option Value → wq_T → wq_H → Prop := fun r T' H' => T = T' ∧ WT T H' ∧ wfr [(42, 0), (42, 1), (42, 2), (42, 28), (42, 29), (51, 999), (52, 999)] T H H' ∧ ∃ z : Int, some (vI z) = r ∧ ((-2147483648) ≤ z ∧ z ≤ 2147483647) ∧ (((wKI H' r0 = 1) ∧ KNN T H' r0 e d))
set_option maxHeartbeats 4000000 in
theorem u_261 {kt : Nat → Option mc_E} {T : wq_T} {H : wq_H} {r0 : Nat} {a1 : Int} {a2 : Int} {e : xD} {d : xD} (hW : WT T H) (g0 : T.2.2.2 r0 = some 42) (i1 : (-2147483648) ≤ a1 ∧ a1 ≤ 2147483647) (i2 : (-2147483648) ≤ a2 ∧ a2 ≤ 2147483647) (p0 : wKI H r0 = 1) (p1 : XW d) (p2 : ∀ h : Nat, d 0 0 ≤ (h : Int) → h < 24 → e 13 h = 0) (p3 : XN d) (p4 : ∀ h : Nat, h < 24 → 0 ≤ e 13 h ∧ e 13 h ≤ 100) (hRB_r0 : RB T H r0 e d) (hKNN_r0 : KNN T H r0 e d) : wpc kt 8 261 [.ref r0, vI a1, vI a2] T H (uq_261 r0 a1 a2 e d T H) := by
  refine wp_enter e261 (Nat.le_of_ble_eq_true rfl) rfl ?_
  have f0 : wfr [(42, 0), (42, 1), (42, 2), (42, 28), (42, 29), (51, 999), (52, 999)] T H H := wfr.rf
  show wp _ _ 261 0 [(0, .ref r0), (1, vI a1), (2, vI a2)] [] _ H _
  have _b := RB_b hW hRB_r0
  have _nu := RB_n3 hRB_r0
  have _lm := RB_lm hRB_r0
  refine wp_of e261 c261_0 (rw_aload_n (pc' := 1) (v := .ref r0) rfl rfl rfl ?_)
  refine wp_of e261 c261_1 (rw_iconst (pc' := 2) rfl ?_)
  refine wp_of e261 c261_2 (xp_I (pc' := 5) lf_9_48 hW g0 sh_42 (by decide) (by decide) ty_42_0 rfl rfl (by decide) (by decide) ⟨by decide, by decide⟩ rfl (fun H2690 e2691 w2692 => ?_))
  have f2693 := f0.put' e2691 g0 rfl
  have k2694 : H2690 r0 0 = 0 := wq_u_s e2691
  refine wp_of e261 c261_5 (rw_aload_n (pc' := 6) (v := .ref r0) rfl rfl rfl ?_)
  refine wp_of e261 c261_6 (rw_aload_n (pc' := 7) (v := .ref r0) rfl rfl rfl ?_)
  refine wp_of e261 c261_7 (rw_iload_n (pc' := 8) (z := a1) rfl rfl ?_)
  refine wp_of e261 c261_8 (xc_V (pc' := 11) (r := r0) (as := [vI a1]) (st := [.ref r0]) (lm_9_364) rfl rfl (Nat.le_of_ble_eq_true rfl) w2692 g0 sh_42 (by decide) rfl (by decide) (s_213 w2692 g0 ⟨i1.1, i1.2⟩) (fun R2695 T2696 H2697 p2698 => ?_))
  obtain ⟨e2699, e2701, z2703, e2700, b2704, p2702⟩ := p2698
  subst e2699
  subst e2700
  subst e2701
  show wp _ _ 261 11 [(0, .ref r0), (1, vI a1), (2, vI a2)] [vI z2703, .ref r0] _ H2690 _
  refine wp_of e261 c261_11 (rw_if_eq (p1 := 26) (p2 := 14) (by decide) rfl ⟨Int.le_trans (by decide) b2704.1, Int.le_trans b2704.2 (by decide)⟩ (fun c2705 => ?_) (fun c2705 => ?_))
  · refine wp_of e261 c261_26 (rw_iconst (pc' := 27) rfl ?_)
    have k2706 : H2690 r0 3 = H r0 3 := (wq_u_j e2691 rfl)
    have k2707 : wKI H2690 r0 = wKI H r0 := (wKI_fr hW g0 ((wfr.rf (l := [(42, 0)])).put' e2691 g0 rfl) rfl)
    have h2708 : RB T H2690 r0 e d := (RB_fr hW g0 ((wfr.rf (l := [(42, 0)])).put' e2691 g0 rfl) rfl hRB_r0)
    have h2709 : KNN T H2690 r0 e d := (KNN_fr hW g0 ((wfr.rf (l := [(42, 0)])).put' e2691 g0 rfl) rfl hKNN_r0)
    refine wp_of e261 c261_27 (xc_V (pc' := 30) (r := r0) (as := [vI 0]) (st := []) (lm_9_433) rfl rfl (Nat.le_of_ble_eq_true rfl) w2692 g0 sh_42 (by decide) rfl (by decide) (u_241 (e := e) (d := d) w2692 g0 ⟨by decide, by decide⟩ (by omega) (by omega) (by assumption) (by assumption) (by assumption) (by assumption) h2708 h2709) (fun R2710 T2711 H2712 p2713 => ?_))
    obtain ⟨e2714, w2716, f2717, z2718, e2715, b2719, p2720⟩ := p2713
    subst e2714
    subst e2715
    rcases p2720 with ⟨a2721, a2722, a2723, a2724, a2725, a2726, a2727, a2728, a2729⟩ | ⟨a2730, a2731, a2732, a2733, a2734, a2735, a2736⟩
    · have f2737 := f2693.tr f2717 rfl
      show wp _ _ 261 30 [(0, .ref r0), (1, vI a1), (2, vI a2)] [vI z2718] _ H2712 _
      refine wp_of e261 c261_30 (rw_istore_n (pc' := 31) (z := z2718) (L' := [(3, vI z2718), (0, .ref r0), (1, vI a1), (2, vI a2)]) rfl rfl rfl ?_)
      refine wp_of e261 c261_31 (rw_iload_n (pc' := 32) (z := z2718) rfl rfl ?_)
      refine wp_of e261 c261_32 (rw_if_le (p1 := 41) (p2 := 35) (by decide) rfl ⟨Int.le_trans (by decide) b2719.1, Int.le_trans b2719.2 (by decide)⟩ (fun c2738 => ?_) (fun c2738 => ?_))
      · refine wp_of e261 c261_41 (rw_iconst (pc' := 42) rfl ?_)
        refine wp_of e261 c261_42 (rw_istore (pc' := 44) (z := 0) (L' := [(4, vI 0), (3, vI z2718), (0, .ref r0), (1, vI a1), (2, vI a2)]) rfl rfl rfl ?_)
        refine wp_of e261 c261_44 (rw_iconst (pc' := 45) rfl ?_)
        refine wp_of e261 c261_45 (rw_istore (pc' := 47) (z := 0) (L' := [(5, vI 0), (4, vI 0), (3, vI z2718), (0, .ref r0), (1, vI a1), (2, vI a2)]) rfl rfl rfl ?_)
        have lp3203 : ∀ (n3204 : Nat) (v3206 : Int) (v3207 : Int) (H3208 : wq_H), WT T H3208 → wfr [(51, 999)] T H2712 H3208 → (0 ≤ v3206 ∧ v3206 ≤ 20000) → ((-2147483648) ≤ v3207 ∧ v3207 ≤ 2147483647) → (20000 - v3206).toNat = n3204 → wp kt 7 261 47 [(5, vI v3206), (4, vI v3207), (0, .ref r0), (1, vI a1), (2, vI a2)] [] T H3208 (uq_261 r0 a1 a2 e d T H) := by
          intro n3204
          induction n3204 using Nat.strongRecOn with
          | _ n3204 ih3205 =>
            intro v3206 v3207 H3208 w3209 f3210 b3211 b3212 m3213
            have f3214 := f2737.tr f3210 rfl
            refine wp_of e261 c261_47 (rw_iload (pc' := 49) (z := v3206) rfl rfl ?_)
            refine wp_of e261 c261_49 (rw_aload_n (pc' := 50) (v := .ref r0) rfl rfl rfl ?_)
            refine wp_of e261 c261_50 (xg_I (pc' := 53) lf_9_422 w3209 g0 sh_42 (by decide) (by decide) ty_42_29 rfl rfl (fun b3215 b3216 => ?_))
            refine wp_of e261 c261_53 (rw_icmp_ge (p1 := 110) (p2 := 56) (by decide) rfl ⟨Int.le_trans (by decide) b3211.1, Int.le_trans b3211.2 (by decide)⟩ ⟨Int.le_trans (by decide) b3215, Int.le_trans b3216 (by decide)⟩ (fun c3217 => ?_) (fun c3217 => ?_))
            · refine wp_of e261 c261_110 (rw_aload_n (pc' := 111) (v := .ref r0) rfl rfl rfl ?_)
              refine wp_of e261 c261_111 (rw_iload (pc' := 113) (z := v3207) rfl rfl ?_)
              refine wp_of e261 c261_113 (xc_V (pc' := 116) (r := r0) (as := [vI v3207]) (st := []) (lm_9_58) rfl rfl (Nat.le_of_ble_eq_true rfl) w3209 g0 sh_42 (by decide) rfl (by decide) (s_209 w3209 g0 ⟨b3212.1, b3212.2⟩) (fun R3218 T3219 H3220 p3221 => ?_))
              obtain ⟨e3222, w3224, f3225, z3226, e3223, b3227⟩ := p3221
              subst e3222
              subst e3223
              have f3228 := f3214.tr f3225 rfl
              show wp _ _ 261 116 [(5, vI v3206), (4, vI v3207), (0, .ref r0), (1, vI a1), (2, vI a2)] [vI z3226] _ H3220 _
              have k3229 : wKI H3220 r0 = wKI H2712 r0 := ((wKI_fr w3209 g0 f3225 rfl).trans (wKI_fr w2716 g0 f3210 rfl))
              have h3230 : KNN T H3220 r0 e d := (KNN_fr w3209 g0 f3225 rfl (KNN_fr w2716 g0 f3210 rfl a2728))
              exact wp_ireturn e261 c261_116 rfl ⟨rfl, w3224, f3228, z3226, rfl, ⟨b3227.1, b3227.2⟩, ⟨by omega, h3230⟩⟩
            · refine wp_of e261 c261_56 (rw_aload_n (pc' := 57) (v := .ref r0) rfl rfl rfl ?_)
              refine wp_of e261 c261_57 (rw_aload_n (pc' := 58) (v := .ref r0) rfl rfl rfl ?_)
              refine wp_of e261 c261_58 (xg_R (pc' := 61) lf_9_42 w3209 g0 sh_42 (by decide) (by decide) ty_42_30 rfl rfl (fun r3231 q3232 g3233 => ?_))
              refine wp_of e261 c261_61 (rw_iload (pc' := 63) (z := v3206) rfl rfl ?_)
              refine wp_of e261 c261_63 (xa_I (so := 0) (pc' := 64) w3209 g3233 sh_52 (by decide) (ty_52 _) (b3211.1) (by omega) rfl (fun b3234 b3235 => ?_))
              have k3236 : H3208 r0 3 = H2690 r0 3 := ((f3210 r0 3 _ g0 rfl).trans (f2717 r0 3 _ g0 rfl))
              obtain ⟨r3237, q3238, g3239⟩ := (w3209.opt g0 (t' := 54) (n := 33) (j := 3) (p := 0) (q := 0) rfl (by decide) rfl).resolve_left (by omega)
              refine wp_of e261 c261_64 (xc_V (pc' := 67) (r := r0) (as := [vI (H3208 r3231 (v3206.toNat))]) (st := []) (lm_9_425) rfl rfl (Nat.le_of_ble_eq_true rfl) w3209 g0 sh_42 (by decide) rfl (by decide) (s_243 w3209 g0 ⟨b3234, Int.le_trans b3235 (by decide)⟩ q3238 g3239 (by omega)) (fun R3240 T3241 H3242 p3243 => ?_))
              obtain ⟨e3244, w3246, f3247, e3245⟩ := p3243
              subst e3244
              subst e3245
              have f3248 := f3214.tr f3247 rfl
              have f3249 := f3210.tr f3247 rfl
              show wp _ _ 261 67 [(5, vI v3206), (4, vI v3207), (0, .ref r0), (1, vI a1), (2, vI a2)] [] _ H3242 _
              refine wp_of e261 c261_67 (rw_aload_n (pc' := 68) (v := .ref r0) rfl rfl rfl ?_)
              refine wp_of e261 c261_68 (xg_R (pc' := 71) lf_9_30 w3246 g0 sh_42 (by decide) (by decide) ty_42_24 rfl rfl (fun r3250 q3251 g3252 => ?_))
              refine wp_of e261 c261_71 (rw_bipush (pc' := 73) (z := 40) rfl (by decide) ?_)
              refine wp_of e261 c261_73 (rw_iload_n (pc' := 74) (z := a1) rfl rfl ?_)
              refine wp_of e261 c261_74 (rw_imulw (pc' := 75) rfl ?_)
              obtain ⟨v3253, e3254⟩ : ∃ x : Int, x = wq_w (40 * a1) := ⟨_, rfl⟩
              rw [← e3254]
              have b3255 : -2147483648 ≤ v3253 ∧ v3253 ≤ 2147483647 := by
                rw [e3254]
                exact wI_w _
              have b3256 : (-2147483648 ≤ 40 * a1 ∧ 40 * a1 ≤ 2147483647) → v3253 = 40 * a1 := fun h => by rw [e3254]; exact wq_w_id h
              refine wp_of e261 c261_75 (rw_aload_n (pc' := 76) (v := .ref r0) rfl rfl rfl ?_)
              refine wp_of e261 c261_76 (xg_R (pc' := 79) lf_9_39 w3246 g0 sh_42 (by decide) (by decide) ty_42_27 rfl rfl (fun r3257 q3258 g3259 => ?_))
              refine wp_of e261 c261_79 (rw_iload_n (pc' := 80) (z := a1) rfl rfl ?_)
              refine wp_of e261 c261_80 (xa_I (so := 0) (pc' := 81) w3246 g3259 sh_51 (by decide) (ty_51 _) (by omega) (by omega) rfl (fun b3260 b3261 => ?_))
              refine wp_of e261 c261_81 (rw_iaddw (pc' := 82) rfl ?_)
              obtain ⟨v3262, e3263⟩ : ∃ x : Int, x = wq_w (v3253 + (H3242 r3257 (a1.toNat))) := ⟨_, rfl⟩
              rw [← e3263]
              have b3264 : -2147483648 ≤ v3262 ∧ v3262 ≤ 2147483647 := by
                rw [e3263]
                exact wI_w _
              have b3265 : (-2147483648 ≤ v3253 + (H3242 r3257 (a1.toNat)) ∧ v3253 + (H3242 r3257 (a1.toNat)) ≤ 2147483647) → v3262 = v3253 + (H3242 r3257 (a1.toNat)) := fun h => by rw [e3263]; exact wq_w_id h
              refine wp_of e261 c261_82 (xa_I (so := 0) (pc' := 83) w3246 g3252 sh_48 (by decide) (ty_48 _) (by omega) (by omega) rfl (fun b3266 b3267 => ?_))
              refine wp_of e261 c261_83 (rw_iload_n (pc' := 84) (z := a2) rfl rfl ?_)
              refine wp_of e261 c261_84 (xc_S (pc' := 87) (as := [vI (H3242 r3250 (v3262.toNat)), vI a2]) (st := []) (lm_9_346) rfl rfl (Nat.le_of_ble_eq_true rfl) rfl (by decide) (s_205 w3246 ⟨b3266, b3267⟩ ⟨i2.1, i2.2⟩) (fun R3268 T3269 H3270 p3271 => ?_))
              obtain ⟨e3272, e3274, z3275, e3273, b3276⟩ := p3271
              subst e3272
              subst e3273
              subst e3274
              show wp _ _ 261 87 [(5, vI v3206), (4, vI v3207), (0, .ref r0), (1, vI a1), (2, vI a2)] [vI z3275] _ H3242 _
              refine wp_of e261 c261_87 (rw_if_eq (p1 := 104) (p2 := 90) (by decide) rfl ⟨Int.le_trans (by decide) b3276.1, Int.le_trans b3276.2 (by decide)⟩ (fun c3277 => ?_) (fun c3277 => ?_))
              · refine wp_of e261 c261_104 (rw_iinc (pc' := 107) (z := v3206) (L' := [(5, vI (v3206 + 1)), (4, vI v3207), (0, .ref r0), (1, vI a1), (2, vI a2)]) rfl rfl rfl rfl ?_)
                refine wp_of e261 c261_107 (rw_goto (p1 := 47) (by decide) ?_)
                exact wp_lc (ks := [5, 4, 0, 1, 2]) (wl_c rfl (wl_c rfl (wl_c rfl (wl_c rfl (wl_c rfl wl_n))))) rfl (by decide) (ih3205 _ (by omega) (v3206 + 1) v3207 H3242 w3246 f3249 ⟨by omega, by omega⟩ ⟨b3212.1, b3212.2⟩ rfl)
              · refine wp_of e261 c261_90 (rw_iload (pc' := 92) (z := v3207) rfl rfl ?_)
                refine wp_of e261 c261_92 (rw_aload_n (pc' := 93) (v := .ref r0) rfl rfl rfl ?_)
                refine wp_of e261 c261_93 (rw_aload_n (pc' := 94) (v := .ref r0) rfl rfl rfl ?_)
                refine wp_of e261 c261_94 (xg_K (pc' := 97) lf_9_39 w3246 g0 sh_42 (by decide) (by decide) rfl q3258 rfl ?_)
                refine wp_of e261 c261_97 (rw_iload_n (pc' := 98) (z := a2) rfl rfl ?_)
                have k3278 : H3242 r0 3 = H3208 r0 3 := (f3247 r0 3 _ g0 rfl)
                have q3279 : H3242 r0 3 = (r3237 : Int) := k3278.trans q3238
                refine wp_of e261 c261_98 (xc_V (pc' := 101) (r := r0) (as := [.ref r3257, vI a2]) (st := [vI v3207]) (lm_9_455) rfl rfl (Nat.le_of_ble_eq_true rfl) w3246 g0 sh_42 (by decide) rfl (by decide) (s_262_m_lot w3246 g0 g3259 ⟨i2.1, i2.2⟩ q3279 g3239) (fun R3280 T3281 H3282 p3283 => ?_))
                obtain ⟨e3284, e3286, z3287, e3285, b3288⟩ := p3283
                subst e3284
                subst e3285
                subst e3286
                show wp _ _ 261 101 [(5, vI v3206), (4, vI v3207), (0, .ref r0), (1, vI a1), (2, vI a2)] [vI z3287, vI v3207] _ H3242 _
                refine wp_of e261 c261_101 (rw_ior (pc' := 102) rfl ?_)
                obtain ⟨v3289, e3290⟩ : ∃ x : Int, x = wq_or v3207 z3287 := ⟨_, rfl⟩
                rw [← e3290]
                have b3291 : -2147483648 ≤ v3289 ∧ v3289 ≤ 2147483647 := by
                  rw [e3290]
                  exact wI_or _ _
                refine wp_of e261 c261_102 (rw_istore (pc' := 104) (z := v3289) (L' := [(4, vI v3289), (5, vI v3206), (0, .ref r0), (1, vI a1), (2, vI a2)]) rfl rfl rfl ?_)
                refine wp_of e261 c261_104 (rw_iinc (pc' := 107) (z := v3206) (L' := [(5, vI (v3206 + 1)), (4, vI v3289), (0, .ref r0), (1, vI a1), (2, vI a2)]) rfl rfl rfl rfl ?_)
                refine wp_of e261 c261_107 (rw_goto (p1 := 47) (by decide) ?_)
                exact wp_lc (ks := [5, 4, 0, 1, 2]) (wl_c rfl (wl_c rfl (wl_c rfl (wl_c rfl (wl_c rfl wl_n))))) rfl (by decide) (ih3205 _ (by omega) (v3206 + 1) v3289 H3242 w3246 f3249 ⟨by omega, by omega⟩ ⟨b3291.1, b3291.2⟩ rfl)
        exact wp_lc (ks := [5, 4, 3, 0, 1, 2]) (wl_c rfl (wl_c rfl (wl_c rfl (wl_c rfl (wl_c rfl wl_n))))) rfl (by decide) (lp3203 _ 0 0 H2712 w2716 wfr.rf ⟨by decide, by decide⟩ ⟨by decide, by decide⟩ rfl)
      · exfalso
        omega
    · have f3292 := f2693.tr f2717 rfl
      show wp _ _ 261 30 [(0, .ref r0), (1, vI a1), (2, vI a2)] [vI z2718] _ H2712 _
      refine wp_of e261 c261_30 (rw_istore_n (pc' := 31) (z := z2718) (L' := [(3, vI z2718), (0, .ref r0), (1, vI a1), (2, vI a2)]) rfl rfl rfl ?_)
      refine wp_of e261 c261_31 (rw_iload_n (pc' := 32) (z := z2718) rfl rfl ?_)
      refine wp_of e261 c261_32 (rw_if_le (p1 := 41) (p2 := 35) (by decide) rfl ⟨Int.le_trans (by decide) b2719.1, Int.le_trans b2719.2 (by decide)⟩ (fun c3293 => ?_) (fun c3293 => ?_))
      · exfalso
        omega
      · refine wp_of e261 c261_35 (rw_aload_n (pc' := 36) (v := .ref r0) rfl rfl rfl ?_)
        refine wp_of e261 c261_36 (rw_iload_n (pc' := 37) (z := z2718) rfl rfl ?_)
        refine wp_of e261 c261_37 (xc_V (pc' := 40) (r := r0) (as := [vI z2718]) (st := []) (lm_9_54) rfl rfl (Nat.le_of_ble_eq_true rfl) w2716 g0 sh_42 (by decide) rfl (by decide) (s_170 w2716 g0 ⟨Int.le_trans (by decide) b2719.1, Int.le_trans b2719.2 (by decide)⟩) (fun R3294 T3295 H3296 p3297 => ?_))
        obtain ⟨e3298, w3300, f3301, z3302, e3299, b3303⟩ := p3297
        subst e3298
        subst e3299
        have f3304 := f3292.tr f3301 rfl
        show wp _ _ 261 40 [(3, vI z2718), (0, .ref r0), (1, vI a1), (2, vI a2)] [vI z3302] _ H3296 _
        have k3305 : wKI H3296 r0 = wKI H2712 r0 := (wKI_fr w2716 g0 f3301 rfl)
        have h3306 : KNN T H3296 r0 e d := (KNN_fr w2716 g0 f3301 rfl a2736)
        exact wp_ireturn e261 c261_40 rfl ⟨rfl, w3300, f3304, z3302, rfl, ⟨b3303.1, b3303.2⟩, ⟨by omega, h3306⟩⟩
  · refine wp_of e261 c261_14 (rw_aload_n (pc' := 15) (v := .ref r0) rfl rfl rfl ?_)
    refine wp_of e261 c261_15 (rw_iload_n (pc' := 16) (z := a2) rfl rfl ?_)
    refine wp_of e261 c261_16 (xc_V (pc' := 19) (r := r0) (as := [vI a2]) (st := [.ref r0]) (lm_9_373) rfl rfl (Nat.le_of_ble_eq_true rfl) w2692 g0 sh_42 (by decide) rfl (by decide) (s_218 w2692 g0 ⟨i2.1, i2.2⟩) (fun R3307 T3308 H3309 p3310 => ?_))
    obtain ⟨e3311, e3313, z3315, e3312, b3316, p3314⟩ := p3310
    subst e3311
    subst e3312
    subst e3313
    show wp _ _ 261 19 [(0, .ref r0), (1, vI a1), (2, vI a2)] [vI z3315, .ref r0] _ H2690 _
    refine wp_of e261 c261_19 (rw_if_eq (p1 := 26) (p2 := 22) (by decide) rfl ⟨Int.le_trans (by decide) b3316.1, Int.le_trans b3316.2 (by decide)⟩ (fun c3317 => ?_) (fun c3317 => ?_))
    · refine wp_of e261 c261_26 (rw_iconst (pc' := 27) rfl ?_)
      have k3318 : H2690 r0 3 = H r0 3 := (wq_u_j e2691 rfl)
      have k3319 : wKI H2690 r0 = wKI H r0 := (wKI_fr hW g0 ((wfr.rf (l := [(42, 0)])).put' e2691 g0 rfl) rfl)
      have h3320 : RB T H2690 r0 e d := (RB_fr hW g0 ((wfr.rf (l := [(42, 0)])).put' e2691 g0 rfl) rfl hRB_r0)
      have h3321 : KNN T H2690 r0 e d := (KNN_fr hW g0 ((wfr.rf (l := [(42, 0)])).put' e2691 g0 rfl) rfl hKNN_r0)
      refine wp_of e261 c261_27 (xc_V (pc' := 30) (r := r0) (as := [vI 0]) (st := []) (lm_9_433) rfl rfl (Nat.le_of_ble_eq_true rfl) w2692 g0 sh_42 (by decide) rfl (by decide) (u_241 (e := e) (d := d) w2692 g0 ⟨by decide, by decide⟩ (by omega) (by omega) (by assumption) (by assumption) (by assumption) (by assumption) h3320 h3321) (fun R3322 T3323 H3324 p3325 => ?_))
      obtain ⟨e3326, w3328, f3329, z3330, e3327, b3331, p3332⟩ := p3325
      subst e3326
      subst e3327
      rcases p3332 with ⟨a3333, a3334, a3335, a3336, a3337, a3338, a3339, a3340, a3341⟩ | ⟨a3342, a3343, a3344, a3345, a3346, a3347, a3348⟩
      · have f3349 := f2693.tr f3329 rfl
        show wp _ _ 261 30 [(0, .ref r0), (1, vI a1), (2, vI a2)] [vI z3330] _ H3324 _
        refine wp_of e261 c261_30 (rw_istore_n (pc' := 31) (z := z3330) (L' := [(3, vI z3330), (0, .ref r0), (1, vI a1), (2, vI a2)]) rfl rfl rfl ?_)
        refine wp_of e261 c261_31 (rw_iload_n (pc' := 32) (z := z3330) rfl rfl ?_)
        refine wp_of e261 c261_32 (rw_if_le (p1 := 41) (p2 := 35) (by decide) rfl ⟨Int.le_trans (by decide) b3331.1, Int.le_trans b3331.2 (by decide)⟩ (fun c3350 => ?_) (fun c3350 => ?_))
        · refine wp_of e261 c261_41 (rw_iconst (pc' := 42) rfl ?_)
          refine wp_of e261 c261_42 (rw_istore (pc' := 44) (z := 0) (L' := [(4, vI 0), (3, vI z3330), (0, .ref r0), (1, vI a1), (2, vI a2)]) rfl rfl rfl ?_)
          refine wp_of e261 c261_44 (rw_iconst (pc' := 45) rfl ?_)
          refine wp_of e261 c261_45 (rw_istore (pc' := 47) (z := 0) (L' := [(5, vI 0), (4, vI 0), (3, vI z3330), (0, .ref r0), (1, vI a1), (2, vI a2)]) rfl rfl rfl ?_)
          have lp3783 : ∀ (n3784 : Nat) (v3786 : Int) (v3787 : Int) (H3788 : wq_H), WT T H3788 → wfr [(51, 999)] T H3324 H3788 → (0 ≤ v3786 ∧ v3786 ≤ 20000) → ((-2147483648) ≤ v3787 ∧ v3787 ≤ 2147483647) → (20000 - v3786).toNat = n3784 → wp kt 7 261 47 [(5, vI v3786), (4, vI v3787), (0, .ref r0), (1, vI a1), (2, vI a2)] [] T H3788 (uq_261 r0 a1 a2 e d T H) := by
            intro n3784
            induction n3784 using Nat.strongRecOn with
            | _ n3784 ih3785 =>
              intro v3786 v3787 H3788 w3789 f3790 b3791 b3792 m3793
              have f3794 := f3349.tr f3790 rfl
              refine wp_of e261 c261_47 (rw_iload (pc' := 49) (z := v3786) rfl rfl ?_)
              refine wp_of e261 c261_49 (rw_aload_n (pc' := 50) (v := .ref r0) rfl rfl rfl ?_)
              refine wp_of e261 c261_50 (xg_I (pc' := 53) lf_9_422 w3789 g0 sh_42 (by decide) (by decide) ty_42_29 rfl rfl (fun b3795 b3796 => ?_))
              refine wp_of e261 c261_53 (rw_icmp_ge (p1 := 110) (p2 := 56) (by decide) rfl ⟨Int.le_trans (by decide) b3791.1, Int.le_trans b3791.2 (by decide)⟩ ⟨Int.le_trans (by decide) b3795, Int.le_trans b3796 (by decide)⟩ (fun c3797 => ?_) (fun c3797 => ?_))
              · refine wp_of e261 c261_110 (rw_aload_n (pc' := 111) (v := .ref r0) rfl rfl rfl ?_)
                refine wp_of e261 c261_111 (rw_iload (pc' := 113) (z := v3787) rfl rfl ?_)
                refine wp_of e261 c261_113 (xc_V (pc' := 116) (r := r0) (as := [vI v3787]) (st := []) (lm_9_58) rfl rfl (Nat.le_of_ble_eq_true rfl) w3789 g0 sh_42 (by decide) rfl (by decide) (s_209 w3789 g0 ⟨b3792.1, b3792.2⟩) (fun R3798 T3799 H3800 p3801 => ?_))
                obtain ⟨e3802, w3804, f3805, z3806, e3803, b3807⟩ := p3801
                subst e3802
                subst e3803
                have f3808 := f3794.tr f3805 rfl
                show wp _ _ 261 116 [(5, vI v3786), (4, vI v3787), (0, .ref r0), (1, vI a1), (2, vI a2)] [vI z3806] _ H3800 _
                have k3809 : wKI H3800 r0 = wKI H3324 r0 := ((wKI_fr w3789 g0 f3805 rfl).trans (wKI_fr w3328 g0 f3790 rfl))
                have h3810 : KNN T H3800 r0 e d := (KNN_fr w3789 g0 f3805 rfl (KNN_fr w3328 g0 f3790 rfl a3340))
                exact wp_ireturn e261 c261_116 rfl ⟨rfl, w3804, f3808, z3806, rfl, ⟨b3807.1, b3807.2⟩, ⟨by omega, h3810⟩⟩
              · refine wp_of e261 c261_56 (rw_aload_n (pc' := 57) (v := .ref r0) rfl rfl rfl ?_)
                refine wp_of e261 c261_57 (rw_aload_n (pc' := 58) (v := .ref r0) rfl rfl rfl ?_)
                refine wp_of e261 c261_58 (xg_R (pc' := 61) lf_9_42 w3789 g0 sh_42 (by decide) (by decide) ty_42_30 rfl rfl (fun r3811 q3812 g3813 => ?_))
                refine wp_of e261 c261_61 (rw_iload (pc' := 63) (z := v3786) rfl rfl ?_)
                refine wp_of e261 c261_63 (xa_I (so := 0) (pc' := 64) w3789 g3813 sh_52 (by decide) (ty_52 _) (b3791.1) (by omega) rfl (fun b3814 b3815 => ?_))
                have k3816 : H3788 r0 3 = H2690 r0 3 := ((f3790 r0 3 _ g0 rfl).trans (f3329 r0 3 _ g0 rfl))
                obtain ⟨r3817, q3818, g3819⟩ := (w3789.opt g0 (t' := 54) (n := 33) (j := 3) (p := 0) (q := 0) rfl (by decide) rfl).resolve_left (by omega)
                refine wp_of e261 c261_64 (xc_V (pc' := 67) (r := r0) (as := [vI (H3788 r3811 (v3786.toNat))]) (st := []) (lm_9_425) rfl rfl (Nat.le_of_ble_eq_true rfl) w3789 g0 sh_42 (by decide) rfl (by decide) (s_243 w3789 g0 ⟨b3814, Int.le_trans b3815 (by decide)⟩ q3818 g3819 (by omega)) (fun R3820 T3821 H3822 p3823 => ?_))
                obtain ⟨e3824, w3826, f3827, e3825⟩ := p3823
                subst e3824
                subst e3825
                have f3828 := f3794.tr f3827 rfl
                have f3829 := f3790.tr f3827 rfl
                show wp _ _ 261 67 [(5, vI v3786), (4, vI v3787), (0, .ref r0), (1, vI a1), (2, vI a2)] [] _ H3822 _
                refine wp_of e261 c261_67 (rw_aload_n (pc' := 68) (v := .ref r0) rfl rfl rfl ?_)
                refine wp_of e261 c261_68 (xg_R (pc' := 71) lf_9_30 w3826 g0 sh_42 (by decide) (by decide) ty_42_24 rfl rfl (fun r3830 q3831 g3832 => ?_))
                refine wp_of e261 c261_71 (rw_bipush (pc' := 73) (z := 40) rfl (by decide) ?_)
                refine wp_of e261 c261_73 (rw_iload_n (pc' := 74) (z := a1) rfl rfl ?_)
                refine wp_of e261 c261_74 (rw_imul (pc' := 75) rfl ?_)
                refine wp_of e261 c261_75 (rw_aload_n (pc' := 76) (v := .ref r0) rfl rfl rfl ?_)
                refine wp_of e261 c261_76 (xg_R (pc' := 79) lf_9_39 w3826 g0 sh_42 (by decide) (by decide) ty_42_27 rfl rfl (fun r3833 q3834 g3835 => ?_))
                refine wp_of e261 c261_79 (rw_iload_n (pc' := 80) (z := a1) rfl rfl ?_)
                refine wp_of e261 c261_80 (xa_I (so := 0) (pc' := 81) w3826 g3835 sh_51 (by decide) (ty_51 _) (by omega) (by omega) rfl (fun b3836 b3837 => ?_))
                refine wp_of e261 c261_81 (rw_iadd (pc' := 82) rfl ?_)
                refine wp_of e261 c261_82 (xa_I (so := 0) (pc' := 83) w3826 g3832 sh_48 (by decide) (ty_48 _) (by omega) (by omega) rfl (fun b3838 b3839 => ?_))
                refine wp_of e261 c261_83 (rw_iload_n (pc' := 84) (z := a2) rfl rfl ?_)
                refine wp_of e261 c261_84 (xc_S (pc' := 87) (as := [vI (H3822 r3830 (((40 * a1) + (H3822 r3833 (a1.toNat))).toNat)), vI a2]) (st := []) (lm_9_346) rfl rfl (Nat.le_of_ble_eq_true rfl) rfl (by decide) (s_205 w3826 ⟨b3838, b3839⟩ ⟨i2.1, i2.2⟩) (fun R3840 T3841 H3842 p3843 => ?_))
                obtain ⟨e3844, e3846, z3847, e3845, b3848⟩ := p3843
                subst e3844
                subst e3845
                subst e3846
                show wp _ _ 261 87 [(5, vI v3786), (4, vI v3787), (0, .ref r0), (1, vI a1), (2, vI a2)] [vI z3847] _ H3822 _
                refine wp_of e261 c261_87 (rw_if_eq (p1 := 104) (p2 := 90) (by decide) rfl ⟨Int.le_trans (by decide) b3848.1, Int.le_trans b3848.2 (by decide)⟩ (fun c3849 => ?_) (fun c3849 => ?_))
                · refine wp_of e261 c261_104 (rw_iinc (pc' := 107) (z := v3786) (L' := [(5, vI (v3786 + 1)), (4, vI v3787), (0, .ref r0), (1, vI a1), (2, vI a2)]) rfl rfl rfl rfl ?_)
                  refine wp_of e261 c261_107 (rw_goto (p1 := 47) (by decide) ?_)
                  exact wp_lc (ks := [5, 4, 0, 1, 2]) (wl_c rfl (wl_c rfl (wl_c rfl (wl_c rfl (wl_c rfl wl_n))))) rfl (by decide) (ih3785 _ (by omega) (v3786 + 1) v3787 H3822 w3826 f3829 ⟨by omega, by omega⟩ ⟨b3792.1, b3792.2⟩ rfl)
                · refine wp_of e261 c261_90 (rw_iload (pc' := 92) (z := v3787) rfl rfl ?_)
                  refine wp_of e261 c261_92 (rw_aload_n (pc' := 93) (v := .ref r0) rfl rfl rfl ?_)
                  refine wp_of e261 c261_93 (rw_aload_n (pc' := 94) (v := .ref r0) rfl rfl rfl ?_)
                  refine wp_of e261 c261_94 (xg_K (pc' := 97) lf_9_39 w3826 g0 sh_42 (by decide) (by decide) rfl q3834 rfl ?_)
                  refine wp_of e261 c261_97 (rw_iload_n (pc' := 98) (z := a2) rfl rfl ?_)
                  have k3850 : H3822 r0 3 = H3788 r0 3 := (f3827 r0 3 _ g0 rfl)
                  have q3851 : H3822 r0 3 = (r3817 : Int) := k3850.trans q3818
                  refine wp_of e261 c261_98 (xc_V (pc' := 101) (r := r0) (as := [.ref r3833, vI a2]) (st := [vI v3787]) (lm_9_455) rfl rfl (Nat.le_of_ble_eq_true rfl) w3826 g0 sh_42 (by decide) rfl (by decide) (s_262_m_lot w3826 g0 g3835 ⟨i2.1, i2.2⟩ q3851 g3819) (fun R3852 T3853 H3854 p3855 => ?_))
                  obtain ⟨e3856, e3858, z3859, e3857, b3860⟩ := p3855
                  subst e3856
                  subst e3857
                  subst e3858
                  show wp _ _ 261 101 [(5, vI v3786), (4, vI v3787), (0, .ref r0), (1, vI a1), (2, vI a2)] [vI z3859, vI v3787] _ H3822 _
                  refine wp_of e261 c261_101 (rw_ior (pc' := 102) rfl ?_)
                  obtain ⟨v3861, e3862⟩ : ∃ x : Int, x = wq_or v3787 z3859 := ⟨_, rfl⟩
                  rw [← e3862]
                  have b3863 : -2147483648 ≤ v3861 ∧ v3861 ≤ 2147483647 := by
                    rw [e3862]
                    exact wI_or _ _
                  refine wp_of e261 c261_102 (rw_istore (pc' := 104) (z := v3861) (L' := [(4, vI v3861), (5, vI v3786), (0, .ref r0), (1, vI a1), (2, vI a2)]) rfl rfl rfl ?_)
                  refine wp_of e261 c261_104 (rw_iinc (pc' := 107) (z := v3786) (L' := [(5, vI (v3786 + 1)), (4, vI v3861), (0, .ref r0), (1, vI a1), (2, vI a2)]) rfl rfl rfl rfl ?_)
                  refine wp_of e261 c261_107 (rw_goto (p1 := 47) (by decide) ?_)
                  exact wp_lc (ks := [5, 4, 0, 1, 2]) (wl_c rfl (wl_c rfl (wl_c rfl (wl_c rfl (wl_c rfl wl_n))))) rfl (by decide) (ih3785 _ (by omega) (v3786 + 1) v3861 H3822 w3826 f3829 ⟨by omega, by omega⟩ ⟨b3863.1, b3863.2⟩ rfl)
          exact wp_lc (ks := [5, 4, 3, 0, 1, 2]) (wl_c rfl (wl_c rfl (wl_c rfl (wl_c rfl (wl_c rfl wl_n))))) rfl (by decide) (lp3783 _ 0 0 H3324 w3328 wfr.rf ⟨by decide, by decide⟩ ⟨by decide, by decide⟩ rfl)
        · exfalso
          omega
      · have f3864 := f2693.tr f3329 rfl
        show wp _ _ 261 30 [(0, .ref r0), (1, vI a1), (2, vI a2)] [vI z3330] _ H3324 _
        refine wp_of e261 c261_30 (rw_istore_n (pc' := 31) (z := z3330) (L' := [(3, vI z3330), (0, .ref r0), (1, vI a1), (2, vI a2)]) rfl rfl rfl ?_)
        refine wp_of e261 c261_31 (rw_iload_n (pc' := 32) (z := z3330) rfl rfl ?_)
        refine wp_of e261 c261_32 (rw_if_le (p1 := 41) (p2 := 35) (by decide) rfl ⟨Int.le_trans (by decide) b3331.1, Int.le_trans b3331.2 (by decide)⟩ (fun c3865 => ?_) (fun c3865 => ?_))
        · exfalso
          omega
        · refine wp_of e261 c261_35 (rw_aload_n (pc' := 36) (v := .ref r0) rfl rfl rfl ?_)
          refine wp_of e261 c261_36 (rw_iload_n (pc' := 37) (z := z3330) rfl rfl ?_)
          refine wp_of e261 c261_37 (xc_V (pc' := 40) (r := r0) (as := [vI z3330]) (st := []) (lm_9_54) rfl rfl (Nat.le_of_ble_eq_true rfl) w3328 g0 sh_42 (by decide) rfl (by decide) (s_170 w3328 g0 ⟨Int.le_trans (by decide) b3331.1, Int.le_trans b3331.2 (by decide)⟩) (fun R3866 T3867 H3868 p3869 => ?_))
          obtain ⟨e3870, w3872, f3873, z3874, e3871, b3875⟩ := p3869
          subst e3870
          subst e3871
          have f3876 := f3864.tr f3873 rfl
          show wp _ _ 261 40 [(3, vI z3330), (0, .ref r0), (1, vI a1), (2, vI a2)] [vI z3874] _ H3868 _
          have k3877 : wKI H3868 r0 = wKI H3324 r0 := (wKI_fr w3328 g0 f3873 rfl)
          have h3878 : KNN T H3868 r0 e d := (KNN_fr w3328 g0 f3873 rfl a3348)
          exact wp_ireturn e261 c261_40 rfl ⟨rfl, w3872, f3876, z3874, rfl, ⟨b3875.1, b3875.2⟩, ⟨by omega, h3878⟩⟩
    · refine wp_of e261 c261_22 (rw_iconst (pc' := 23) rfl ?_)
      refine wp_of e261 c261_23 (rw_goto (p1 := 27) (by decide) ?_)
      have k3879 : H2690 r0 3 = H r0 3 := (wq_u_j e2691 rfl)
      have k3880 : wKI H2690 r0 = wKI H r0 := (wKI_fr hW g0 ((wfr.rf (l := [(42, 0)])).put' e2691 g0 rfl) rfl)
      have h3881 : RB T H2690 r0 e d := (RB_fr hW g0 ((wfr.rf (l := [(42, 0)])).put' e2691 g0 rfl) rfl hRB_r0)
      have h3882 : KNN T H2690 r0 e d := (KNN_fr hW g0 ((wfr.rf (l := [(42, 0)])).put' e2691 g0 rfl) rfl hKNN_r0)
      refine wp_of e261 c261_27 (xc_V (pc' := 30) (r := r0) (as := [vI 1]) (st := []) (lm_9_433) rfl rfl (Nat.le_of_ble_eq_true rfl) w2692 g0 sh_42 (by decide) rfl (by decide) (u_241 (e := e) (d := d) w2692 g0 ⟨by decide, by decide⟩ (by omega) (by omega) (by assumption) (by assumption) (by assumption) (by assumption) h3881 h3882) (fun R3883 T3884 H3885 p3886 => ?_))
      obtain ⟨e3887, w3889, f3890, z3891, e3888, b3892, p3893⟩ := p3886
      subst e3887
      subst e3888
      rcases p3893 with ⟨a3894, a3895, a3896, a3897, a3898, a3899, a3900, a3901, a3902⟩ | ⟨a3903, a3904, a3905, a3906, a3907, a3908, a3909⟩
      · have f3910 := f2693.tr f3890 rfl
        show wp _ _ 261 30 [(0, .ref r0), (1, vI a1), (2, vI a2)] [vI z3891] _ H3885 _
        refine wp_of e261 c261_30 (rw_istore_n (pc' := 31) (z := z3891) (L' := [(3, vI z3891), (0, .ref r0), (1, vI a1), (2, vI a2)]) rfl rfl rfl ?_)
        refine wp_of e261 c261_31 (rw_iload_n (pc' := 32) (z := z3891) rfl rfl ?_)
        refine wp_of e261 c261_32 (rw_if_le (p1 := 41) (p2 := 35) (by decide) rfl ⟨Int.le_trans (by decide) b3892.1, Int.le_trans b3892.2 (by decide)⟩ (fun c3911 => ?_) (fun c3911 => ?_))
        · refine wp_of e261 c261_41 (rw_iconst (pc' := 42) rfl ?_)
          refine wp_of e261 c261_42 (rw_istore (pc' := 44) (z := 0) (L' := [(4, vI 0), (3, vI z3891), (0, .ref r0), (1, vI a1), (2, vI a2)]) rfl rfl rfl ?_)
          refine wp_of e261 c261_44 (rw_iconst (pc' := 45) rfl ?_)
          refine wp_of e261 c261_45 (rw_istore (pc' := 47) (z := 0) (L' := [(5, vI 0), (4, vI 0), (3, vI z3891), (0, .ref r0), (1, vI a1), (2, vI a2)]) rfl rfl rfl ?_)
          have lp4344 : ∀ (n4345 : Nat) (v4347 : Int) (v4348 : Int) (H4349 : wq_H), WT T H4349 → wfr [(51, 999)] T H3885 H4349 → (0 ≤ v4347 ∧ v4347 ≤ 20000) → ((-2147483648) ≤ v4348 ∧ v4348 ≤ 2147483647) → (20000 - v4347).toNat = n4345 → wp kt 7 261 47 [(5, vI v4347), (4, vI v4348), (0, .ref r0), (1, vI a1), (2, vI a2)] [] T H4349 (uq_261 r0 a1 a2 e d T H) := by
            intro n4345
            induction n4345 using Nat.strongRecOn with
            | _ n4345 ih4346 =>
              intro v4347 v4348 H4349 w4350 f4351 b4352 b4353 m4354
              have f4355 := f3910.tr f4351 rfl
              refine wp_of e261 c261_47 (rw_iload (pc' := 49) (z := v4347) rfl rfl ?_)
              refine wp_of e261 c261_49 (rw_aload_n (pc' := 50) (v := .ref r0) rfl rfl rfl ?_)
              refine wp_of e261 c261_50 (xg_I (pc' := 53) lf_9_422 w4350 g0 sh_42 (by decide) (by decide) ty_42_29 rfl rfl (fun b4356 b4357 => ?_))
              refine wp_of e261 c261_53 (rw_icmp_ge (p1 := 110) (p2 := 56) (by decide) rfl ⟨Int.le_trans (by decide) b4352.1, Int.le_trans b4352.2 (by decide)⟩ ⟨Int.le_trans (by decide) b4356, Int.le_trans b4357 (by decide)⟩ (fun c4358 => ?_) (fun c4358 => ?_))
              · refine wp_of e261 c261_110 (rw_aload_n (pc' := 111) (v := .ref r0) rfl rfl rfl ?_)
                refine wp_of e261 c261_111 (rw_iload (pc' := 113) (z := v4348) rfl rfl ?_)
                refine wp_of e261 c261_113 (xc_V (pc' := 116) (r := r0) (as := [vI v4348]) (st := []) (lm_9_58) rfl rfl (Nat.le_of_ble_eq_true rfl) w4350 g0 sh_42 (by decide) rfl (by decide) (s_209 w4350 g0 ⟨b4353.1, b4353.2⟩) (fun R4359 T4360 H4361 p4362 => ?_))
                obtain ⟨e4363, w4365, f4366, z4367, e4364, b4368⟩ := p4362
                subst e4363
                subst e4364
                have f4369 := f4355.tr f4366 rfl
                show wp _ _ 261 116 [(5, vI v4347), (4, vI v4348), (0, .ref r0), (1, vI a1), (2, vI a2)] [vI z4367] _ H4361 _
                have k4370 : wKI H4361 r0 = wKI H3885 r0 := ((wKI_fr w4350 g0 f4366 rfl).trans (wKI_fr w3889 g0 f4351 rfl))
                have h4371 : KNN T H4361 r0 e d := (KNN_fr w4350 g0 f4366 rfl (KNN_fr w3889 g0 f4351 rfl a3901))
                exact wp_ireturn e261 c261_116 rfl ⟨rfl, w4365, f4369, z4367, rfl, ⟨b4368.1, b4368.2⟩, ⟨by omega, h4371⟩⟩
              · refine wp_of e261 c261_56 (rw_aload_n (pc' := 57) (v := .ref r0) rfl rfl rfl ?_)
                refine wp_of e261 c261_57 (rw_aload_n (pc' := 58) (v := .ref r0) rfl rfl rfl ?_)
                refine wp_of e261 c261_58 (xg_R (pc' := 61) lf_9_42 w4350 g0 sh_42 (by decide) (by decide) ty_42_30 rfl rfl (fun r4372 q4373 g4374 => ?_))
                refine wp_of e261 c261_61 (rw_iload (pc' := 63) (z := v4347) rfl rfl ?_)
                refine wp_of e261 c261_63 (xa_I (so := 0) (pc' := 64) w4350 g4374 sh_52 (by decide) (ty_52 _) (b4352.1) (by omega) rfl (fun b4375 b4376 => ?_))
                have k4377 : H4349 r0 3 = H2690 r0 3 := ((f4351 r0 3 _ g0 rfl).trans (f3890 r0 3 _ g0 rfl))
                obtain ⟨r4378, q4379, g4380⟩ := (w4350.opt g0 (t' := 54) (n := 33) (j := 3) (p := 0) (q := 0) rfl (by decide) rfl).resolve_left (by omega)
                refine wp_of e261 c261_64 (xc_V (pc' := 67) (r := r0) (as := [vI (H4349 r4372 (v4347.toNat))]) (st := []) (lm_9_425) rfl rfl (Nat.le_of_ble_eq_true rfl) w4350 g0 sh_42 (by decide) rfl (by decide) (s_243 w4350 g0 ⟨b4375, Int.le_trans b4376 (by decide)⟩ q4379 g4380 (by omega)) (fun R4381 T4382 H4383 p4384 => ?_))
                obtain ⟨e4385, w4387, f4388, e4386⟩ := p4384
                subst e4385
                subst e4386
                have f4389 := f4355.tr f4388 rfl
                have f4390 := f4351.tr f4388 rfl
                show wp _ _ 261 67 [(5, vI v4347), (4, vI v4348), (0, .ref r0), (1, vI a1), (2, vI a2)] [] _ H4383 _
                refine wp_of e261 c261_67 (rw_aload_n (pc' := 68) (v := .ref r0) rfl rfl rfl ?_)
                refine wp_of e261 c261_68 (xg_R (pc' := 71) lf_9_30 w4387 g0 sh_42 (by decide) (by decide) ty_42_24 rfl rfl (fun r4391 q4392 g4393 => ?_))
                refine wp_of e261 c261_71 (rw_bipush (pc' := 73) (z := 40) rfl (by decide) ?_)
                refine wp_of e261 c261_73 (rw_iload_n (pc' := 74) (z := a1) rfl rfl ?_)
                refine wp_of e261 c261_74 (rw_imul (pc' := 75) rfl ?_)
                refine wp_of e261 c261_75 (rw_aload_n (pc' := 76) (v := .ref r0) rfl rfl rfl ?_)
                refine wp_of e261 c261_76 (xg_R (pc' := 79) lf_9_39 w4387 g0 sh_42 (by decide) (by decide) ty_42_27 rfl rfl (fun r4394 q4395 g4396 => ?_))
                refine wp_of e261 c261_79 (rw_iload_n (pc' := 80) (z := a1) rfl rfl ?_)
                refine wp_of e261 c261_80 (xa_I (so := 0) (pc' := 81) w4387 g4396 sh_51 (by decide) (ty_51 _) (by omega) (by omega) rfl (fun b4397 b4398 => ?_))
                refine wp_of e261 c261_81 (rw_iadd (pc' := 82) rfl ?_)
                refine wp_of e261 c261_82 (xa_I (so := 0) (pc' := 83) w4387 g4393 sh_48 (by decide) (ty_48 _) (by omega) (by omega) rfl (fun b4399 b4400 => ?_))
                refine wp_of e261 c261_83 (rw_iload_n (pc' := 84) (z := a2) rfl rfl ?_)
                refine wp_of e261 c261_84 (xc_S (pc' := 87) (as := [vI (H4383 r4391 (((40 * a1) + (H4383 r4394 (a1.toNat))).toNat)), vI a2]) (st := []) (lm_9_346) rfl rfl (Nat.le_of_ble_eq_true rfl) rfl (by decide) (s_205 w4387 ⟨b4399, b4400⟩ ⟨i2.1, i2.2⟩) (fun R4401 T4402 H4403 p4404 => ?_))
                obtain ⟨e4405, e4407, z4408, e4406, b4409⟩ := p4404
                subst e4405
                subst e4406
                subst e4407
                show wp _ _ 261 87 [(5, vI v4347), (4, vI v4348), (0, .ref r0), (1, vI a1), (2, vI a2)] [vI z4408] _ H4383 _
                refine wp_of e261 c261_87 (rw_if_eq (p1 := 104) (p2 := 90) (by decide) rfl ⟨Int.le_trans (by decide) b4409.1, Int.le_trans b4409.2 (by decide)⟩ (fun c4410 => ?_) (fun c4410 => ?_))
                · refine wp_of e261 c261_104 (rw_iinc (pc' := 107) (z := v4347) (L' := [(5, vI (v4347 + 1)), (4, vI v4348), (0, .ref r0), (1, vI a1), (2, vI a2)]) rfl rfl rfl rfl ?_)
                  refine wp_of e261 c261_107 (rw_goto (p1 := 47) (by decide) ?_)
                  exact wp_lc (ks := [5, 4, 0, 1, 2]) (wl_c rfl (wl_c rfl (wl_c rfl (wl_c rfl (wl_c rfl wl_n))))) rfl (by decide) (ih4346 _ (by omega) (v4347 + 1) v4348 H4383 w4387 f4390 ⟨by omega, by omega⟩ ⟨b4353.1, b4353.2⟩ rfl)
                · refine wp_of e261 c261_90 (rw_iload (pc' := 92) (z := v4348) rfl rfl ?_)
                  refine wp_of e261 c261_92 (rw_aload_n (pc' := 93) (v := .ref r0) rfl rfl rfl ?_)
                  refine wp_of e261 c261_93 (rw_aload_n (pc' := 94) (v := .ref r0) rfl rfl rfl ?_)
                  refine wp_of e261 c261_94 (xg_K (pc' := 97) lf_9_39 w4387 g0 sh_42 (by decide) (by decide) rfl q4395 rfl ?_)
                  refine wp_of e261 c261_97 (rw_iload_n (pc' := 98) (z := a2) rfl rfl ?_)
                  have k4411 : H4383 r0 3 = H4349 r0 3 := (f4388 r0 3 _ g0 rfl)
                  have q4412 : H4383 r0 3 = (r4378 : Int) := k4411.trans q4379
                  refine wp_of e261 c261_98 (xc_V (pc' := 101) (r := r0) (as := [.ref r4394, vI a2]) (st := [vI v4348]) (lm_9_455) rfl rfl (Nat.le_of_ble_eq_true rfl) w4387 g0 sh_42 (by decide) rfl (by decide) (s_262_m_lot w4387 g0 g4396 ⟨i2.1, i2.2⟩ q4412 g4380) (fun R4413 T4414 H4415 p4416 => ?_))
                  obtain ⟨e4417, e4419, z4420, e4418, b4421⟩ := p4416
                  subst e4417
                  subst e4418
                  subst e4419
                  show wp _ _ 261 101 [(5, vI v4347), (4, vI v4348), (0, .ref r0), (1, vI a1), (2, vI a2)] [vI z4420, vI v4348] _ H4383 _
                  refine wp_of e261 c261_101 (rw_ior (pc' := 102) rfl ?_)
                  obtain ⟨v4422, e4423⟩ : ∃ x : Int, x = wq_or v4348 z4420 := ⟨_, rfl⟩
                  rw [← e4423]
                  have b4424 : -2147483648 ≤ v4422 ∧ v4422 ≤ 2147483647 := by
                    rw [e4423]
                    exact wI_or _ _
                  refine wp_of e261 c261_102 (rw_istore (pc' := 104) (z := v4422) (L' := [(4, vI v4422), (5, vI v4347), (0, .ref r0), (1, vI a1), (2, vI a2)]) rfl rfl rfl ?_)
                  refine wp_of e261 c261_104 (rw_iinc (pc' := 107) (z := v4347) (L' := [(5, vI (v4347 + 1)), (4, vI v4422), (0, .ref r0), (1, vI a1), (2, vI a2)]) rfl rfl rfl rfl ?_)
                  refine wp_of e261 c261_107 (rw_goto (p1 := 47) (by decide) ?_)
                  exact wp_lc (ks := [5, 4, 0, 1, 2]) (wl_c rfl (wl_c rfl (wl_c rfl (wl_c rfl (wl_c rfl wl_n))))) rfl (by decide) (ih4346 _ (by omega) (v4347 + 1) v4422 H4383 w4387 f4390 ⟨by omega, by omega⟩ ⟨b4424.1, b4424.2⟩ rfl)
          exact wp_lc (ks := [5, 4, 3, 0, 1, 2]) (wl_c rfl (wl_c rfl (wl_c rfl (wl_c rfl (wl_c rfl wl_n))))) rfl (by decide) (lp4344 _ 0 0 H3885 w3889 wfr.rf ⟨by decide, by decide⟩ ⟨by decide, by decide⟩ rfl)
        · exfalso
          omega
      · have f4425 := f2693.tr f3890 rfl
        show wp _ _ 261 30 [(0, .ref r0), (1, vI a1), (2, vI a2)] [vI z3891] _ H3885 _
        refine wp_of e261 c261_30 (rw_istore_n (pc' := 31) (z := z3891) (L' := [(3, vI z3891), (0, .ref r0), (1, vI a1), (2, vI a2)]) rfl rfl rfl ?_)
        refine wp_of e261 c261_31 (rw_iload_n (pc' := 32) (z := z3891) rfl rfl ?_)
        refine wp_of e261 c261_32 (rw_if_le (p1 := 41) (p2 := 35) (by decide) rfl ⟨Int.le_trans (by decide) b3892.1, Int.le_trans b3892.2 (by decide)⟩ (fun c4426 => ?_) (fun c4426 => ?_))
        · exfalso
          omega
        · refine wp_of e261 c261_35 (rw_aload_n (pc' := 36) (v := .ref r0) rfl rfl rfl ?_)
          refine wp_of e261 c261_36 (rw_iload_n (pc' := 37) (z := z3891) rfl rfl ?_)
          refine wp_of e261 c261_37 (xc_V (pc' := 40) (r := r0) (as := [vI z3891]) (st := []) (lm_9_54) rfl rfl (Nat.le_of_ble_eq_true rfl) w3889 g0 sh_42 (by decide) rfl (by decide) (s_170 w3889 g0 ⟨Int.le_trans (by decide) b3892.1, Int.le_trans b3892.2 (by decide)⟩) (fun R4427 T4428 H4429 p4430 => ?_))
          obtain ⟨e4431, w4433, f4434, z4435, e4432, b4436⟩ := p4430
          subst e4431
          subst e4432
          have f4437 := f4425.tr f4434 rfl
          show wp _ _ 261 40 [(3, vI z3891), (0, .ref r0), (1, vI a1), (2, vI a2)] [vI z4435] _ H4429 _
          have k4438 : wKI H4429 r0 = wKI H3885 r0 := (wKI_fr w3889 g0 f4434 rfl)
          have h4439 : KNN T H4429 r0 e d := (KNN_fr w3889 g0 f4434 rfl a3909)
          exact wp_ireturn e261 c261_40 rfl ⟨rfl, w4433, f4437, z4435, rfl, ⟨b4436.1, b4436.2⟩, ⟨by omega, h4439⟩⟩
/-! StrikeAwakeModel.bed(IZ)I  -/
abbrev uq_263 (r0 : Nat) (a1 : Int) (a2 : Int) (e : xD) (d : xD) (T : wq_T) (H : wq_H) : Option Value → wq_T → wq_H → Prop := fun r T' H' => T = T' ∧ WT T H' ∧ wfr [(42, 0), (42, 1), (42, 2), (42, 28), (42, 29), (51, 999), (52, 999)] T H H' ∧ ∃ z : Int, some (vI z) = r ∧ ((-2147483648) ≤ z ∧ z ≤ 2147483647) ∧ (((wKI H' r0 = 1) ∧ KNN T H' r0 e d))
set_option maxHeartbeats 4000000 in
theorem u_263 {kt : Nat → Option mc_E} {T : wq_T} {H : wq_H} {r0 : Nat} {a1 : Int} {a2 : Int} {e : xD} {d : xD} (hW : WT T H) (g0 : T.2.2.2 r0 = some 42) (i1 : (-2147483648) ≤ a1 ∧ a1 ≤ 2147483647) (i2 : 0 ≤ a2 ∧ a2 ≤ 1) (p0 : wKI H r0 = 1) (p1 : XW d) (p2 : ∀ h : Nat, d 0 0 ≤ (h : Int) → h < 24 → e 13 h = 0) (p3 : XN d) (p4 : ∀ h : Nat, h < 24 → 0 ≤ e 13 h ∧ e 13 h ≤ 100) (hRB_r0 : RB T H r0 e d) (hKNN_r0 : KNN T H r0 e d) : wpc kt 9 263 [.ref r0, vI a1, vI a2] T H (uq_263 r0 a1 a2 e d T H) := by
  refine wp_enter e263 (Nat.le_of_ble_eq_true rfl) rfl ?_
  have f0 : wfr [(42, 0), (42, 1), (42, 2), (42, 28), (42, 29), (51, 999), (52, 999)] T H H := wfr.rf
  show wp _ _ 263 0 [(0, .ref r0), (1, vI a1), (2, vI a2)] [] _ H _
  have _b := RB_b hW hRB_r0
  have _nu := RB_n3 hRB_r0
  have _lm := RB_lm hRB_r0
  refine wp_of e263 c263_0 (rw_aload_n (pc' := 1) (v := .ref r0) rfl rfl rfl ?_)
  refine wp_of e263 c263_1 (rw_iconst (pc' := 2) rfl ?_)
  refine wp_of e263 c263_2 (xp_I (pc' := 5) lf_9_48 hW g0 sh_42 (by decide) (by decide) ty_42_0 rfl rfl (by decide) (by decide) ⟨by decide, by decide⟩ rfl (fun H1090 e1091 w1092 => ?_))
  have f1093 := f0.put' e1091 g0 rfl
  have k1094 : H1090 r0 0 = 0 := wq_u_s e1091
  refine wp_of e263 c263_5 (rw_aload_n (pc' := 6) (v := .ref r0) rfl rfl rfl ?_)
  refine wp_of e263 c263_6 (rw_aload_n (pc' := 7) (v := .ref r0) rfl rfl rfl ?_)
  refine wp_of e263 c263_7 (rw_iload_n (pc' := 8) (z := a1) rfl rfl ?_)
  refine wp_of e263 c263_8 (xc_V (pc' := 11) (r := r0) (as := [vI a1]) (st := [.ref r0]) (lm_9_364) rfl rfl (Nat.le_of_ble_eq_true rfl) w1092 g0 sh_42 (by decide) rfl (by decide) (s_213 w1092 g0 ⟨i1.1, i1.2⟩) (fun R1095 T1096 H1097 p1098 => ?_))
  obtain ⟨e1099, e1101, z1103, e1100, b1104, p1102⟩ := p1098
  subst e1099
  subst e1100
  subst e1101
  show wp _ _ 263 11 [(0, .ref r0), (1, vI a1), (2, vI a2)] [vI z1103, .ref r0] _ H1090 _
  have k1105 : H1090 r0 3 = H r0 3 := (wq_u_j e1091 rfl)
  have k1106 : wKI H1090 r0 = wKI H r0 := (wKI_fr hW g0 ((wfr.rf (l := [(42, 0)])).put' e1091 g0 rfl) rfl)
  have h1107 : RB T H1090 r0 e d := (RB_fr hW g0 ((wfr.rf (l := [(42, 0)])).put' e1091 g0 rfl) rfl hRB_r0)
  have h1108 : KNN T H1090 r0 e d := (KNN_fr hW g0 ((wfr.rf (l := [(42, 0)])).put' e1091 g0 rfl) rfl hKNN_r0)
  refine wp_of e263 c263_11 (xc_V (pc' := 14) (r := r0) (as := [vI z1103]) (st := []) (lm_9_447) rfl rfl (Nat.le_of_ble_eq_true rfl) w1092 g0 sh_42 (by decide) rfl (by decide) (u_253 (e := e) (d := d) w1092 g0 ⟨b1104.1, b1104.2⟩ (by omega) (by omega) (by assumption) (by assumption) (by assumption) (by assumption) h1107 h1108) (fun R1109 T1110 H1111 p1112 => ?_))
  obtain ⟨e1113, w1115, f1116, z1117, e1114, b1118, p1119⟩ := p1112
  subst e1113
  subst e1114
  rcases p1119 with ⟨a1120, a1121, a1122, a1123, a1124, a1125, a1126, a1127, a1128, a1129⟩ | ⟨a1130, a1131, a1132, a1133, a1134, a1135, a1136⟩
  · have f1137 := f1093.tr f1116 rfl
    show wp _ _ 263 14 [(0, .ref r0), (1, vI a1), (2, vI a2)] [vI z1117] _ H1111 _
    refine wp_of e263 c263_14 (rw_istore_n (pc' := 15) (z := z1117) (L' := [(3, vI z1117), (0, .ref r0), (1, vI a1), (2, vI a2)]) rfl rfl rfl ?_)
    refine wp_of e263 c263_15 (rw_iload_n (pc' := 16) (z := z1117) rfl rfl ?_)
    refine wp_of e263 c263_16 (rw_if_le (p1 := 27) (p2 := 19) (by decide) rfl ⟨Int.le_trans (by decide) b1118.1, Int.le_trans b1118.2 (by decide)⟩ (fun c1138 => ?_) (fun c1138 => ?_))
    · refine wp_of e263 c263_27 (rw_aload_n (pc' := 28) (v := .ref r0) rfl rfl rfl ?_)
      refine wp_of e263 c263_28 (rw_aload_n (pc' := 29) (v := .ref r0) rfl rfl rfl ?_)
      refine wp_of e263 c263_29 (rw_iload_n (pc' := 30) (z := a1) rfl rfl ?_)
      refine wp_of e263 c263_30 (rw_aload_n (pc' := 31) (v := .ref r0) rfl rfl rfl ?_)
      refine wp_of e263 c263_31 (xg_R (pc' := 34) lf_9_24 w1115 g0 sh_42 (by decide) (by decide) ty_42_22 rfl rfl (fun r1139 q1140 g1141 => ?_))
      refine wp_of e263 c263_34 (rw_iload_n (pc' := 35) (z := a2) rfl rfl ?_)
      have k1142 : H1111 r0 3 = H1090 r0 3 := (f1116 r0 3 _ g0 rfl)
      obtain ⟨r1143, q1144, g1145⟩ := (w1115.opt g0 (t' := 54) (n := 33) (j := 3) (p := 0) (q := 0) rfl (by decide) rfl).resolve_left (by omega)
      refine wp_of e263 c263_35 (xc_V (pc' := 38) (r := r0) (as := [vI a1, .ref r1139, vI a2]) (st := [.ref r0]) (lm_9_458) rfl rfl (Nat.le_of_ble_eq_true rfl) w1115 g0 sh_42 (by decide) rfl (by decide) (s_264_m_bed w1115 g0 ⟨by omega, by omega⟩ g1141 ⟨i2.1, i2.2⟩ q1144 g1145 (by omega)) (fun R1146 T1147 H1148 p1149 => ?_))
      obtain ⟨e1150, w1152, f1153, z1154, e1151, b1155⟩ := p1149
      subst e1150
      subst e1151
      have f1156 := f1137.tr f1153 rfl
      show wp _ _ 263 38 [(3, vI z1117), (0, .ref r0), (1, vI a1), (2, vI a2)] [vI z1154, .ref r0] _ H1148 _
      refine wp_of e263 c263_38 (xc_V (pc' := 41) (r := r0) (as := [vI z1154]) (st := []) (lm_9_58) rfl rfl (Nat.le_of_ble_eq_true rfl) w1152 g0 sh_42 (by decide) rfl (by decide) (s_209 w1152 g0 ⟨b1155.1, b1155.2⟩) (fun R1157 T1158 H1159 p1160 => ?_))
      obtain ⟨e1161, w1163, f1164, z1165, e1162, b1166⟩ := p1160
      subst e1161
      subst e1162
      have f1167 := f1156.tr f1164 rfl
      show wp _ _ 263 41 [(3, vI z1117), (0, .ref r0), (1, vI a1), (2, vI a2)] [vI z1165] _ H1159 _
      have k1168 : wKI H1159 r0 = wKI H1111 r0 := ((wKI_fr w1152 g0 f1164 rfl).trans (wKI_fr w1115 g0 f1153 rfl))
      have h1169 : KNN T H1159 r0 e d := (KNN_fr w1152 g0 f1164 rfl (KNN_fr w1115 g0 f1153 rfl a1128))
      exact wp_ireturn e263 c263_41 rfl ⟨rfl, w1163, f1167, z1165, rfl, ⟨b1166.1, b1166.2⟩, ⟨by omega, h1169⟩⟩
    · exfalso
      omega
  · have f1170 := f1093.tr f1116 rfl
    show wp _ _ 263 14 [(0, .ref r0), (1, vI a1), (2, vI a2)] [vI z1117] _ H1111 _
    refine wp_of e263 c263_14 (rw_istore_n (pc' := 15) (z := z1117) (L' := [(3, vI z1117), (0, .ref r0), (1, vI a1), (2, vI a2)]) rfl rfl rfl ?_)
    refine wp_of e263 c263_15 (rw_iload_n (pc' := 16) (z := z1117) rfl rfl ?_)
    refine wp_of e263 c263_16 (rw_if_le (p1 := 27) (p2 := 19) (by decide) rfl ⟨Int.le_trans (by decide) b1118.1, Int.le_trans b1118.2 (by decide)⟩ (fun c1171 => ?_) (fun c1171 => ?_))
    · exfalso
      omega
    · refine wp_of e263 c263_19 (rw_aload_n (pc' := 20) (v := .ref r0) rfl rfl rfl ?_)
      refine wp_of e263 c263_20 (rw_iload_n (pc' := 21) (z := z1117) rfl rfl ?_)
      refine wp_of e263 c263_21 (xc_V (pc' := 24) (r := r0) (as := [vI z1117]) (st := []) (lm_9_54) rfl rfl (Nat.le_of_ble_eq_true rfl) w1115 g0 sh_42 (by decide) rfl (by decide) (s_170 w1115 g0 ⟨Int.le_trans (by decide) b1118.1, Int.le_trans b1118.2 (by decide)⟩) (fun R1172 T1173 H1174 p1175 => ?_))
      obtain ⟨e1176, w1178, f1179, z1180, e1177, b1181⟩ := p1175
      subst e1176
      subst e1177
      have f1182 := f1170.tr f1179 rfl
      show wp _ _ 263 24 [(3, vI z1117), (0, .ref r0), (1, vI a1), (2, vI a2)] [vI z1180] _ H1174 _
      refine wp_of e263 c263_24 (rw_goto (p1 := 41) (by decide) ?_)
      have k1183 : wKI H1174 r0 = wKI H1111 r0 := (wKI_fr w1115 g0 f1179 rfl)
      have h1184 : KNN T H1174 r0 e d := (KNN_fr w1115 g0 f1179 rfl a1136)
      exact wp_ireturn e263 c263_41 rfl ⟨rfl, w1178, f1182, z1180, rfl, ⟨b1181.1, b1181.2⟩, ⟨by omega, h1184⟩⟩
/-! StrikeAwakeModel.sleeps(IZ)I  -/
abbrev uq_265 (r0 : Nat) (a1 : Int) (a2 : Int) (e : xD) (d : xD) (T : wq_T) (H : wq_H) : Option Value → wq_T → wq_H → Prop := fun r T' H' => T = T' ∧ WT T H' ∧ wfr [(42, 0), (42, 1), (42, 2), (42, 28), (42, 29), (51, 999), (52, 999)] T H H' ∧ ∃ z : Int, some (vI z) = r ∧ ((-2147483648) ≤ z ∧ z ≤ 2147483647) ∧ (((wKI H' r0 = 1) ∧ KNN T H' r0 e d))
set_option maxHeartbeats 4000000 in
theorem u_265 {kt : Nat → Option mc_E} {T : wq_T} {H : wq_H} {r0 : Nat} {a1 : Int} {a2 : Int} {e : xD} {d : xD} (hW : WT T H) (g0 : T.2.2.2 r0 = some 42) (i1 : (-2147483648) ≤ a1 ∧ a1 ≤ 2147483647) (i2 : 0 ≤ a2 ∧ a2 ≤ 1) (p0 : wKI H r0 = 1) (p1 : XW d) (p2 : ∀ h : Nat, d 0 0 ≤ (h : Int) → h < 24 → e 13 h = 0) (p3 : XN d) (p4 : ∀ h : Nat, h < 24 → 0 ≤ e 13 h ∧ e 13 h ≤ 100) (hRB_r0 : RB T H r0 e d) (hKNN_r0 : KNN T H r0 e d) : wpc kt 9 265 [.ref r0, vI a1, vI a2] T H (uq_265 r0 a1 a2 e d T H) := by
  refine wp_enter e265 (Nat.le_of_ble_eq_true rfl) rfl ?_
  have f0 : wfr [(42, 0), (42, 1), (42, 2), (42, 28), (42, 29), (51, 999), (52, 999)] T H H := wfr.rf
  show wp _ _ 265 0 [(0, .ref r0), (1, vI a1), (2, vI a2)] [] _ H _
  have _b := RB_b hW hRB_r0
  have _nu := RB_n3 hRB_r0
  have _lm := RB_lm hRB_r0
  refine wp_of e265 c265_0 (rw_aload_n (pc' := 1) (v := .ref r0) rfl rfl rfl ?_)
  refine wp_of e265 c265_1 (rw_iconst (pc' := 2) rfl ?_)
  refine wp_of e265 c265_2 (xp_I (pc' := 5) lf_9_48 hW g0 sh_42 (by decide) (by decide) ty_42_0 rfl rfl (by decide) (by decide) ⟨by decide, by decide⟩ rfl (fun H1090 e1091 w1092 => ?_))
  have f1093 := f0.put' e1091 g0 rfl
  have k1094 : H1090 r0 0 = 0 := wq_u_s e1091
  refine wp_of e265 c265_5 (rw_aload_n (pc' := 6) (v := .ref r0) rfl rfl rfl ?_)
  refine wp_of e265 c265_6 (rw_aload_n (pc' := 7) (v := .ref r0) rfl rfl rfl ?_)
  refine wp_of e265 c265_7 (rw_iload_n (pc' := 8) (z := a1) rfl rfl ?_)
  refine wp_of e265 c265_8 (xc_V (pc' := 11) (r := r0) (as := [vI a1]) (st := [.ref r0]) (lm_9_364) rfl rfl (Nat.le_of_ble_eq_true rfl) w1092 g0 sh_42 (by decide) rfl (by decide) (s_213 w1092 g0 ⟨i1.1, i1.2⟩) (fun R1095 T1096 H1097 p1098 => ?_))
  obtain ⟨e1099, e1101, z1103, e1100, b1104, p1102⟩ := p1098
  subst e1099
  subst e1100
  subst e1101
  show wp _ _ 265 11 [(0, .ref r0), (1, vI a1), (2, vI a2)] [vI z1103, .ref r0] _ H1090 _
  have k1105 : H1090 r0 3 = H r0 3 := (wq_u_j e1091 rfl)
  have k1106 : wKI H1090 r0 = wKI H r0 := (wKI_fr hW g0 ((wfr.rf (l := [(42, 0)])).put' e1091 g0 rfl) rfl)
  have h1107 : RB T H1090 r0 e d := (RB_fr hW g0 ((wfr.rf (l := [(42, 0)])).put' e1091 g0 rfl) rfl hRB_r0)
  have h1108 : KNN T H1090 r0 e d := (KNN_fr hW g0 ((wfr.rf (l := [(42, 0)])).put' e1091 g0 rfl) rfl hKNN_r0)
  refine wp_of e265 c265_11 (xc_V (pc' := 14) (r := r0) (as := [vI z1103]) (st := []) (lm_9_447) rfl rfl (Nat.le_of_ble_eq_true rfl) w1092 g0 sh_42 (by decide) rfl (by decide) (u_253 (e := e) (d := d) w1092 g0 ⟨b1104.1, b1104.2⟩ (by omega) (by omega) (by assumption) (by assumption) (by assumption) (by assumption) h1107 h1108) (fun R1109 T1110 H1111 p1112 => ?_))
  obtain ⟨e1113, w1115, f1116, z1117, e1114, b1118, p1119⟩ := p1112
  subst e1113
  subst e1114
  rcases p1119 with ⟨a1120, a1121, a1122, a1123, a1124, a1125, a1126, a1127, a1128, a1129⟩ | ⟨a1130, a1131, a1132, a1133, a1134, a1135, a1136⟩
  · have f1137 := f1093.tr f1116 rfl
    show wp _ _ 265 14 [(0, .ref r0), (1, vI a1), (2, vI a2)] [vI z1117] _ H1111 _
    refine wp_of e265 c265_14 (rw_istore_n (pc' := 15) (z := z1117) (L' := [(3, vI z1117), (0, .ref r0), (1, vI a1), (2, vI a2)]) rfl rfl rfl ?_)
    refine wp_of e265 c265_15 (rw_iload_n (pc' := 16) (z := z1117) rfl rfl ?_)
    refine wp_of e265 c265_16 (rw_if_le (p1 := 27) (p2 := 19) (by decide) rfl ⟨Int.le_trans (by decide) b1118.1, Int.le_trans b1118.2 (by decide)⟩ (fun c1138 => ?_) (fun c1138 => ?_))
    · refine wp_of e265 c265_27 (rw_aload_n (pc' := 28) (v := .ref r0) rfl rfl rfl ?_)
      refine wp_of e265 c265_28 (rw_aload_n (pc' := 29) (v := .ref r0) rfl rfl rfl ?_)
      refine wp_of e265 c265_29 (rw_iload_n (pc' := 30) (z := a1) rfl rfl ?_)
      refine wp_of e265 c265_30 (rw_aload_n (pc' := 31) (v := .ref r0) rfl rfl rfl ?_)
      refine wp_of e265 c265_31 (xg_R (pc' := 34) lf_9_27 w1115 g0 sh_42 (by decide) (by decide) ty_42_23 rfl rfl (fun r1139 q1140 g1141 => ?_))
      refine wp_of e265 c265_34 (rw_iload_n (pc' := 35) (z := a2) rfl rfl ?_)
      have k1142 : H1111 r0 3 = H1090 r0 3 := (f1116 r0 3 _ g0 rfl)
      obtain ⟨r1143, q1144, g1145⟩ := (w1115.opt g0 (t' := 54) (n := 33) (j := 3) (p := 0) (q := 0) rfl (by decide) rfl).resolve_left (by omega)
      refine wp_of e265 c265_35 (xc_V (pc' := 38) (r := r0) (as := [vI a1, .ref r1139, vI a2]) (st := [.ref r0]) (lm_9_458) rfl rfl (Nat.le_of_ble_eq_true rfl) w1115 g0 sh_42 (by decide) rfl (by decide) (s_264_m_length w1115 g0 ⟨by omega, by omega⟩ g1141 ⟨i2.1, i2.2⟩ q1144 g1145 (by omega)) (fun R1146 T1147 H1148 p1149 => ?_))
      obtain ⟨e1150, w1152, f1153, z1154, e1151, b1155⟩ := p1149
      subst e1150
      subst e1151
      have f1156 := f1137.tr f1153 rfl
      show wp _ _ 265 38 [(3, vI z1117), (0, .ref r0), (1, vI a1), (2, vI a2)] [vI z1154, .ref r0] _ H1148 _
      refine wp_of e265 c265_38 (xc_V (pc' := 41) (r := r0) (as := [vI z1154]) (st := []) (lm_9_58) rfl rfl (Nat.le_of_ble_eq_true rfl) w1152 g0 sh_42 (by decide) rfl (by decide) (s_209 w1152 g0 ⟨b1155.1, b1155.2⟩) (fun R1157 T1158 H1159 p1160 => ?_))
      obtain ⟨e1161, w1163, f1164, z1165, e1162, b1166⟩ := p1160
      subst e1161
      subst e1162
      have f1167 := f1156.tr f1164 rfl
      show wp _ _ 265 41 [(3, vI z1117), (0, .ref r0), (1, vI a1), (2, vI a2)] [vI z1165] _ H1159 _
      have k1168 : wKI H1159 r0 = wKI H1111 r0 := ((wKI_fr w1152 g0 f1164 rfl).trans (wKI_fr w1115 g0 f1153 rfl))
      have h1169 : KNN T H1159 r0 e d := (KNN_fr w1152 g0 f1164 rfl (KNN_fr w1115 g0 f1153 rfl a1128))
      exact wp_ireturn e265 c265_41 rfl ⟨rfl, w1163, f1167, z1165, rfl, ⟨b1166.1, b1166.2⟩, ⟨by omega, h1169⟩⟩
    · exfalso
      omega
  · have f1170 := f1093.tr f1116 rfl
    show wp _ _ 265 14 [(0, .ref r0), (1, vI a1), (2, vI a2)] [vI z1117] _ H1111 _
    refine wp_of e265 c265_14 (rw_istore_n (pc' := 15) (z := z1117) (L' := [(3, vI z1117), (0, .ref r0), (1, vI a1), (2, vI a2)]) rfl rfl rfl ?_)
    refine wp_of e265 c265_15 (rw_iload_n (pc' := 16) (z := z1117) rfl rfl ?_)
    refine wp_of e265 c265_16 (rw_if_le (p1 := 27) (p2 := 19) (by decide) rfl ⟨Int.le_trans (by decide) b1118.1, Int.le_trans b1118.2 (by decide)⟩ (fun c1171 => ?_) (fun c1171 => ?_))
    · exfalso
      omega
    · refine wp_of e265 c265_19 (rw_aload_n (pc' := 20) (v := .ref r0) rfl rfl rfl ?_)
      refine wp_of e265 c265_20 (rw_iload_n (pc' := 21) (z := z1117) rfl rfl ?_)
      refine wp_of e265 c265_21 (xc_V (pc' := 24) (r := r0) (as := [vI z1117]) (st := []) (lm_9_54) rfl rfl (Nat.le_of_ble_eq_true rfl) w1115 g0 sh_42 (by decide) rfl (by decide) (s_170 w1115 g0 ⟨Int.le_trans (by decide) b1118.1, Int.le_trans b1118.2 (by decide)⟩) (fun R1172 T1173 H1174 p1175 => ?_))
      obtain ⟨e1176, w1178, f1179, z1180, e1177, b1181⟩ := p1175
      subst e1176
      subst e1177
      have f1182 := f1170.tr f1179 rfl
      show wp _ _ 265 24 [(3, vI z1117), (0, .ref r0), (1, vI a1), (2, vI a2)] [vI z1180] _ H1174 _
      refine wp_of e265 c265_24 (rw_goto (p1 := 41) (by decide) ?_)
      have k1183 : wKI H1174 r0 = wKI H1111 r0 := (wKI_fr w1115 g0 f1179 rfl)
      have h1184 : KNN T H1174 r0 e d := (KNN_fr w1115 g0 f1179 rfl a1136)
      exact wp_ireturn e265 c265_41 rfl ⟨rfl, w1178, f1182, z1180, rfl, ⟨b1181.1, b1181.2⟩, ⟨by omega, h1184⟩⟩
/-! StrikeAwakeModel.ask()I  -/
abbrev uq_266 (r0 : Nat) (e : xD) (d : xD) (T : wq_T) (H : wq_H) : Option Value → wq_T → wq_H → Prop := fun r T' H' => T = T' ∧ WT T H' ∧ wfr [(42, 0), (42, 1), (42, 2), (42, 28), (42, 29), (51, 999), (53, 999), (52, 999)] T H H' ∧ ∃ z : Int, some (vI z) = r ∧ ((-2147483648) ≤ z ∧ z ≤ 2147483647) ∧ (((wKI H' r0 = 1) ∧ KNN T H' r0 e d))
set_option maxHeartbeats 4000000 in
theorem u_266 {kt : Nat → Option mc_E} {T : wq_T} {H : wq_H} {r0 : Nat} {e : xD} {d : xD} (hW : WT T H) (g0 : T.2.2.2 r0 = some 42) (p0 : wKI H r0 = 1) (p1 : XW d) (p2 : ∀ h : Nat, d 0 0 ≤ (h : Int) → h < 24 → e 13 h = 0) (p3 : XN d) (p4 : ∀ h : Nat, h < 24 → 0 ≤ e 13 h ∧ e 13 h ≤ 100) (hRB_r0 : RB T H r0 e d) (hKNN_r0 : KNN T H r0 e d) : wpc kt 10 266 [.ref r0] T H (uq_266 r0 e d T H) := by
  refine wp_enter e266 (Nat.le_of_ble_eq_true rfl) rfl ?_
  have f0 : wfr [(42, 0), (42, 1), (42, 2), (42, 28), (42, 29), (51, 999), (53, 999), (52, 999)] T H H := wfr.rf
  show wp _ _ 266 0 [(0, .ref r0)] [] _ H _
  have _b := RB_b hW hRB_r0
  have _nu := RB_n3 hRB_r0
  have _lm := RB_lm hRB_r0
  refine wp_of e266 c266_0 (rw_aload_n (pc' := 1) (v := .ref r0) rfl rfl rfl ?_)
  refine wp_of e266 c266_1 (rw_iconst (pc' := 2) rfl ?_)
  refine wp_of e266 c266_2 (xp_I (pc' := 5) lf_9_48 hW g0 sh_42 (by decide) (by decide) ty_42_0 rfl rfl (by decide) (by decide) ⟨by decide, by decide⟩ rfl (fun H1121 e1122 w1123 => ?_))
  have f1124 := f0.put' e1122 g0 rfl
  have k1125 : H1121 r0 0 = 0 := wq_u_s e1122
  refine wp_of e266 c266_5 (rw_aload_n (pc' := 6) (v := .ref r0) rfl rfl rfl ?_)
  refine wp_of e266 c266_6 (rw_aload_n (pc' := 7) (v := .ref r0) rfl rfl rfl ?_)
  have k1126 : H1121 r0 3 = H r0 3 := (wq_u_j e1122 rfl)
  refine wp_of e266 c266_7 (xg_O (pc' := 10) lf_9_337 w1123 g0 sh_42 (by decide) (by decide) ty_42_3 rfl rfl (fun q1128 => ?_) (fun r1127 q1128 g1129 => ?_))
  · refine wp_of e266 c266_10 (rw_ifnull_n (p1 := 17) (p2 := 13) (by decide) rfl ?_)
    refine wp_of e266 c266_17 (rw_iconst (pc' := 18) rfl ?_)
    have k1130 : wKI H1121 r0 = wKI H r0 := (wKI_fr hW g0 ((wfr.rf (l := [(42, 0)])).put' e1122 g0 rfl) rfl)
    have h1131 : RB T H1121 r0 e d := (RB_fr hW g0 ((wfr.rf (l := [(42, 0)])).put' e1122 g0 rfl) rfl hRB_r0)
    have h1132 : KNN T H1121 r0 e d := (KNN_fr hW g0 ((wfr.rf (l := [(42, 0)])).put' e1122 g0 rfl) rfl hKNN_r0)
    refine wp_of e266 c266_18 (xc_V (pc' := 21) (r := r0) (as := [vI 0]) (st := []) (lm_9_467) rfl rfl (Nat.le_of_ble_eq_true rfl) w1123 g0 sh_42 (by decide) rfl (by decide) (u_267 (e := e) (d := d) w1123 g0 ⟨by decide, by decide⟩ (by omega) (by omega) (by assumption) (by assumption) (by assumption) (by assumption) h1131 h1132) (fun R1133 T1134 H1135 p1136 => ?_))
    obtain ⟨e1137, w1139, f1140, z1141, e1138, b1142, p1143⟩ := p1136
    subst e1137
    subst e1138
    obtain ⟨a1144, a1145, a1146, a1147, a1148⟩ := p1143
    have f1149 := f1124.tr f1140 rfl
    show wp _ _ 266 21 [(0, .ref r0)] [vI z1141] _ H1135 _
    refine wp_of e266 c266_21 (rw_istore_n (pc' := 22) (z := z1141) (L' := [(1, vI z1141), (0, .ref r0)]) rfl rfl rfl ?_)
    refine wp_of e266 c266_22 (rw_iload_n (pc' := 23) (z := z1141) rfl rfl ?_)
    refine wp_of e266 c266_23 (rw_if_le (p1 := 34) (p2 := 26) (by decide) rfl ⟨Int.le_trans (by decide) b1142.1, Int.le_trans b1142.2 (by decide)⟩ (fun c1150 => ?_) (fun c1150 => ?_))
    · refine wp_of e266 c266_34 (rw_aload_n (pc' := 35) (v := .ref r0) rfl rfl rfl ?_)
      refine wp_of e266 c266_35 (rw_aload_n (pc' := 36) (v := .ref r0) rfl rfl rfl ?_)
      refine wp_of e266 c266_36 (rw_iconst (pc' := 37) rfl ?_)
      have k1151 : H1135 r0 3 = H1121 r0 3 := (f1140 r0 3 _ g0 rfl)
      have q1152 : H1135 r0 3 = -1 := k1151.trans q1128
      obtain ⟨r1153, q1154, g1155⟩ := (w1139.opt g0 (t' := 54) (n := 33) (j := 3) (p := 0) (q := 0) rfl (by decide) rfl).resolve_left (by omega)
      refine wp_of e266 c266_37 (xc_V (pc' := 40) (r := r0) (as := [vI (-1)]) (st := [.ref r0]) (lm_9_470) rfl rfl (Nat.le_of_ble_eq_true rfl) w1139 g0 sh_42 (by decide) rfl (by decide) (s_268 w1139 g0 ⟨by decide, by decide⟩ q1154 g1155 (by omega)) (fun R1156 T1157 H1158 p1159 => ?_))
      obtain ⟨e1160, w1162, f1163, z1164, e1161, b1165⟩ := p1159
      subst e1160
      subst e1161
      have f1166 := f1149.tr f1163 rfl
      show wp _ _ 266 40 [(1, vI z1141), (0, .ref r0)] [vI z1164, .ref r0] _ H1158 _
      refine wp_of e266 c266_40 (xc_V (pc' := 43) (r := r0) (as := [vI z1164]) (st := []) (lm_9_58) rfl rfl (Nat.le_of_ble_eq_true rfl) w1162 g0 sh_42 (by decide) rfl (by decide) (s_209 w1162 g0 ⟨b1165.1, b1165.2⟩) (fun R1167 T1168 H1169 p1170 => ?_))
      obtain ⟨e1171, w1173, f1174, z1175, e1172, b1176⟩ := p1170
      subst e1171
      subst e1172
      have f1177 := f1166.tr f1174 rfl
      show wp _ _ 266 43 [(1, vI z1141), (0, .ref r0)] [vI z1175] _ H1169 _
      have k1178 : wKI H1169 r0 = wKI H1135 r0 := ((wKI_fr w1162 g0 f1174 rfl).trans (wKI_fr w1139 g0 f1163 rfl))
      have h1179 : KNN T H1169 r0 e d := (KNN_fr w1162 g0 f1174 rfl (KNN_fr w1139 g0 f1163 rfl a1148))
      exact wp_ireturn e266 c266_43 rfl ⟨rfl, w1173, f1177, z1175, rfl, ⟨b1176.1, b1176.2⟩, ⟨by omega, h1179⟩⟩
    · refine wp_of e266 c266_26 (rw_aload_n (pc' := 27) (v := .ref r0) rfl rfl rfl ?_)
      refine wp_of e266 c266_27 (rw_iload_n (pc' := 28) (z := z1141) rfl rfl ?_)
      refine wp_of e266 c266_28 (xc_V (pc' := 31) (r := r0) (as := [vI z1141]) (st := []) (lm_9_54) rfl rfl (Nat.le_of_ble_eq_true rfl) w1139 g0 sh_42 (by decide) rfl (by decide) (s_170 w1139 g0 ⟨Int.le_trans (by decide) b1142.1, Int.le_trans b1142.2 (by decide)⟩) (fun R1180 T1181 H1182 p1183 => ?_))
      obtain ⟨e1184, w1186, f1187, z1188, e1185, b1189⟩ := p1183
      subst e1184
      subst e1185
      have f1190 := f1149.tr f1187 rfl
      show wp _ _ 266 31 [(1, vI z1141), (0, .ref r0)] [vI z1188] _ H1182 _
      refine wp_of e266 c266_31 (rw_goto (p1 := 43) (by decide) ?_)
      have k1191 : wKI H1182 r0 = wKI H1135 r0 := (wKI_fr w1139 g0 f1187 rfl)
      have h1192 : KNN T H1182 r0 e d := (KNN_fr w1139 g0 f1187 rfl a1148)
      exact wp_ireturn e266 c266_43 rfl ⟨rfl, w1186, f1190, z1188, rfl, ⟨b1189.1, b1189.2⟩, ⟨by omega, h1192⟩⟩
  · refine wp_of e266 c266_10 (rw_ifnull_r (p1 := 17) (p2 := 13) (by decide) rfl ?_)
    refine wp_of e266 c266_13 (rw_iconst (pc' := 14) rfl ?_)
    refine wp_of e266 c266_14 (rw_goto (p1 := 18) (by decide) ?_)
    have k1193 : wKI H1121 r0 = wKI H r0 := (wKI_fr hW g0 ((wfr.rf (l := [(42, 0)])).put' e1122 g0 rfl) rfl)
    have h1194 : RB T H1121 r0 e d := (RB_fr hW g0 ((wfr.rf (l := [(42, 0)])).put' e1122 g0 rfl) rfl hRB_r0)
    have h1195 : KNN T H1121 r0 e d := (KNN_fr hW g0 ((wfr.rf (l := [(42, 0)])).put' e1122 g0 rfl) rfl hKNN_r0)
    refine wp_of e266 c266_18 (xc_V (pc' := 21) (r := r0) (as := [vI 1]) (st := []) (lm_9_467) rfl rfl (Nat.le_of_ble_eq_true rfl) w1123 g0 sh_42 (by decide) rfl (by decide) (u_267 (e := e) (d := d) w1123 g0 ⟨by decide, by decide⟩ (by omega) (by omega) (by assumption) (by assumption) (by assumption) (by assumption) h1194 h1195) (fun R1196 T1197 H1198 p1199 => ?_))
    obtain ⟨e1200, w1202, f1203, z1204, e1201, b1205, p1206⟩ := p1199
    subst e1200
    subst e1201
    obtain ⟨a1207, a1208, a1209, a1210, a1211⟩ := p1206
    have f1212 := f1124.tr f1203 rfl
    show wp _ _ 266 21 [(0, .ref r0)] [vI z1204] _ H1198 _
    refine wp_of e266 c266_21 (rw_istore_n (pc' := 22) (z := z1204) (L' := [(1, vI z1204), (0, .ref r0)]) rfl rfl rfl ?_)
    refine wp_of e266 c266_22 (rw_iload_n (pc' := 23) (z := z1204) rfl rfl ?_)
    refine wp_of e266 c266_23 (rw_if_le (p1 := 34) (p2 := 26) (by decide) rfl ⟨Int.le_trans (by decide) b1205.1, Int.le_trans b1205.2 (by decide)⟩ (fun c1213 => ?_) (fun c1213 => ?_))
    · refine wp_of e266 c266_34 (rw_aload_n (pc' := 35) (v := .ref r0) rfl rfl rfl ?_)
      refine wp_of e266 c266_35 (rw_aload_n (pc' := 36) (v := .ref r0) rfl rfl rfl ?_)
      refine wp_of e266 c266_36 (rw_iconst (pc' := 37) rfl ?_)
      have k1214 : H1198 r0 3 = H1121 r0 3 := (f1203 r0 3 _ g0 rfl)
      have q1215 : H1198 r0 3 = (r1127 : Int) := k1214.trans q1128
      refine wp_of e266 c266_37 (xc_V (pc' := 40) (r := r0) (as := [vI (-1)]) (st := [.ref r0]) (lm_9_470) rfl rfl (Nat.le_of_ble_eq_true rfl) w1202 g0 sh_42 (by decide) rfl (by decide) (s_268 w1202 g0 ⟨by decide, by decide⟩ q1215 g1129 (by omega)) (fun R1216 T1217 H1218 p1219 => ?_))
      obtain ⟨e1220, w1222, f1223, z1224, e1221, b1225⟩ := p1219
      subst e1220
      subst e1221
      have f1226 := f1212.tr f1223 rfl
      show wp _ _ 266 40 [(1, vI z1204), (0, .ref r0)] [vI z1224, .ref r0] _ H1218 _
      refine wp_of e266 c266_40 (xc_V (pc' := 43) (r := r0) (as := [vI z1224]) (st := []) (lm_9_58) rfl rfl (Nat.le_of_ble_eq_true rfl) w1222 g0 sh_42 (by decide) rfl (by decide) (s_209 w1222 g0 ⟨b1225.1, b1225.2⟩) (fun R1227 T1228 H1229 p1230 => ?_))
      obtain ⟨e1231, w1233, f1234, z1235, e1232, b1236⟩ := p1230
      subst e1231
      subst e1232
      have f1237 := f1226.tr f1234 rfl
      show wp _ _ 266 43 [(1, vI z1204), (0, .ref r0)] [vI z1235] _ H1229 _
      have k1238 : wKI H1229 r0 = wKI H1198 r0 := ((wKI_fr w1222 g0 f1234 rfl).trans (wKI_fr w1202 g0 f1223 rfl))
      have h1239 : KNN T H1229 r0 e d := (KNN_fr w1222 g0 f1234 rfl (KNN_fr w1202 g0 f1223 rfl a1211))
      exact wp_ireturn e266 c266_43 rfl ⟨rfl, w1233, f1237, z1235, rfl, ⟨b1236.1, b1236.2⟩, ⟨by omega, h1239⟩⟩
    · refine wp_of e266 c266_26 (rw_aload_n (pc' := 27) (v := .ref r0) rfl rfl rfl ?_)
      refine wp_of e266 c266_27 (rw_iload_n (pc' := 28) (z := z1204) rfl rfl ?_)
      refine wp_of e266 c266_28 (xc_V (pc' := 31) (r := r0) (as := [vI z1204]) (st := []) (lm_9_54) rfl rfl (Nat.le_of_ble_eq_true rfl) w1202 g0 sh_42 (by decide) rfl (by decide) (s_170 w1202 g0 ⟨Int.le_trans (by decide) b1205.1, Int.le_trans b1205.2 (by decide)⟩) (fun R1240 T1241 H1242 p1243 => ?_))
      obtain ⟨e1244, w1246, f1247, z1248, e1245, b1249⟩ := p1243
      subst e1244
      subst e1245
      have f1250 := f1212.tr f1247 rfl
      show wp _ _ 266 31 [(1, vI z1204), (0, .ref r0)] [vI z1248] _ H1242 _
      refine wp_of e266 c266_31 (rw_goto (p1 := 43) (by decide) ?_)
      have k1251 : wKI H1242 r0 = wKI H1198 r0 := (wKI_fr w1202 g0 f1247 rfl)
      have h1252 : KNN T H1242 r0 e d := (KNN_fr w1202 g0 f1247 rfl a1211)
      exact wp_ireturn e266 c266_43 rfl ⟨rfl, w1246, f1250, z1248, rfl, ⟨b1249.1, b1249.2⟩, ⟨by omega, h1252⟩⟩
/-! StrikeAwakeModel.askFor(I)I  -/
abbrev uq_271 (r0 : Nat) (a1 : Int) (e : xD) (d : xD) (T : wq_T) (H : wq_H) : Option Value → wq_T → wq_H → Prop := fun r T' H' => T = T' ∧ WT T H' ∧ wfr [(42, 0), (42, 1), (42, 2), (42, 28), (42, 29), (51, 999), (53, 999), (52, 999)] T H H' ∧ ∃ z : Int, some (vI z) = r ∧ ((-2147483648) ≤ z ∧ z ≤ 2147483647) ∧ (((wKI H' r0 = 1) ∧ KNN T H' r0 e d))
set_option maxHeartbeats 4000000 in
theorem u_271 {kt : Nat → Option mc_E} {T : wq_T} {H : wq_H} {r0 : Nat} {a1 : Int} {e : xD} {d : xD} (hW : WT T H) (g0 : T.2.2.2 r0 = some 42) (i1 : (-2147483648) ≤ a1 ∧ a1 ≤ 2147483647) (p0 : wKI H r0 = 1) (p1 : XW d) (p2 : ∀ h : Nat, d 0 0 ≤ (h : Int) → h < 24 → e 13 h = 0) (p3 : XN d) (p4 : ∀ h : Nat, h < 24 → 0 ≤ e 13 h ∧ e 13 h ≤ 100) (hRB_r0 : RB T H r0 e d) (hKNN_r0 : KNN T H r0 e d) : wpc kt 10 271 [.ref r0, vI a1] T H (uq_271 r0 a1 e d T H) := by
  refine wp_enter e271 (Nat.le_of_ble_eq_true rfl) rfl ?_
  have f0 : wfr [(42, 0), (42, 1), (42, 2), (42, 28), (42, 29), (51, 999), (53, 999), (52, 999)] T H H := wfr.rf
  show wp _ _ 271 0 [(0, .ref r0), (1, vI a1)] [] _ H _
  have _b := RB_b hW hRB_r0
  have _nu := RB_n3 hRB_r0
  have _lm := RB_lm hRB_r0
  refine wp_of e271 c271_0 (rw_aload_n (pc' := 1) (v := .ref r0) rfl rfl rfl ?_)
  refine wp_of e271 c271_1 (rw_iconst (pc' := 2) rfl ?_)
  refine wp_of e271 c271_2 (xp_I (pc' := 5) lf_9_48 hW g0 sh_42 (by decide) (by decide) ty_42_0 rfl rfl (by decide) (by decide) ⟨by decide, by decide⟩ rfl (fun H1073 e1074 w1075 => ?_))
  have f1076 := f0.put' e1074 g0 rfl
  have k1077 : H1073 r0 0 = 0 := wq_u_s e1074
  refine wp_of e271 c271_5 (rw_aload_n (pc' := 6) (v := .ref r0) rfl rfl rfl ?_)
  refine wp_of e271 c271_6 (rw_aload_n (pc' := 7) (v := .ref r0) rfl rfl rfl ?_)
  refine wp_of e271 c271_7 (rw_iload_n (pc' := 8) (z := a1) rfl rfl ?_)
  refine wp_of e271 c271_8 (xc_V (pc' := 11) (r := r0) (as := [vI a1]) (st := [.ref r0]) (lm_9_373) rfl rfl (Nat.le_of_ble_eq_true rfl) w1075 g0 sh_42 (by decide) rfl (by decide) (s_218 w1075 g0 ⟨i1.1, i1.2⟩) (fun R1078 T1079 H1080 p1081 => ?_))
  obtain ⟨e1082, e1084, z1086, e1083, b1087, p1085⟩ := p1081
  subst e1082
  subst e1083
  subst e1084
  show wp _ _ 271 11 [(0, .ref r0), (1, vI a1)] [vI z1086, .ref r0] _ H1073 _
  have k1088 : H1073 r0 3 = H r0 3 := (wq_u_j e1074 rfl)
  have k1089 : wKI H1073 r0 = wKI H r0 := (wKI_fr hW g0 ((wfr.rf (l := [(42, 0)])).put' e1074 g0 rfl) rfl)
  have h1090 : RB T H1073 r0 e d := (RB_fr hW g0 ((wfr.rf (l := [(42, 0)])).put' e1074 g0 rfl) rfl hRB_r0)
  have h1091 : KNN T H1073 r0 e d := (KNN_fr hW g0 ((wfr.rf (l := [(42, 0)])).put' e1074 g0 rfl) rfl hKNN_r0)
  refine wp_of e271 c271_11 (xc_V (pc' := 14) (r := r0) (as := [vI z1086]) (st := []) (lm_9_467) rfl rfl (Nat.le_of_ble_eq_true rfl) w1075 g0 sh_42 (by decide) rfl (by decide) (u_267 (e := e) (d := d) w1075 g0 ⟨b1087.1, b1087.2⟩ (by omega) (by omega) (by assumption) (by assumption) (by assumption) (by assumption) h1090 h1091) (fun R1092 T1093 H1094 p1095 => ?_))
  obtain ⟨e1096, w1098, f1099, z1100, e1097, b1101, p1102⟩ := p1095
  subst e1096
  subst e1097
  obtain ⟨a1103, a1104, a1105, a1106, a1107⟩ := p1102
  have f1108 := f1076.tr f1099 rfl
  show wp _ _ 271 14 [(0, .ref r0), (1, vI a1)] [vI z1100] _ H1094 _
  refine wp_of e271 c271_14 (rw_istore_n (pc' := 15) (z := z1100) (L' := [(2, vI z1100), (0, .ref r0), (1, vI a1)]) rfl rfl rfl ?_)
  refine wp_of e271 c271_15 (rw_iload_n (pc' := 16) (z := z1100) rfl rfl ?_)
  refine wp_of e271 c271_16 (rw_if_le (p1 := 27) (p2 := 19) (by decide) rfl ⟨Int.le_trans (by decide) b1101.1, Int.le_trans b1101.2 (by decide)⟩ (fun c1109 => ?_) (fun c1109 => ?_))
  · refine wp_of e271 c271_27 (rw_aload_n (pc' := 28) (v := .ref r0) rfl rfl rfl ?_)
    refine wp_of e271 c271_28 (rw_aload_n (pc' := 29) (v := .ref r0) rfl rfl rfl ?_)
    refine wp_of e271 c271_29 (rw_iload_n (pc' := 30) (z := a1) rfl rfl ?_)
    have k1110 : H1094 r0 3 = H1073 r0 3 := (f1099 r0 3 _ g0 rfl)
    obtain ⟨r1111, q1112, g1113⟩ := (w1098.opt g0 (t' := 54) (n := 33) (j := 3) (p := 0) (q := 0) rfl (by decide) rfl).resolve_left (by omega)
    refine wp_of e271 c271_30 (xc_V (pc' := 33) (r := r0) (as := [vI a1]) (st := [.ref r0]) (lm_9_470) rfl rfl (Nat.le_of_ble_eq_true rfl) w1098 g0 sh_42 (by decide) rfl (by decide) (s_268 w1098 g0 ⟨i1.1, i1.2⟩ q1112 g1113 (by omega)) (fun R1114 T1115 H1116 p1117 => ?_))
    obtain ⟨e1118, w1120, f1121, z1122, e1119, b1123⟩ := p1117
    subst e1118
    subst e1119
    have f1124 := f1108.tr f1121 rfl
    show wp _ _ 271 33 [(2, vI z1100), (0, .ref r0), (1, vI a1)] [vI z1122, .ref r0] _ H1116 _
    refine wp_of e271 c271_33 (xc_V (pc' := 36) (r := r0) (as := [vI z1122]) (st := []) (lm_9_58) rfl rfl (Nat.le_of_ble_eq_true rfl) w1120 g0 sh_42 (by decide) rfl (by decide) (s_209 w1120 g0 ⟨b1123.1, b1123.2⟩) (fun R1125 T1126 H1127 p1128 => ?_))
    obtain ⟨e1129, w1131, f1132, z1133, e1130, b1134⟩ := p1128
    subst e1129
    subst e1130
    have f1135 := f1124.tr f1132 rfl
    show wp _ _ 271 36 [(2, vI z1100), (0, .ref r0), (1, vI a1)] [vI z1133] _ H1127 _
    have k1136 : wKI H1127 r0 = wKI H1094 r0 := ((wKI_fr w1120 g0 f1132 rfl).trans (wKI_fr w1098 g0 f1121 rfl))
    have h1137 : KNN T H1127 r0 e d := (KNN_fr w1120 g0 f1132 rfl (KNN_fr w1098 g0 f1121 rfl a1107))
    exact wp_ireturn e271 c271_36 rfl ⟨rfl, w1131, f1135, z1133, rfl, ⟨b1134.1, b1134.2⟩, ⟨by omega, h1137⟩⟩
  · refine wp_of e271 c271_19 (rw_aload_n (pc' := 20) (v := .ref r0) rfl rfl rfl ?_)
    refine wp_of e271 c271_20 (rw_iload_n (pc' := 21) (z := z1100) rfl rfl ?_)
    refine wp_of e271 c271_21 (xc_V (pc' := 24) (r := r0) (as := [vI z1100]) (st := []) (lm_9_54) rfl rfl (Nat.le_of_ble_eq_true rfl) w1098 g0 sh_42 (by decide) rfl (by decide) (s_170 w1098 g0 ⟨Int.le_trans (by decide) b1101.1, Int.le_trans b1101.2 (by decide)⟩) (fun R1138 T1139 H1140 p1141 => ?_))
    obtain ⟨e1142, w1144, f1145, z1146, e1143, b1147⟩ := p1141
    subst e1142
    subst e1143
    have f1148 := f1108.tr f1145 rfl
    show wp _ _ 271 24 [(2, vI z1100), (0, .ref r0), (1, vI a1)] [vI z1146] _ H1140 _
    refine wp_of e271 c271_24 (rw_goto (p1 := 36) (by decide) ?_)
    have k1149 : wKI H1140 r0 = wKI H1094 r0 := (wKI_fr w1098 g0 f1145 rfl)
    have h1150 : KNN T H1140 r0 e d := (KNN_fr w1098 g0 f1145 rfl a1107)
    exact wp_ireturn e271 c271_36 rfl ⟨rfl, w1144, f1148, z1146, rfl, ⟨b1147.1, b1147.2⟩, ⟨by omega, h1150⟩⟩
/-! StrikeAwakeModel.lie(I)I  -/
abbrev uq_272 (r0 : Nat) (a1 : Int) (e : xD) (d : xD) (T : wq_T) (H : wq_H) : Option Value → wq_T → wq_H → Prop := fun r T' H' => T = T' ∧ WT T H' ∧ wfr [(42, 0), (42, 1), (42, 2), (42, 28), (42, 29), (51, 999), (52, 999)] T H H' ∧ ∃ z : Int, some (vI z) = r ∧ ((-2147483648) ≤ z ∧ z ≤ 2147483647) ∧ (((wKI H' r0 = 1) ∧ KNN T H' r0 e d))
set_option maxHeartbeats 4000000 in
theorem u_272 {kt : Nat → Option mc_E} {T : wq_T} {H : wq_H} {r0 : Nat} {a1 : Int} {e : xD} {d : xD} (hW : WT T H) (g0 : T.2.2.2 r0 = some 42) (i1 : (-2147483648) ≤ a1 ∧ a1 ≤ 2147483647) (p0 : wKI H r0 = 1) (p1 : XW d) (p2 : ∀ h : Nat, d 0 0 ≤ (h : Int) → h < 24 → e 13 h = 0) (p3 : XN d) (p4 : ∀ h : Nat, h < 24 → 0 ≤ e 13 h ∧ e 13 h ≤ 100) (hRB_r0 : RB T H r0 e d) (hKNN_r0 : KNN T H r0 e d) : wpc kt 8 272 [.ref r0, vI a1] T H (uq_272 r0 a1 e d T H) := by
  refine wp_enter e272 (Nat.le_of_ble_eq_true rfl) rfl ?_
  have f0 : wfr [(42, 0), (42, 1), (42, 2), (42, 28), (42, 29), (51, 999), (52, 999)] T H H := wfr.rf
  show wp _ _ 272 0 [(0, .ref r0), (1, vI a1)] [] _ H _
  have _b := RB_b hW hRB_r0
  have _nu := RB_n3 hRB_r0
  have _lm := RB_lm hRB_r0
  refine wp_of e272 c272_0 (rw_aload_n (pc' := 1) (v := .ref r0) rfl rfl rfl ?_)
  refine wp_of e272 c272_1 (rw_iconst (pc' := 2) rfl ?_)
  refine wp_of e272 c272_2 (xp_I (pc' := 5) lf_9_48 hW g0 sh_42 (by decide) (by decide) ty_42_0 rfl rfl (by decide) (by decide) ⟨by decide, by decide⟩ rfl (fun H1098 e1099 w1100 => ?_))
  have f1101 := f0.put' e1099 g0 rfl
  have k1102 : H1098 r0 0 = 0 := wq_u_s e1099
  refine wp_of e272 c272_5 (rw_aload_n (pc' := 6) (v := .ref r0) rfl rfl rfl ?_)
  refine wp_of e272 c272_6 (rw_aload_n (pc' := 7) (v := .ref r0) rfl rfl rfl ?_)
  refine wp_of e272 c272_7 (rw_iload_n (pc' := 8) (z := a1) rfl rfl ?_)
  refine wp_of e272 c272_8 (xc_V (pc' := 11) (r := r0) (as := [vI a1]) (st := [.ref r0]) (lm_9_473) rfl rfl (Nat.le_of_ble_eq_true rfl) w1100 g0 sh_42 (by decide) rfl (by decide) (s_273 w1100 g0 ⟨i1.1, i1.2⟩) (fun R1103 T1104 H1105 p1106 => ?_))
  obtain ⟨e1107, e1109, z1111, e1108, b1112, p1110⟩ := p1106
  subst e1107
  subst e1108
  subst e1109
  show wp _ _ 272 11 [(0, .ref r0), (1, vI a1)] [vI z1111, .ref r0] _ H1098 _
  have k1113 : H1098 r0 3 = H r0 3 := (wq_u_j e1099 rfl)
  have k1114 : wKI H1098 r0 = wKI H r0 := (wKI_fr hW g0 ((wfr.rf (l := [(42, 0)])).put' e1099 g0 rfl) rfl)
  have h1115 : RB T H1098 r0 e d := (RB_fr hW g0 ((wfr.rf (l := [(42, 0)])).put' e1099 g0 rfl) rfl hRB_r0)
  have h1116 : KNN T H1098 r0 e d := (KNN_fr hW g0 ((wfr.rf (l := [(42, 0)])).put' e1099 g0 rfl) rfl hKNN_r0)
  refine wp_of e272 c272_11 (xc_V (pc' := 14) (r := r0) (as := [vI z1111]) (st := []) (lm_9_433) rfl rfl (Nat.le_of_ble_eq_true rfl) w1100 g0 sh_42 (by decide) rfl (by decide) (u_241 (e := e) (d := d) w1100 g0 ⟨b1112.1, b1112.2⟩ (by omega) (by omega) (by assumption) (by assumption) (by assumption) (by assumption) h1115 h1116) (fun R1117 T1118 H1119 p1120 => ?_))
  obtain ⟨e1121, w1123, f1124, z1125, e1122, b1126, p1127⟩ := p1120
  subst e1121
  subst e1122
  rcases p1127 with ⟨a1128, a1129, a1130, a1131, a1132, a1133, a1134, a1135, a1136⟩ | ⟨a1137, a1138, a1139, a1140, a1141, a1142, a1143⟩
  · have f1144 := f1101.tr f1124 rfl
    show wp _ _ 272 14 [(0, .ref r0), (1, vI a1)] [vI z1125] _ H1119 _
    refine wp_of e272 c272_14 (rw_istore_n (pc' := 15) (z := z1125) (L' := [(2, vI z1125), (0, .ref r0), (1, vI a1)]) rfl rfl rfl ?_)
    refine wp_of e272 c272_15 (rw_iload_n (pc' := 16) (z := z1125) rfl rfl ?_)
    refine wp_of e272 c272_16 (rw_if_le (p1 := 27) (p2 := 19) (by decide) rfl ⟨Int.le_trans (by decide) b1126.1, Int.le_trans b1126.2 (by decide)⟩ (fun c1145 => ?_) (fun c1145 => ?_))
    · refine wp_of e272 c272_27 (rw_aload_n (pc' := 28) (v := .ref r0) rfl rfl rfl ?_)
      refine wp_of e272 c272_28 (rw_aload_n (pc' := 29) (v := .ref r0) rfl rfl rfl ?_)
      refine wp_of e272 c272_29 (rw_iload_n (pc' := 30) (z := a1) rfl rfl ?_)
      have k1146 : H1119 r0 3 = H1098 r0 3 := (f1124 r0 3 _ g0 rfl)
      obtain ⟨r1147, q1148, g1149⟩ := (w1123.opt g0 (t' := 54) (n := 33) (j := 3) (p := 0) (q := 0) rfl (by decide) rfl).resolve_left (by omega)
      refine wp_of e272 c272_30 (xc_V (pc' := 33) (r := r0) (as := [vI a1]) (st := [.ref r0]) (lm_9_476) rfl rfl (Nat.le_of_ble_eq_true rfl) w1123 g0 sh_42 (by decide) rfl (by decide) (s_274 w1123 g0 ⟨by omega, by omega⟩ q1148 g1149 (by omega)) (fun R1150 T1151 H1152 p1153 => ?_))
      obtain ⟨e1154, w1156, f1157, z1158, e1155, b1159⟩ := p1153
      subst e1154
      subst e1155
      have f1160 := f1144.tr f1157 rfl
      show wp _ _ 272 33 [(2, vI z1125), (0, .ref r0), (1, vI a1)] [vI z1158, .ref r0] _ H1152 _
      refine wp_of e272 c272_33 (rw_bipush (pc' := 35) (z := 24) rfl (by decide) ?_)
      refine wp_of e272 c272_35 (rw_icmp_ne (p1 := 42) (p2 := 38) (by decide) rfl ⟨b1159.1, b1159.2⟩ ⟨by decide, by decide⟩ (fun c1161 => ?_) (fun c1161 => ?_))
      · refine wp_of e272 c272_42 (rw_iconst (pc' := 43) rfl ?_)
        refine wp_of e272 c272_43 (xc_V (pc' := 46) (r := r0) (as := [vI 1]) (st := []) (lm_9_58) rfl rfl (Nat.le_of_ble_eq_true rfl) w1156 g0 sh_42 (by decide) rfl (by decide) (s_209 w1156 g0 ⟨by decide, by decide⟩) (fun R1162 T1163 H1164 p1165 => ?_))
        obtain ⟨e1166, w1168, f1169, z1170, e1167, b1171⟩ := p1165
        subst e1166
        subst e1167
        have f1172 := f1160.tr f1169 rfl
        show wp _ _ 272 46 [(2, vI z1125), (0, .ref r0), (1, vI a1)] [vI z1170] _ H1164 _
        have k1173 : wKI H1164 r0 = wKI H1119 r0 := ((wKI_fr w1156 g0 f1169 rfl).trans (wKI_fr w1123 g0 f1157 rfl))
        have h1174 : KNN T H1164 r0 e d := (KNN_fr w1156 g0 f1169 rfl (KNN_fr w1123 g0 f1157 rfl a1135))
        exact wp_ireturn e272 c272_46 rfl ⟨rfl, w1168, f1172, z1170, rfl, ⟨b1171.1, b1171.2⟩, ⟨by omega, h1174⟩⟩
      · refine wp_of e272 c272_38 (rw_iconst (pc' := 39) rfl ?_)
        refine wp_of e272 c272_39 (rw_goto (p1 := 43) (by decide) ?_)
        refine wp_of e272 c272_43 (xc_V (pc' := 46) (r := r0) (as := [vI 0]) (st := []) (lm_9_58) rfl rfl (Nat.le_of_ble_eq_true rfl) w1156 g0 sh_42 (by decide) rfl (by decide) (s_209 w1156 g0 ⟨by decide, by decide⟩) (fun R1175 T1176 H1177 p1178 => ?_))
        obtain ⟨e1179, w1181, f1182, z1183, e1180, b1184⟩ := p1178
        subst e1179
        subst e1180
        have f1185 := f1160.tr f1182 rfl
        show wp _ _ 272 46 [(2, vI z1125), (0, .ref r0), (1, vI a1)] [vI z1183] _ H1177 _
        have k1186 : wKI H1177 r0 = wKI H1119 r0 := ((wKI_fr w1156 g0 f1182 rfl).trans (wKI_fr w1123 g0 f1157 rfl))
        have h1187 : KNN T H1177 r0 e d := (KNN_fr w1156 g0 f1182 rfl (KNN_fr w1123 g0 f1157 rfl a1135))
        exact wp_ireturn e272 c272_46 rfl ⟨rfl, w1181, f1185, z1183, rfl, ⟨b1184.1, b1184.2⟩, ⟨by omega, h1187⟩⟩
    · exfalso
      omega
  · have f1188 := f1101.tr f1124 rfl
    show wp _ _ 272 14 [(0, .ref r0), (1, vI a1)] [vI z1125] _ H1119 _
    refine wp_of e272 c272_14 (rw_istore_n (pc' := 15) (z := z1125) (L' := [(2, vI z1125), (0, .ref r0), (1, vI a1)]) rfl rfl rfl ?_)
    refine wp_of e272 c272_15 (rw_iload_n (pc' := 16) (z := z1125) rfl rfl ?_)
    refine wp_of e272 c272_16 (rw_if_le (p1 := 27) (p2 := 19) (by decide) rfl ⟨Int.le_trans (by decide) b1126.1, Int.le_trans b1126.2 (by decide)⟩ (fun c1189 => ?_) (fun c1189 => ?_))
    · exfalso
      omega
    · refine wp_of e272 c272_19 (rw_aload_n (pc' := 20) (v := .ref r0) rfl rfl rfl ?_)
      refine wp_of e272 c272_20 (rw_iload_n (pc' := 21) (z := z1125) rfl rfl ?_)
      refine wp_of e272 c272_21 (xc_V (pc' := 24) (r := r0) (as := [vI z1125]) (st := []) (lm_9_54) rfl rfl (Nat.le_of_ble_eq_true rfl) w1123 g0 sh_42 (by decide) rfl (by decide) (s_170 w1123 g0 ⟨Int.le_trans (by decide) b1126.1, Int.le_trans b1126.2 (by decide)⟩) (fun R1190 T1191 H1192 p1193 => ?_))
      obtain ⟨e1194, w1196, f1197, z1198, e1195, b1199⟩ := p1193
      subst e1194
      subst e1195
      have f1200 := f1188.tr f1197 rfl
      show wp _ _ 272 24 [(2, vI z1125), (0, .ref r0), (1, vI a1)] [vI z1198] _ H1192 _
      refine wp_of e272 c272_24 (rw_goto (p1 := 46) (by decide) ?_)
      have k1201 : wKI H1192 r0 = wKI H1119 r0 := (wKI_fr w1123 g0 f1197 rfl)
      have h1202 : KNN T H1192 r0 e d := (KNN_fr w1123 g0 f1197 rfl a1143)
      exact wp_ireturn e272 c272_46 rfl ⟨rfl, w1196, f1200, z1198, rfl, ⟨b1199.1, b1199.2⟩, ⟨by omega, h1202⟩⟩
/-! StrikeAwakeModel.bars(I)I  -/
abbrev uq_275 (r0 : Nat) (a1 : Int) (e : xD) (d : xD) (T : wq_T) (H : wq_H) : Option Value → wq_T → wq_H → Prop := fun r T' H' => T = T' ∧ WT T H' ∧ wfr [(42, 0), (42, 1), (42, 2), (42, 28), (42, 29), (51, 999), (52, 999)] T H H' ∧ ∃ z : Int, some (vI z) = r ∧ ((-2147483648) ≤ z ∧ z ≤ 2147483647) ∧ (((wKI H' r0 = 1) ∧ KNN T H' r0 e d))
set_option maxHeartbeats 4000000 in
theorem u_275 {kt : Nat → Option mc_E} {T : wq_T} {H : wq_H} {r0 : Nat} {a1 : Int} {e : xD} {d : xD} (hW : WT T H) (g0 : T.2.2.2 r0 = some 42) (i1 : (-2147483648) ≤ a1 ∧ a1 ≤ 2147483647) (p0 : wKI H r0 = 1) (p1 : XW d) (p2 : ∀ h : Nat, d 0 0 ≤ (h : Int) → h < 24 → e 13 h = 0) (p3 : XN d) (p4 : ∀ h : Nat, h < 24 → 0 ≤ e 13 h ∧ e 13 h ≤ 100) (hRB_r0 : RB T H r0 e d) (hKNN_r0 : KNN T H r0 e d) : wpc kt 8 275 [.ref r0, vI a1] T H (uq_275 r0 a1 e d T H) := by
  refine wp_enter e275 (Nat.le_of_ble_eq_true rfl) rfl ?_
  have f0 : wfr [(42, 0), (42, 1), (42, 2), (42, 28), (42, 29), (51, 999), (52, 999)] T H H := wfr.rf
  show wp _ _ 275 0 [(0, .ref r0), (1, vI a1)] [] _ H _
  have _b := RB_b hW hRB_r0
  have _nu := RB_n3 hRB_r0
  have _lm := RB_lm hRB_r0
  refine wp_of e275 c275_0 (rw_aload_n (pc' := 1) (v := .ref r0) rfl rfl rfl ?_)
  refine wp_of e275 c275_1 (rw_iconst (pc' := 2) rfl ?_)
  refine wp_of e275 c275_2 (xp_I (pc' := 5) lf_9_48 hW g0 sh_42 (by decide) (by decide) ty_42_0 rfl rfl (by decide) (by decide) ⟨by decide, by decide⟩ rfl (fun H1098 e1099 w1100 => ?_))
  have f1101 := f0.put' e1099 g0 rfl
  have k1102 : H1098 r0 0 = 0 := wq_u_s e1099
  refine wp_of e275 c275_5 (rw_aload_n (pc' := 6) (v := .ref r0) rfl rfl rfl ?_)
  refine wp_of e275 c275_6 (rw_aload_n (pc' := 7) (v := .ref r0) rfl rfl rfl ?_)
  refine wp_of e275 c275_7 (rw_iload_n (pc' := 8) (z := a1) rfl rfl ?_)
  refine wp_of e275 c275_8 (xc_V (pc' := 11) (r := r0) (as := [vI a1]) (st := [.ref r0]) (lm_9_473) rfl rfl (Nat.le_of_ble_eq_true rfl) w1100 g0 sh_42 (by decide) rfl (by decide) (s_273 w1100 g0 ⟨i1.1, i1.2⟩) (fun R1103 T1104 H1105 p1106 => ?_))
  obtain ⟨e1107, e1109, z1111, e1108, b1112, p1110⟩ := p1106
  subst e1107
  subst e1108
  subst e1109
  show wp _ _ 275 11 [(0, .ref r0), (1, vI a1)] [vI z1111, .ref r0] _ H1098 _
  have k1113 : H1098 r0 3 = H r0 3 := (wq_u_j e1099 rfl)
  have k1114 : wKI H1098 r0 = wKI H r0 := (wKI_fr hW g0 ((wfr.rf (l := [(42, 0)])).put' e1099 g0 rfl) rfl)
  have h1115 : RB T H1098 r0 e d := (RB_fr hW g0 ((wfr.rf (l := [(42, 0)])).put' e1099 g0 rfl) rfl hRB_r0)
  have h1116 : KNN T H1098 r0 e d := (KNN_fr hW g0 ((wfr.rf (l := [(42, 0)])).put' e1099 g0 rfl) rfl hKNN_r0)
  refine wp_of e275 c275_11 (xc_V (pc' := 14) (r := r0) (as := [vI z1111]) (st := []) (lm_9_433) rfl rfl (Nat.le_of_ble_eq_true rfl) w1100 g0 sh_42 (by decide) rfl (by decide) (u_241 (e := e) (d := d) w1100 g0 ⟨b1112.1, b1112.2⟩ (by omega) (by omega) (by assumption) (by assumption) (by assumption) (by assumption) h1115 h1116) (fun R1117 T1118 H1119 p1120 => ?_))
  obtain ⟨e1121, w1123, f1124, z1125, e1122, b1126, p1127⟩ := p1120
  subst e1121
  subst e1122
  rcases p1127 with ⟨a1128, a1129, a1130, a1131, a1132, a1133, a1134, a1135, a1136⟩ | ⟨a1137, a1138, a1139, a1140, a1141, a1142, a1143⟩
  · have f1144 := f1101.tr f1124 rfl
    show wp _ _ 275 14 [(0, .ref r0), (1, vI a1)] [vI z1125] _ H1119 _
    refine wp_of e275 c275_14 (rw_istore_n (pc' := 15) (z := z1125) (L' := [(2, vI z1125), (0, .ref r0), (1, vI a1)]) rfl rfl rfl ?_)
    refine wp_of e275 c275_15 (rw_iload_n (pc' := 16) (z := z1125) rfl rfl ?_)
    refine wp_of e275 c275_16 (rw_if_le (p1 := 25) (p2 := 19) (by decide) rfl ⟨Int.le_trans (by decide) b1126.1, Int.le_trans b1126.2 (by decide)⟩ (fun c1145 => ?_) (fun c1145 => ?_))
    · refine wp_of e275 c275_25 (rw_aload_n (pc' := 26) (v := .ref r0) rfl rfl rfl ?_)
      refine wp_of e275 c275_26 (rw_iload_n (pc' := 27) (z := a1) rfl rfl ?_)
      have k1146 : H1119 r0 3 = H1098 r0 3 := (f1124 r0 3 _ g0 rfl)
      obtain ⟨r1147, q1148, g1149⟩ := (w1123.opt g0 (t' := 54) (n := 33) (j := 3) (p := 0) (q := 0) rfl (by decide) rfl).resolve_left (by omega)
      refine wp_of e275 c275_27 (xc_V (pc' := 30) (r := r0) (as := [vI a1]) (st := []) (lm_9_476) rfl rfl (Nat.le_of_ble_eq_true rfl) w1123 g0 sh_42 (by decide) rfl (by decide) (s_274 w1123 g0 ⟨by omega, by omega⟩ q1148 g1149 (by omega)) (fun R1150 T1151 H1152 p1153 => ?_))
      obtain ⟨e1154, w1156, f1157, z1158, e1155, b1159⟩ := p1153
      subst e1154
      subst e1155
      have f1160 := f1144.tr f1157 rfl
      show wp _ _ 275 30 [(2, vI z1125), (0, .ref r0), (1, vI a1)] [vI z1158] _ H1152 _
      refine wp_of e275 c275_30 (rw_istore_n (pc' := 31) (z := z1158) (L' := [(3, vI z1158), (2, vI z1125), (0, .ref r0), (1, vI a1)]) rfl rfl rfl ?_)
      refine wp_of e275 c275_31 (rw_aload_n (pc' := 32) (v := .ref r0) rfl rfl rfl ?_)
      refine wp_of e275 c275_32 (rw_iload_n (pc' := 33) (z := z1158) rfl rfl ?_)
      refine wp_of e275 c275_33 (rw_bipush (pc' := 35) (z := 24) rfl (by decide) ?_)
      refine wp_of e275 c275_35 (rw_icmp_ne (p1 := 43) (p2 := 38) (by decide) rfl ⟨b1159.1, b1159.2⟩ ⟨by decide, by decide⟩ (fun c1161 => ?_) (fun c1161 => ?_))
      · refine wp_of e275 c275_43 (rw_iload_n (pc' := 44) (z := z1158) rfl rfl ?_)
        refine wp_of e275 c275_44 (xc_V (pc' := 47) (r := r0) (as := [vI z1158]) (st := []) (lm_9_58) rfl rfl (Nat.le_of_ble_eq_true rfl) w1156 g0 sh_42 (by decide) rfl (by decide) (s_209 w1156 g0 ⟨b1159.1, b1159.2⟩) (fun R1162 T1163 H1164 p1165 => ?_))
        obtain ⟨e1166, w1168, f1169, z1170, e1167, b1171⟩ := p1165
        subst e1166
        subst e1167
        have f1172 := f1160.tr f1169 rfl
        show wp _ _ 275 47 [(3, vI z1158), (2, vI z1125), (0, .ref r0), (1, vI a1)] [vI z1170] _ H1164 _
        have k1173 : wKI H1164 r0 = wKI H1119 r0 := ((wKI_fr w1156 g0 f1169 rfl).trans (wKI_fr w1123 g0 f1157 rfl))
        have h1174 : KNN T H1164 r0 e d := (KNN_fr w1156 g0 f1169 rfl (KNN_fr w1123 g0 f1157 rfl a1135))
        exact wp_ireturn e275 c275_47 rfl ⟨rfl, w1168, f1172, z1170, rfl, ⟨b1171.1, b1171.2⟩, ⟨by omega, h1174⟩⟩
      · refine wp_of e275 c275_38 (rw_bipush (pc' := 40) (z := -2) rfl (by decide) ?_)
        refine wp_of e275 c275_40 (rw_goto (p1 := 44) (by decide) ?_)
        refine wp_of e275 c275_44 (xc_V (pc' := 47) (r := r0) (as := [vI (-2)]) (st := []) (lm_9_58) rfl rfl (Nat.le_of_ble_eq_true rfl) w1156 g0 sh_42 (by decide) rfl (by decide) (s_209 w1156 g0 ⟨by decide, by decide⟩) (fun R1175 T1176 H1177 p1178 => ?_))
        obtain ⟨e1179, w1181, f1182, z1183, e1180, b1184⟩ := p1178
        subst e1179
        subst e1180
        have f1185 := f1160.tr f1182 rfl
        show wp _ _ 275 47 [(3, vI z1158), (2, vI z1125), (0, .ref r0), (1, vI a1)] [vI z1183] _ H1177 _
        have k1186 : wKI H1177 r0 = wKI H1119 r0 := ((wKI_fr w1156 g0 f1182 rfl).trans (wKI_fr w1123 g0 f1157 rfl))
        have h1187 : KNN T H1177 r0 e d := (KNN_fr w1156 g0 f1182 rfl (KNN_fr w1123 g0 f1157 rfl a1135))
        exact wp_ireturn e275 c275_47 rfl ⟨rfl, w1181, f1185, z1183, rfl, ⟨b1184.1, b1184.2⟩, ⟨by omega, h1187⟩⟩
    · exfalso
      omega
  · have f1188 := f1101.tr f1124 rfl
    show wp _ _ 275 14 [(0, .ref r0), (1, vI a1)] [vI z1125] _ H1119 _
    refine wp_of e275 c275_14 (rw_istore_n (pc' := 15) (z := z1125) (L' := [(2, vI z1125), (0, .ref r0), (1, vI a1)]) rfl rfl rfl ?_)
    refine wp_of e275 c275_15 (rw_iload_n (pc' := 16) (z := z1125) rfl rfl ?_)
    refine wp_of e275 c275_16 (rw_if_le (p1 := 25) (p2 := 19) (by decide) rfl ⟨Int.le_trans (by decide) b1126.1, Int.le_trans b1126.2 (by decide)⟩ (fun c1189 => ?_) (fun c1189 => ?_))
    · exfalso
      omega
    · refine wp_of e275 c275_19 (rw_aload_n (pc' := 20) (v := .ref r0) rfl rfl rfl ?_)
      refine wp_of e275 c275_20 (rw_iload_n (pc' := 21) (z := z1125) rfl rfl ?_)
      refine wp_of e275 c275_21 (xc_V (pc' := 24) (r := r0) (as := [vI z1125]) (st := []) (lm_9_54) rfl rfl (Nat.le_of_ble_eq_true rfl) w1123 g0 sh_42 (by decide) rfl (by decide) (s_170 w1123 g0 ⟨Int.le_trans (by decide) b1126.1, Int.le_trans b1126.2 (by decide)⟩) (fun R1190 T1191 H1192 p1193 => ?_))
      obtain ⟨e1194, w1196, f1197, z1198, e1195, b1199⟩ := p1193
      subst e1194
      subst e1195
      have f1200 := f1188.tr f1197 rfl
      show wp _ _ 275 24 [(2, vI z1125), (0, .ref r0), (1, vI a1)] [vI z1198] _ H1192 _
      have k1201 : wKI H1192 r0 = wKI H1119 r0 := (wKI_fr w1123 g0 f1197 rfl)
      have h1202 : KNN T H1192 r0 e d := (KNN_fr w1123 g0 f1197 rfl a1143)
      exact wp_ireturn e275 c275_24 rfl ⟨rfl, w1196, f1200, z1198, rfl, ⟨b1199.1, b1199.2⟩, ⟨by omega, h1202⟩⟩
/-! StrikeAwakeModel.proof()I  -/
abbrev uq_276 (r0 : Nat) (e : xD) (d : xD) (T : wq_T) (H : wq_H) : Option Value → wq_T → wq_H → Prop := fun r T' H' => T = T' ∧ WT T H' ∧ wfr [(42, 0), (42, 1), (42, 2), (42, 28), (42, 29), (51, 999), (52, 999)] T H H' ∧ ∃ z : Int, some (vI z) = r ∧ ((-2147483648) ≤ z ∧ z ≤ 2147483647) ∧ (((wKI H' r0 = 1) ∧ KNN T H' r0 e d))
set_option maxHeartbeats 4000000 in
theorem u_276 {kt : Nat → Option mc_E} {T : wq_T} {H : wq_H} {r0 : Nat} {e : xD} {d : xD} (hW : WT T H) (g0 : T.2.2.2 r0 = some 42) (p0 : wKI H r0 = 1) (p1 : XW d) (p2 : ∀ h : Nat, d 0 0 ≤ (h : Int) → h < 24 → e 13 h = 0) (p3 : XN d) (p4 : ∀ h : Nat, h < 24 → 0 ≤ e 13 h ∧ e 13 h ≤ 100) (hRB_r0 : RB T H r0 e d) (hKNN_r0 : KNN T H r0 e d) : wpc kt 8 276 [.ref r0] T H (uq_276 r0 e d T H) := by
  refine wp_enter e276 (Nat.le_of_ble_eq_true rfl) rfl ?_
  have f0 : wfr [(42, 0), (42, 1), (42, 2), (42, 28), (42, 29), (51, 999), (52, 999)] T H H := wfr.rf
  show wp _ _ 276 0 [(0, .ref r0)] [] _ H _
  have _b := RB_b hW hRB_r0
  have _nu := RB_n3 hRB_r0
  have _lm := RB_lm hRB_r0
  refine wp_of e276 c276_0 (rw_aload_n (pc' := 1) (v := .ref r0) rfl rfl rfl ?_)
  refine wp_of e276 c276_1 (rw_iconst (pc' := 2) rfl ?_)
  refine wp_of e276 c276_2 (xp_I (pc' := 5) lf_9_48 hW g0 sh_42 (by decide) (by decide) ty_42_0 rfl rfl (by decide) (by decide) ⟨by decide, by decide⟩ rfl (fun H1447 e1448 w1449 => ?_))
  have f1450 := f0.put' e1448 g0 rfl
  have k1451 : H1447 r0 0 = 0 := wq_u_s e1448
  refine wp_of e276 c276_5 (rw_aload_n (pc' := 6) (v := .ref r0) rfl rfl rfl ?_)
  refine wp_of e276 c276_6 (rw_aload_n (pc' := 7) (v := .ref r0) rfl rfl rfl ?_)
  have k1452 : H1447 r0 3 = H r0 3 := (wq_u_j e1448 rfl)
  refine wp_of e276 c276_7 (xg_O (pc' := 10) lf_9_337 w1449 g0 sh_42 (by decide) (by decide) ty_42_3 rfl rfl (fun q1454 => ?_) (fun r1453 q1454 g1455 => ?_))
  · refine wp_of e276 c276_10 (rw_ifnull_n (p1 := 17) (p2 := 13) (by decide) rfl ?_)
    refine wp_of e276 c276_17 (rw_iconst (pc' := 18) rfl ?_)
    have k1456 : wKI H1447 r0 = wKI H r0 := (wKI_fr hW g0 ((wfr.rf (l := [(42, 0)])).put' e1448 g0 rfl) rfl)
    have h1457 : RB T H1447 r0 e d := (RB_fr hW g0 ((wfr.rf (l := [(42, 0)])).put' e1448 g0 rfl) rfl hRB_r0)
    have h1458 : KNN T H1447 r0 e d := (KNN_fr hW g0 ((wfr.rf (l := [(42, 0)])).put' e1448 g0 rfl) rfl hKNN_r0)
    refine wp_of e276 c276_18 (xc_V (pc' := 21) (r := r0) (as := [vI 0]) (st := []) (lm_9_433) rfl rfl (Nat.le_of_ble_eq_true rfl) w1449 g0 sh_42 (by decide) rfl (by decide) (u_241 (e := e) (d := d) w1449 g0 ⟨by decide, by decide⟩ (by omega) (by omega) (by assumption) (by assumption) (by assumption) (by assumption) h1457 h1458) (fun R1459 T1460 H1461 p1462 => ?_))
    obtain ⟨e1463, w1465, f1466, z1467, e1464, b1468, p1469⟩ := p1462
    subst e1463
    subst e1464
    rcases p1469 with ⟨a1470, a1471, a1472, a1473, a1474, a1475, a1476, a1477, a1478⟩ | ⟨a1479, a1480, a1481, a1482, a1483, a1484, a1485⟩
    · have f1486 := f1450.tr f1466 rfl
      show wp _ _ 276 21 [(0, .ref r0)] [vI z1467] _ H1461 _
      refine wp_of e276 c276_21 (rw_istore_n (pc' := 22) (z := z1467) (L' := [(1, vI z1467), (0, .ref r0)]) rfl rfl rfl ?_)
      refine wp_of e276 c276_22 (rw_iload_n (pc' := 23) (z := z1467) rfl rfl ?_)
      refine wp_of e276 c276_23 (rw_if_ne (p1 := 39) (p2 := 26) (by decide) rfl ⟨Int.le_trans (by decide) b1468.1, Int.le_trans b1468.2 (by decide)⟩ (fun c1487 => ?_) (fun c1487 => ?_))
      · exfalso
        omega
      · refine wp_of e276 c276_26 (rw_aload_n (pc' := 27) (v := .ref r0) rfl rfl rfl ?_)
        have k1488 : H1461 r0 3 = H1447 r0 3 := (f1466 r0 3 _ g0 rfl)
        have q1489 : H1461 r0 3 = -1 := k1488.trans q1454
        obtain ⟨r1490, q1491, g1492⟩ := (w1465.opt g0 (t' := 54) (n := 33) (j := 3) (p := 0) (q := 0) rfl (by decide) rfl).resolve_left (by omega)
        refine wp_of e276 c276_27 (xc_V (pc' := 30) (r := r0) (as := []) (st := []) (lm_9_376) rfl rfl (Nat.le_of_ble_eq_true rfl) w1465 g0 sh_42 (by decide) rfl (by decide) (s_220 w1465 g0 q1491 g1492) (fun R1493 T1494 H1495 p1496 => ?_))
        obtain ⟨e1497, e1499, z1501, e1498, b1502, p1500⟩ := p1496
        subst e1497
        subst e1498
        subst e1499
        show wp _ _ 276 30 [(1, vI z1467), (0, .ref r0)] [vL z1501] _ H1461 _
        refine wp_of e276 c276_30 (rw_ldc2 (pc' := 33) (z := 5000) rfl rfl rfl ?_)
        refine wp_of e276 c276_33 (rw_lcmp (pc' := 34) rfl ⟨Int.le_trans (by decide) b1502.1, Int.le_trans b1502.2 (by decide)⟩ ⟨by decide, by decide⟩ ?_)
        have b1503 := wq_cmp_b z1501 5000
        refine wp_of e276 c276_34 (rw_if_le (p1 := 39) (p2 := 37) (by decide) rfl ⟨by omega, by omega⟩ (fun c1504 => ?_) (fun c1504 => ?_))
        · refine wp_of e276 c276_39 (rw_iload_n (pc' := 40) (z := z1467) rfl rfl ?_)
          refine wp_of e276 c276_40 (rw_if_ne (p1 := 52) (p2 := 43) (by decide) rfl ⟨Int.le_trans (by decide) b1468.1, Int.le_trans b1468.2 (by decide)⟩ (fun c1505 => ?_) (fun c1505 => ?_))
          · exfalso
            omega
          · refine wp_of e276 c276_43 (rw_aload_n (pc' := 44) (v := .ref r0) rfl rfl rfl ?_)
            refine wp_of e276 c276_44 (xg_I (pc' := 47) lf_9_422 w1465 g0 sh_42 (by decide) (by decide) ty_42_29 rfl rfl (fun b1506 b1507 => ?_))
            refine wp_of e276 c276_47 (rw_if_le (p1 := 52) (p2 := 50) (by decide) rfl ⟨Int.le_trans (by decide) b1506, Int.le_trans b1507 (by decide)⟩ (fun c1508 => ?_) (fun c1508 => ?_))
            · refine wp_of e276 c276_52 (rw_iload_n (pc' := 53) (z := z1467) rfl rfl ?_)
              refine wp_of e276 c276_53 (rw_if_le (p1 := 62) (p2 := 56) (by decide) rfl ⟨Int.le_trans (by decide) b1468.1, Int.le_trans b1468.2 (by decide)⟩ (fun c1509 => ?_) (fun c1509 => ?_))
              · refine wp_of e276 c276_62 (rw_aload_n (pc' := 63) (v := .ref r0) rfl rfl rfl ?_)
                refine wp_of e276 c276_63 (xc_V (pc' := 66) (r := r0) (as := []) (st := []) (lm_9_357) rfl rfl (Nat.le_of_ble_eq_true rfl) w1465 g0 sh_42 (by decide) rfl (by decide) (s_207 w1465 g0) (fun R1510 T1511 H1512 p1513 => ?_))
                obtain ⟨e1514, e1516, z1517, e1515, b1518⟩ := p1513
                subst e1514
                subst e1515
                subst e1516
                show wp _ _ 276 66 [(1, vI z1467), (0, .ref r0)] [vI z1517] _ H1461 _
                refine wp_of e276 c276_66 (rw_istore_n (pc' := 67) (z := z1517) (L' := [(2, vI z1517), (1, vI z1467), (0, .ref r0)]) rfl rfl rfl ?_)
                refine wp_of e276 c276_67 (rw_iconst (pc' := 68) rfl ?_)
                refine wp_of e276 c276_68 (rw_istore_n (pc' := 69) (z := 0) (L' := [(3, vI 0), (2, vI z1517), (1, vI z1467), (0, .ref r0)]) rfl rfl rfl ?_)
                have lp1599 : ∀ (n1600 : Nat) (v1602 : Int) (H1603 : wq_H), WT T H1603 → wfr [(51, 999)] T H1461 H1603 → (0 ≤ v1602 ∧ v1602 ≤ 4) → (4 - v1602).toNat = n1600 → wp kt 7 276 69 [(3, vI v1602), (2, vI z1517), (0, .ref r0)] [] T H1603 (uq_276 r0 e d T H) := by
                  intro n1600
                  induction n1600 using Nat.strongRecOn with
                  | _ n1600 ih1601 =>
                    intro v1602 H1603 w1604 f1605 b1606 m1607
                    have f1608 := f1486.tr f1605 rfl
                    refine wp_of e276 c276_69 (rw_iload_n (pc' := 70) (z := v1602) rfl rfl ?_)
                    refine wp_of e276 c276_70 (rw_iconst (pc' := 71) rfl ?_)
                    refine wp_of e276 c276_71 (rw_icmp_ge (p1 := 101) (p2 := 74) (by decide) rfl ⟨Int.le_trans (by decide) b1606.1, Int.le_trans b1606.2 (by decide)⟩ ⟨by decide, by decide⟩ (fun c1609 => ?_) (fun c1609 => ?_))
                    · refine wp_of e276 c276_101 (rw_aload_n (pc' := 102) (v := .ref r0) rfl rfl rfl ?_)
                      refine wp_of e276 c276_102 (rw_bipush (pc' := 104) (z := -2) rfl (by decide) ?_)
                      refine wp_of e276 c276_104 (xc_V (pc' := 107) (r := r0) (as := [vI (-2)]) (st := []) (lm_9_58) rfl rfl (Nat.le_of_ble_eq_true rfl) w1604 g0 sh_42 (by decide) rfl (by decide) (s_209 w1604 g0 ⟨by decide, by decide⟩) (fun R1610 T1611 H1612 p1613 => ?_))
                      obtain ⟨e1614, w1616, f1617, z1618, e1615, b1619⟩ := p1613
                      subst e1614
                      subst e1615
                      have f1620 := f1608.tr f1617 rfl
                      show wp _ _ 276 107 [(3, vI v1602), (2, vI z1517), (0, .ref r0)] [vI z1618] _ H1612 _
                      have k1621 : wKI H1612 r0 = wKI H1461 r0 := ((wKI_fr w1604 g0 f1617 rfl).trans (wKI_fr w1465 g0 f1605 rfl))
                      have h1622 : KNN T H1612 r0 e d := (KNN_fr w1604 g0 f1617 rfl (KNN_fr w1465 g0 f1605 rfl a1477))
                      exact wp_ireturn e276 c276_107 rfl ⟨rfl, w1616, f1620, z1618, rfl, ⟨b1619.1, b1619.2⟩, ⟨by omega, h1622⟩⟩
                    · refine wp_of e276 c276_74 (rw_aload_n (pc' := 75) (v := .ref r0) rfl rfl rfl ?_)
                      refine wp_of e276 c276_75 (rw_iload_n (pc' := 76) (z := z1517) rfl rfl ?_)
                      have k1623 : wLM H1603 r0 = wLM H r0 := ((wLM_fr w1465 g0 f1605 rfl).trans ((wLM_fr w1449 g0 f1466 rfl).trans (wLM_fr hW g0 ((wfr.rf (l := [(42, 0)])).put' e1448 g0 rfl) rfl)))
                      refine wp_of e276 c276_76 (rw_iload_n (pc' := 77) (z := v1602) rfl rfl ?_)
                      have k1624 : H1603 r0 3 = H1461 r0 3 := (f1605 r0 3 _ g0 rfl)
                      have q1625 : H1603 r0 3 = (r1490 : Int) := k1624.trans q1491
                      refine wp_of e276 c276_77 (xc_V (pc' := 80) (r := r0) (as := [vI z1517, vI v1602]) (st := []) (lm_9_481) rfl rfl (Nat.le_of_ble_eq_true rfl) w1604 g0 sh_42 (by decide) rfl (by decide) (s_277 w1604 g0 ⟨Int.le_trans (by decide) b1518.1, Int.le_trans b1518.2 (by decide)⟩ ⟨b1606.1, by omega⟩ q1625 g1492 (by omega)) (fun R1626 T1627 H1628 p1629 => ?_))
                      obtain ⟨e1630, w1632, f1633, z1634, e1631, b1635⟩ := p1629
                      subst e1630
                      subst e1631
                      have f1636 := f1608.tr f1633 rfl
                      have f1637 := f1605.tr f1633 rfl
                      show wp _ _ 276 80 [(3, vI v1602), (2, vI z1517), (0, .ref r0)] [vI z1634] _ H1628 _
                      refine wp_of e276 c276_80 (rw_istore (pc' := 82) (z := z1634) (L' := [(4, vI z1634), (3, vI v1602), (2, vI z1517), (0, .ref r0)]) rfl rfl rfl ?_)
                      refine wp_of e276 c276_82 (rw_iload (pc' := 84) (z := z1634) rfl rfl ?_)
                      refine wp_of e276 c276_84 (rw_iconst (pc' := 85) rfl ?_)
                      refine wp_of e276 c276_85 (rw_icmp_eq (p1 := 95) (p2 := 88) (by decide) rfl ⟨b1635.1, b1635.2⟩ ⟨by decide, by decide⟩ (fun c1638 => ?_) (fun c1638 => ?_))
                      · refine wp_of e276 c276_95 (rw_iinc (pc' := 98) (z := v1602) (L' := [(3, vI (v1602 + 1)), (4, vI z1634), (2, vI z1517), (0, .ref r0)]) rfl rfl rfl rfl ?_)
                        refine wp_of e276 c276_98 (rw_goto (p1 := 69) (by decide) ?_)
                        exact wp_lc (ks := [3, 4, 2, 0]) (wl_c rfl (wl_c rfl (wl_c rfl wl_n))) rfl (by decide) (ih1601 _ (by omega) (v1602 + 1) H1628 w1632 f1637 ⟨by omega, by omega⟩ rfl)
                      · refine wp_of e276 c276_88 (rw_aload_n (pc' := 89) (v := .ref r0) rfl rfl rfl ?_)
                        refine wp_of e276 c276_89 (rw_iload (pc' := 91) (z := z1634) rfl rfl ?_)
                        refine wp_of e276 c276_91 (xc_V (pc' := 94) (r := r0) (as := [vI z1634]) (st := []) (lm_9_58) rfl rfl (Nat.le_of_ble_eq_true rfl) w1632 g0 sh_42 (by decide) rfl (by decide) (s_209 w1632 g0 ⟨b1635.1, b1635.2⟩) (fun R1639 T1640 H1641 p1642 => ?_))
                        obtain ⟨e1643, w1645, f1646, z1647, e1644, b1648⟩ := p1642
                        subst e1643
                        subst e1644
                        have f1649 := f1636.tr f1646 rfl
                        show wp _ _ 276 94 [(4, vI z1634), (3, vI v1602), (2, vI z1517), (0, .ref r0)] [vI z1647] _ H1641 _
                        have k1650 : wKI H1641 r0 = wKI H1461 r0 := ((wKI_fr w1632 g0 f1646 rfl).trans ((wKI_fr w1604 g0 f1633 rfl).trans (wKI_fr w1465 g0 f1605 rfl)))
                        have h1651 : KNN T H1641 r0 e d := (KNN_fr w1632 g0 f1646 rfl (KNN_fr w1604 g0 f1633 rfl (KNN_fr w1465 g0 f1605 rfl a1477)))
                        exact wp_ireturn e276 c276_94 rfl ⟨rfl, w1645, f1649, z1647, rfl, ⟨b1648.1, b1648.2⟩, ⟨by omega, h1651⟩⟩
                exact wp_lc (ks := [3, 2, 1, 0]) (wl_c rfl (wl_c rfl (wl_c rfl wl_n))) rfl (by decide) (lp1599 _ 0 H1461 w1465 wfr.rf ⟨by decide, by decide⟩ rfl)
              · exfalso
                omega
            · refine wp_of e276 c276_50 (rw_iconst (pc' := 51) rfl ?_)
              refine wp_of e276 c276_51 (rw_istore_n (pc' := 52) (z := 5) (L' := [(1, vI 5), (0, .ref r0)]) rfl rfl rfl ?_)
              refine wp_of e276 c276_52 (rw_iload_n (pc' := 53) (z := 5) rfl rfl ?_)
              refine wp_of e276 c276_53 (rw_if_le (p1 := 62) (p2 := 56) (by decide) rfl ⟨by decide, by decide⟩ (fun c1652 => ?_) (fun c1652 => ?_))
              · exfalso
                omega
              · refine wp_of e276 c276_56 (rw_aload_n (pc' := 57) (v := .ref r0) rfl rfl rfl ?_)
                refine wp_of e276 c276_57 (rw_iload_n (pc' := 58) (z := 5) rfl rfl ?_)
                refine wp_of e276 c276_58 (xc_V (pc' := 61) (r := r0) (as := [vI 5]) (st := []) (lm_9_54) rfl rfl (Nat.le_of_ble_eq_true rfl) w1465 g0 sh_42 (by decide) rfl (by decide) (s_170 w1465 g0 ⟨by decide, by decide⟩) (fun R1653 T1654 H1655 p1656 => ?_))
                obtain ⟨e1657, w1659, f1660, z1661, e1658, b1662⟩ := p1656
                subst e1657
                subst e1658
                have f1663 := f1486.tr f1660 rfl
                show wp _ _ 276 61 [(1, vI 5), (0, .ref r0)] [vI z1661] _ H1655 _
                have k1664 : wKI H1655 r0 = wKI H1461 r0 := (wKI_fr w1465 g0 f1660 rfl)
                have h1665 : KNN T H1655 r0 e d := (KNN_fr w1465 g0 f1660 rfl a1477)
                exact wp_ireturn e276 c276_61 rfl ⟨rfl, w1659, f1663, z1661, rfl, ⟨b1662.1, b1662.2⟩, ⟨by omega, h1665⟩⟩
        · refine wp_of e276 c276_37 (rw_iconst (pc' := 38) rfl ?_)
          refine wp_of e276 c276_38 (rw_istore_n (pc' := 39) (z := 3) (L' := [(1, vI 3), (0, .ref r0)]) rfl rfl rfl ?_)
          refine wp_of e276 c276_39 (rw_iload_n (pc' := 40) (z := 3) rfl rfl ?_)
          refine wp_of e276 c276_40 (rw_if_ne (p1 := 52) (p2 := 43) (by decide) rfl ⟨by decide, by decide⟩ (fun c1666 => ?_) (fun c1666 => ?_))
          · refine wp_of e276 c276_52 (rw_iload_n (pc' := 53) (z := 3) rfl rfl ?_)
            refine wp_of e276 c276_53 (rw_if_le (p1 := 62) (p2 := 56) (by decide) rfl ⟨by decide, by decide⟩ (fun c1667 => ?_) (fun c1667 => ?_))
            · exfalso
              omega
            · refine wp_of e276 c276_56 (rw_aload_n (pc' := 57) (v := .ref r0) rfl rfl rfl ?_)
              refine wp_of e276 c276_57 (rw_iload_n (pc' := 58) (z := 3) rfl rfl ?_)
              refine wp_of e276 c276_58 (xc_V (pc' := 61) (r := r0) (as := [vI 3]) (st := []) (lm_9_54) rfl rfl (Nat.le_of_ble_eq_true rfl) w1465 g0 sh_42 (by decide) rfl (by decide) (s_170 w1465 g0 ⟨by decide, by decide⟩) (fun R1668 T1669 H1670 p1671 => ?_))
              obtain ⟨e1672, w1674, f1675, z1676, e1673, b1677⟩ := p1671
              subst e1672
              subst e1673
              have f1678 := f1486.tr f1675 rfl
              show wp _ _ 276 61 [(1, vI 3), (0, .ref r0)] [vI z1676] _ H1670 _
              have k1679 : wKI H1670 r0 = wKI H1461 r0 := (wKI_fr w1465 g0 f1675 rfl)
              have h1680 : KNN T H1670 r0 e d := (KNN_fr w1465 g0 f1675 rfl a1477)
              exact wp_ireturn e276 c276_61 rfl ⟨rfl, w1674, f1678, z1676, rfl, ⟨b1677.1, b1677.2⟩, ⟨by omega, h1680⟩⟩
          · exfalso
            omega
    · have f1681 := f1450.tr f1466 rfl
      show wp _ _ 276 21 [(0, .ref r0)] [vI z1467] _ H1461 _
      refine wp_of e276 c276_21 (rw_istore_n (pc' := 22) (z := z1467) (L' := [(1, vI z1467), (0, .ref r0)]) rfl rfl rfl ?_)
      refine wp_of e276 c276_22 (rw_iload_n (pc' := 23) (z := z1467) rfl rfl ?_)
      refine wp_of e276 c276_23 (rw_if_ne (p1 := 39) (p2 := 26) (by decide) rfl ⟨Int.le_trans (by decide) b1468.1, Int.le_trans b1468.2 (by decide)⟩ (fun c1682 => ?_) (fun c1682 => ?_))
      · refine wp_of e276 c276_39 (rw_iload_n (pc' := 40) (z := z1467) rfl rfl ?_)
        refine wp_of e276 c276_40 (rw_if_ne (p1 := 52) (p2 := 43) (by decide) rfl ⟨Int.le_trans (by decide) b1468.1, Int.le_trans b1468.2 (by decide)⟩ (fun c1683 => ?_) (fun c1683 => ?_))
        · refine wp_of e276 c276_52 (rw_iload_n (pc' := 53) (z := z1467) rfl rfl ?_)
          refine wp_of e276 c276_53 (rw_if_le (p1 := 62) (p2 := 56) (by decide) rfl ⟨Int.le_trans (by decide) b1468.1, Int.le_trans b1468.2 (by decide)⟩ (fun c1684 => ?_) (fun c1684 => ?_))
          · exfalso
            omega
          · refine wp_of e276 c276_56 (rw_aload_n (pc' := 57) (v := .ref r0) rfl rfl rfl ?_)
            refine wp_of e276 c276_57 (rw_iload_n (pc' := 58) (z := z1467) rfl rfl ?_)
            refine wp_of e276 c276_58 (xc_V (pc' := 61) (r := r0) (as := [vI z1467]) (st := []) (lm_9_54) rfl rfl (Nat.le_of_ble_eq_true rfl) w1465 g0 sh_42 (by decide) rfl (by decide) (s_170 w1465 g0 ⟨Int.le_trans (by decide) b1468.1, Int.le_trans b1468.2 (by decide)⟩) (fun R1685 T1686 H1687 p1688 => ?_))
            obtain ⟨e1689, w1691, f1692, z1693, e1690, b1694⟩ := p1688
            subst e1689
            subst e1690
            have f1695 := f1681.tr f1692 rfl
            show wp _ _ 276 61 [(1, vI z1467), (0, .ref r0)] [vI z1693] _ H1687 _
            have k1696 : wKI H1687 r0 = wKI H1461 r0 := (wKI_fr w1465 g0 f1692 rfl)
            have h1697 : KNN T H1687 r0 e d := (KNN_fr w1465 g0 f1692 rfl a1485)
            exact wp_ireturn e276 c276_61 rfl ⟨rfl, w1691, f1695, z1693, rfl, ⟨b1694.1, b1694.2⟩, ⟨by omega, h1697⟩⟩
        · exfalso
          omega
      · exfalso
        omega
  · refine wp_of e276 c276_10 (rw_ifnull_r (p1 := 17) (p2 := 13) (by decide) rfl ?_)
    refine wp_of e276 c276_13 (rw_iconst (pc' := 14) rfl ?_)
    refine wp_of e276 c276_14 (rw_goto (p1 := 18) (by decide) ?_)
    have k1698 : wKI H1447 r0 = wKI H r0 := (wKI_fr hW g0 ((wfr.rf (l := [(42, 0)])).put' e1448 g0 rfl) rfl)
    have h1699 : RB T H1447 r0 e d := (RB_fr hW g0 ((wfr.rf (l := [(42, 0)])).put' e1448 g0 rfl) rfl hRB_r0)
    have h1700 : KNN T H1447 r0 e d := (KNN_fr hW g0 ((wfr.rf (l := [(42, 0)])).put' e1448 g0 rfl) rfl hKNN_r0)
    refine wp_of e276 c276_18 (xc_V (pc' := 21) (r := r0) (as := [vI 1]) (st := []) (lm_9_433) rfl rfl (Nat.le_of_ble_eq_true rfl) w1449 g0 sh_42 (by decide) rfl (by decide) (u_241 (e := e) (d := d) w1449 g0 ⟨by decide, by decide⟩ (by omega) (by omega) (by assumption) (by assumption) (by assumption) (by assumption) h1699 h1700) (fun R1701 T1702 H1703 p1704 => ?_))
    obtain ⟨e1705, w1707, f1708, z1709, e1706, b1710, p1711⟩ := p1704
    subst e1705
    subst e1706
    rcases p1711 with ⟨a1712, a1713, a1714, a1715, a1716, a1717, a1718, a1719, a1720⟩ | ⟨a1721, a1722, a1723, a1724, a1725, a1726, a1727⟩
    · have f1728 := f1450.tr f1708 rfl
      show wp _ _ 276 21 [(0, .ref r0)] [vI z1709] _ H1703 _
      refine wp_of e276 c276_21 (rw_istore_n (pc' := 22) (z := z1709) (L' := [(1, vI z1709), (0, .ref r0)]) rfl rfl rfl ?_)
      refine wp_of e276 c276_22 (rw_iload_n (pc' := 23) (z := z1709) rfl rfl ?_)
      refine wp_of e276 c276_23 (rw_if_ne (p1 := 39) (p2 := 26) (by decide) rfl ⟨Int.le_trans (by decide) b1710.1, Int.le_trans b1710.2 (by decide)⟩ (fun c1729 => ?_) (fun c1729 => ?_))
      · exfalso
        omega
      · refine wp_of e276 c276_26 (rw_aload_n (pc' := 27) (v := .ref r0) rfl rfl rfl ?_)
        have k1730 : H1703 r0 3 = H1447 r0 3 := (f1708 r0 3 _ g0 rfl)
        have q1731 : H1703 r0 3 = (r1453 : Int) := k1730.trans q1454
        refine wp_of e276 c276_27 (xc_V (pc' := 30) (r := r0) (as := []) (st := []) (lm_9_376) rfl rfl (Nat.le_of_ble_eq_true rfl) w1707 g0 sh_42 (by decide) rfl (by decide) (s_220 w1707 g0 q1731 g1455) (fun R1732 T1733 H1734 p1735 => ?_))
        obtain ⟨e1736, e1738, z1740, e1737, b1741, p1739⟩ := p1735
        subst e1736
        subst e1737
        subst e1738
        show wp _ _ 276 30 [(1, vI z1709), (0, .ref r0)] [vL z1740] _ H1703 _
        refine wp_of e276 c276_30 (rw_ldc2 (pc' := 33) (z := 5000) rfl rfl rfl ?_)
        refine wp_of e276 c276_33 (rw_lcmp (pc' := 34) rfl ⟨Int.le_trans (by decide) b1741.1, Int.le_trans b1741.2 (by decide)⟩ ⟨by decide, by decide⟩ ?_)
        have b1742 := wq_cmp_b z1740 5000
        refine wp_of e276 c276_34 (rw_if_le (p1 := 39) (p2 := 37) (by decide) rfl ⟨by omega, by omega⟩ (fun c1743 => ?_) (fun c1743 => ?_))
        · refine wp_of e276 c276_39 (rw_iload_n (pc' := 40) (z := z1709) rfl rfl ?_)
          refine wp_of e276 c276_40 (rw_if_ne (p1 := 52) (p2 := 43) (by decide) rfl ⟨Int.le_trans (by decide) b1710.1, Int.le_trans b1710.2 (by decide)⟩ (fun c1744 => ?_) (fun c1744 => ?_))
          · exfalso
            omega
          · refine wp_of e276 c276_43 (rw_aload_n (pc' := 44) (v := .ref r0) rfl rfl rfl ?_)
            refine wp_of e276 c276_44 (xg_I (pc' := 47) lf_9_422 w1707 g0 sh_42 (by decide) (by decide) ty_42_29 rfl rfl (fun b1745 b1746 => ?_))
            refine wp_of e276 c276_47 (rw_if_le (p1 := 52) (p2 := 50) (by decide) rfl ⟨Int.le_trans (by decide) b1745, Int.le_trans b1746 (by decide)⟩ (fun c1747 => ?_) (fun c1747 => ?_))
            · refine wp_of e276 c276_52 (rw_iload_n (pc' := 53) (z := z1709) rfl rfl ?_)
              refine wp_of e276 c276_53 (rw_if_le (p1 := 62) (p2 := 56) (by decide) rfl ⟨Int.le_trans (by decide) b1710.1, Int.le_trans b1710.2 (by decide)⟩ (fun c1748 => ?_) (fun c1748 => ?_))
              · refine wp_of e276 c276_62 (rw_aload_n (pc' := 63) (v := .ref r0) rfl rfl rfl ?_)
                refine wp_of e276 c276_63 (xc_V (pc' := 66) (r := r0) (as := []) (st := []) (lm_9_357) rfl rfl (Nat.le_of_ble_eq_true rfl) w1707 g0 sh_42 (by decide) rfl (by decide) (s_207 w1707 g0) (fun R1749 T1750 H1751 p1752 => ?_))
                obtain ⟨e1753, e1755, z1756, e1754, b1757⟩ := p1752
                subst e1753
                subst e1754
                subst e1755
                show wp _ _ 276 66 [(1, vI z1709), (0, .ref r0)] [vI z1756] _ H1703 _
                refine wp_of e276 c276_66 (rw_istore_n (pc' := 67) (z := z1756) (L' := [(2, vI z1756), (1, vI z1709), (0, .ref r0)]) rfl rfl rfl ?_)
                refine wp_of e276 c276_67 (rw_iconst (pc' := 68) rfl ?_)
                refine wp_of e276 c276_68 (rw_istore_n (pc' := 69) (z := 0) (L' := [(3, vI 0), (2, vI z1756), (1, vI z1709), (0, .ref r0)]) rfl rfl rfl ?_)
                have lp1838 : ∀ (n1839 : Nat) (v1841 : Int) (H1842 : wq_H), WT T H1842 → wfr [(51, 999)] T H1703 H1842 → (0 ≤ v1841 ∧ v1841 ≤ 4) → (4 - v1841).toNat = n1839 → wp kt 7 276 69 [(3, vI v1841), (2, vI z1756), (0, .ref r0)] [] T H1842 (uq_276 r0 e d T H) := by
                  intro n1839
                  induction n1839 using Nat.strongRecOn with
                  | _ n1839 ih1840 =>
                    intro v1841 H1842 w1843 f1844 b1845 m1846
                    have f1847 := f1728.tr f1844 rfl
                    refine wp_of e276 c276_69 (rw_iload_n (pc' := 70) (z := v1841) rfl rfl ?_)
                    refine wp_of e276 c276_70 (rw_iconst (pc' := 71) rfl ?_)
                    refine wp_of e276 c276_71 (rw_icmp_ge (p1 := 101) (p2 := 74) (by decide) rfl ⟨Int.le_trans (by decide) b1845.1, Int.le_trans b1845.2 (by decide)⟩ ⟨by decide, by decide⟩ (fun c1848 => ?_) (fun c1848 => ?_))
                    · refine wp_of e276 c276_101 (rw_aload_n (pc' := 102) (v := .ref r0) rfl rfl rfl ?_)
                      refine wp_of e276 c276_102 (rw_bipush (pc' := 104) (z := -2) rfl (by decide) ?_)
                      refine wp_of e276 c276_104 (xc_V (pc' := 107) (r := r0) (as := [vI (-2)]) (st := []) (lm_9_58) rfl rfl (Nat.le_of_ble_eq_true rfl) w1843 g0 sh_42 (by decide) rfl (by decide) (s_209 w1843 g0 ⟨by decide, by decide⟩) (fun R1849 T1850 H1851 p1852 => ?_))
                      obtain ⟨e1853, w1855, f1856, z1857, e1854, b1858⟩ := p1852
                      subst e1853
                      subst e1854
                      have f1859 := f1847.tr f1856 rfl
                      show wp _ _ 276 107 [(3, vI v1841), (2, vI z1756), (0, .ref r0)] [vI z1857] _ H1851 _
                      have k1860 : wKI H1851 r0 = wKI H1703 r0 := ((wKI_fr w1843 g0 f1856 rfl).trans (wKI_fr w1707 g0 f1844 rfl))
                      have h1861 : KNN T H1851 r0 e d := (KNN_fr w1843 g0 f1856 rfl (KNN_fr w1707 g0 f1844 rfl a1719))
                      exact wp_ireturn e276 c276_107 rfl ⟨rfl, w1855, f1859, z1857, rfl, ⟨b1858.1, b1858.2⟩, ⟨by omega, h1861⟩⟩
                    · refine wp_of e276 c276_74 (rw_aload_n (pc' := 75) (v := .ref r0) rfl rfl rfl ?_)
                      refine wp_of e276 c276_75 (rw_iload_n (pc' := 76) (z := z1756) rfl rfl ?_)
                      have k1862 : wLM H1842 r0 = wLM H r0 := ((wLM_fr w1707 g0 f1844 rfl).trans ((wLM_fr w1449 g0 f1708 rfl).trans (wLM_fr hW g0 ((wfr.rf (l := [(42, 0)])).put' e1448 g0 rfl) rfl)))
                      refine wp_of e276 c276_76 (rw_iload_n (pc' := 77) (z := v1841) rfl rfl ?_)
                      have k1863 : H1842 r0 3 = H1703 r0 3 := (f1844 r0 3 _ g0 rfl)
                      have q1864 : H1842 r0 3 = (r1453 : Int) := k1863.trans q1731
                      refine wp_of e276 c276_77 (xc_V (pc' := 80) (r := r0) (as := [vI z1756, vI v1841]) (st := []) (lm_9_481) rfl rfl (Nat.le_of_ble_eq_true rfl) w1843 g0 sh_42 (by decide) rfl (by decide) (s_277 w1843 g0 ⟨Int.le_trans (by decide) b1757.1, Int.le_trans b1757.2 (by decide)⟩ ⟨b1845.1, by omega⟩ q1864 g1455 (by omega)) (fun R1865 T1866 H1867 p1868 => ?_))
                      obtain ⟨e1869, w1871, f1872, z1873, e1870, b1874⟩ := p1868
                      subst e1869
                      subst e1870
                      have f1875 := f1847.tr f1872 rfl
                      have f1876 := f1844.tr f1872 rfl
                      show wp _ _ 276 80 [(3, vI v1841), (2, vI z1756), (0, .ref r0)] [vI z1873] _ H1867 _
                      refine wp_of e276 c276_80 (rw_istore (pc' := 82) (z := z1873) (L' := [(4, vI z1873), (3, vI v1841), (2, vI z1756), (0, .ref r0)]) rfl rfl rfl ?_)
                      refine wp_of e276 c276_82 (rw_iload (pc' := 84) (z := z1873) rfl rfl ?_)
                      refine wp_of e276 c276_84 (rw_iconst (pc' := 85) rfl ?_)
                      refine wp_of e276 c276_85 (rw_icmp_eq (p1 := 95) (p2 := 88) (by decide) rfl ⟨b1874.1, b1874.2⟩ ⟨by decide, by decide⟩ (fun c1877 => ?_) (fun c1877 => ?_))
                      · refine wp_of e276 c276_95 (rw_iinc (pc' := 98) (z := v1841) (L' := [(3, vI (v1841 + 1)), (4, vI z1873), (2, vI z1756), (0, .ref r0)]) rfl rfl rfl rfl ?_)
                        refine wp_of e276 c276_98 (rw_goto (p1 := 69) (by decide) ?_)
                        exact wp_lc (ks := [3, 4, 2, 0]) (wl_c rfl (wl_c rfl (wl_c rfl wl_n))) rfl (by decide) (ih1840 _ (by omega) (v1841 + 1) H1867 w1871 f1876 ⟨by omega, by omega⟩ rfl)
                      · refine wp_of e276 c276_88 (rw_aload_n (pc' := 89) (v := .ref r0) rfl rfl rfl ?_)
                        refine wp_of e276 c276_89 (rw_iload (pc' := 91) (z := z1873) rfl rfl ?_)
                        refine wp_of e276 c276_91 (xc_V (pc' := 94) (r := r0) (as := [vI z1873]) (st := []) (lm_9_58) rfl rfl (Nat.le_of_ble_eq_true rfl) w1871 g0 sh_42 (by decide) rfl (by decide) (s_209 w1871 g0 ⟨b1874.1, b1874.2⟩) (fun R1878 T1879 H1880 p1881 => ?_))
                        obtain ⟨e1882, w1884, f1885, z1886, e1883, b1887⟩ := p1881
                        subst e1882
                        subst e1883
                        have f1888 := f1875.tr f1885 rfl
                        show wp _ _ 276 94 [(4, vI z1873), (3, vI v1841), (2, vI z1756), (0, .ref r0)] [vI z1886] _ H1880 _
                        have k1889 : wKI H1880 r0 = wKI H1703 r0 := ((wKI_fr w1871 g0 f1885 rfl).trans ((wKI_fr w1843 g0 f1872 rfl).trans (wKI_fr w1707 g0 f1844 rfl)))
                        have h1890 : KNN T H1880 r0 e d := (KNN_fr w1871 g0 f1885 rfl (KNN_fr w1843 g0 f1872 rfl (KNN_fr w1707 g0 f1844 rfl a1719)))
                        exact wp_ireturn e276 c276_94 rfl ⟨rfl, w1884, f1888, z1886, rfl, ⟨b1887.1, b1887.2⟩, ⟨by omega, h1890⟩⟩
                exact wp_lc (ks := [3, 2, 1, 0]) (wl_c rfl (wl_c rfl (wl_c rfl wl_n))) rfl (by decide) (lp1838 _ 0 H1703 w1707 wfr.rf ⟨by decide, by decide⟩ rfl)
              · exfalso
                omega
            · refine wp_of e276 c276_50 (rw_iconst (pc' := 51) rfl ?_)
              refine wp_of e276 c276_51 (rw_istore_n (pc' := 52) (z := 5) (L' := [(1, vI 5), (0, .ref r0)]) rfl rfl rfl ?_)
              refine wp_of e276 c276_52 (rw_iload_n (pc' := 53) (z := 5) rfl rfl ?_)
              refine wp_of e276 c276_53 (rw_if_le (p1 := 62) (p2 := 56) (by decide) rfl ⟨by decide, by decide⟩ (fun c1891 => ?_) (fun c1891 => ?_))
              · exfalso
                omega
              · refine wp_of e276 c276_56 (rw_aload_n (pc' := 57) (v := .ref r0) rfl rfl rfl ?_)
                refine wp_of e276 c276_57 (rw_iload_n (pc' := 58) (z := 5) rfl rfl ?_)
                refine wp_of e276 c276_58 (xc_V (pc' := 61) (r := r0) (as := [vI 5]) (st := []) (lm_9_54) rfl rfl (Nat.le_of_ble_eq_true rfl) w1707 g0 sh_42 (by decide) rfl (by decide) (s_170 w1707 g0 ⟨by decide, by decide⟩) (fun R1892 T1893 H1894 p1895 => ?_))
                obtain ⟨e1896, w1898, f1899, z1900, e1897, b1901⟩ := p1895
                subst e1896
                subst e1897
                have f1902 := f1728.tr f1899 rfl
                show wp _ _ 276 61 [(1, vI 5), (0, .ref r0)] [vI z1900] _ H1894 _
                have k1903 : wKI H1894 r0 = wKI H1703 r0 := (wKI_fr w1707 g0 f1899 rfl)
                have h1904 : KNN T H1894 r0 e d := (KNN_fr w1707 g0 f1899 rfl a1719)
                exact wp_ireturn e276 c276_61 rfl ⟨rfl, w1898, f1902, z1900, rfl, ⟨b1901.1, b1901.2⟩, ⟨by omega, h1904⟩⟩
        · refine wp_of e276 c276_37 (rw_iconst (pc' := 38) rfl ?_)
          refine wp_of e276 c276_38 (rw_istore_n (pc' := 39) (z := 3) (L' := [(1, vI 3), (0, .ref r0)]) rfl rfl rfl ?_)
          refine wp_of e276 c276_39 (rw_iload_n (pc' := 40) (z := 3) rfl rfl ?_)
          refine wp_of e276 c276_40 (rw_if_ne (p1 := 52) (p2 := 43) (by decide) rfl ⟨by decide, by decide⟩ (fun c1905 => ?_) (fun c1905 => ?_))
          · refine wp_of e276 c276_52 (rw_iload_n (pc' := 53) (z := 3) rfl rfl ?_)
            refine wp_of e276 c276_53 (rw_if_le (p1 := 62) (p2 := 56) (by decide) rfl ⟨by decide, by decide⟩ (fun c1906 => ?_) (fun c1906 => ?_))
            · exfalso
              omega
            · refine wp_of e276 c276_56 (rw_aload_n (pc' := 57) (v := .ref r0) rfl rfl rfl ?_)
              refine wp_of e276 c276_57 (rw_iload_n (pc' := 58) (z := 3) rfl rfl ?_)
              refine wp_of e276 c276_58 (xc_V (pc' := 61) (r := r0) (as := [vI 3]) (st := []) (lm_9_54) rfl rfl (Nat.le_of_ble_eq_true rfl) w1707 g0 sh_42 (by decide) rfl (by decide) (s_170 w1707 g0 ⟨by decide, by decide⟩) (fun R1907 T1908 H1909 p1910 => ?_))
              obtain ⟨e1911, w1913, f1914, z1915, e1912, b1916⟩ := p1910
              subst e1911
              subst e1912
              have f1917 := f1728.tr f1914 rfl
              show wp _ _ 276 61 [(1, vI 3), (0, .ref r0)] [vI z1915] _ H1909 _
              have k1918 : wKI H1909 r0 = wKI H1703 r0 := (wKI_fr w1707 g0 f1914 rfl)
              have h1919 : KNN T H1909 r0 e d := (KNN_fr w1707 g0 f1914 rfl a1719)
              exact wp_ireturn e276 c276_61 rfl ⟨rfl, w1913, f1917, z1915, rfl, ⟨b1916.1, b1916.2⟩, ⟨by omega, h1919⟩⟩
          · exfalso
            omega
    · have f1920 := f1450.tr f1708 rfl
      show wp _ _ 276 21 [(0, .ref r0)] [vI z1709] _ H1703 _
      refine wp_of e276 c276_21 (rw_istore_n (pc' := 22) (z := z1709) (L' := [(1, vI z1709), (0, .ref r0)]) rfl rfl rfl ?_)
      refine wp_of e276 c276_22 (rw_iload_n (pc' := 23) (z := z1709) rfl rfl ?_)
      refine wp_of e276 c276_23 (rw_if_ne (p1 := 39) (p2 := 26) (by decide) rfl ⟨Int.le_trans (by decide) b1710.1, Int.le_trans b1710.2 (by decide)⟩ (fun c1921 => ?_) (fun c1921 => ?_))
      · refine wp_of e276 c276_39 (rw_iload_n (pc' := 40) (z := z1709) rfl rfl ?_)
        refine wp_of e276 c276_40 (rw_if_ne (p1 := 52) (p2 := 43) (by decide) rfl ⟨Int.le_trans (by decide) b1710.1, Int.le_trans b1710.2 (by decide)⟩ (fun c1922 => ?_) (fun c1922 => ?_))
        · refine wp_of e276 c276_52 (rw_iload_n (pc' := 53) (z := z1709) rfl rfl ?_)
          refine wp_of e276 c276_53 (rw_if_le (p1 := 62) (p2 := 56) (by decide) rfl ⟨Int.le_trans (by decide) b1710.1, Int.le_trans b1710.2 (by decide)⟩ (fun c1923 => ?_) (fun c1923 => ?_))
          · exfalso
            omega
          · refine wp_of e276 c276_56 (rw_aload_n (pc' := 57) (v := .ref r0) rfl rfl rfl ?_)
            refine wp_of e276 c276_57 (rw_iload_n (pc' := 58) (z := z1709) rfl rfl ?_)
            refine wp_of e276 c276_58 (xc_V (pc' := 61) (r := r0) (as := [vI z1709]) (st := []) (lm_9_54) rfl rfl (Nat.le_of_ble_eq_true rfl) w1707 g0 sh_42 (by decide) rfl (by decide) (s_170 w1707 g0 ⟨Int.le_trans (by decide) b1710.1, Int.le_trans b1710.2 (by decide)⟩) (fun R1924 T1925 H1926 p1927 => ?_))
            obtain ⟨e1928, w1930, f1931, z1932, e1929, b1933⟩ := p1927
            subst e1928
            subst e1929
            have f1934 := f1920.tr f1931 rfl
            show wp _ _ 276 61 [(1, vI z1709), (0, .ref r0)] [vI z1932] _ H1926 _
            have k1935 : wKI H1926 r0 = wKI H1703 r0 := (wKI_fr w1707 g0 f1931 rfl)
            have h1936 : KNN T H1926 r0 e d := (KNN_fr w1707 g0 f1931 rfl a1727)
            exact wp_ireturn e276 c276_61 rfl ⟨rfl, w1930, f1934, z1932, rfl, ⟨b1933.1, b1933.2⟩, ⟨by omega, h1936⟩⟩
        · exfalso
          omega
      · exfalso
        omega
/-! StrikeAwakeModel.part(IZ)I  -/
abbrev uq_279 (r0 : Nat) (a1 : Int) (a2 : Int) (e : xD) (d : xD) (T : wq_T) (H : wq_H) : Option Value → wq_T → wq_H → Prop := fun r T' H' => T = T' ∧ WT T H' ∧ wfr [(42, 0), (42, 1), (42, 2), (42, 28), (42, 29), (51, 999), (52, 999)] T H H' ∧ ∃ z : Int, some (vI z) = r ∧ ((-2147483648) ≤ z ∧ z ≤ 2147483647) ∧ (((wKI H' r0 = 1) ∧ KNN T H' r0 e d))
set_option maxHeartbeats 4000000 in
theorem u_279 {kt : Nat → Option mc_E} {T : wq_T} {H : wq_H} {r0 : Nat} {a1 : Int} {a2 : Int} {e : xD} {d : xD} (hW : WT T H) (g0 : T.2.2.2 r0 = some 42) (i1 : (-2147483648) ≤ a1 ∧ a1 ≤ 2147483647) (i2 : 0 ≤ a2 ∧ a2 ≤ 1) (p0 : wKI H r0 = 1) (p1 : XW d) (p2 : ∀ h : Nat, d 0 0 ≤ (h : Int) → h < 24 → e 13 h = 0) (p3 : XN d) (p4 : ∀ h : Nat, h < 24 → 0 ≤ e 13 h ∧ e 13 h ≤ 100) (hRB_r0 : RB T H r0 e d) (hKNN_r0 : KNN T H r0 e d) : wpc kt 9 279 [.ref r0, vI a1, vI a2] T H (uq_279 r0 a1 a2 e d T H) := by
  refine wp_enter e279 (Nat.le_of_ble_eq_true rfl) rfl ?_
  have f0 : wfr [(42, 0), (42, 1), (42, 2), (42, 28), (42, 29), (51, 999), (52, 999)] T H H := wfr.rf
  show wp _ _ 279 0 [(0, .ref r0), (1, vI a1), (2, vI a2)] [] _ H _
  have _b := RB_b hW hRB_r0
  have _nu := RB_n3 hRB_r0
  have _lm := RB_lm hRB_r0
  refine wp_of e279 c279_0 (rw_aload_n (pc' := 1) (v := .ref r0) rfl rfl rfl ?_)
  refine wp_of e279 c279_1 (rw_iconst (pc' := 2) rfl ?_)
  refine wp_of e279 c279_2 (xp_I (pc' := 5) lf_9_48 hW g0 sh_42 (by decide) (by decide) ty_42_0 rfl rfl (by decide) (by decide) ⟨by decide, by decide⟩ rfl (fun H1502 e1503 w1504 => ?_))
  have f1505 := f0.put' e1503 g0 rfl
  have k1506 : H1502 r0 0 = 0 := wq_u_s e1503
  refine wp_of e279 c279_5 (rw_aload_n (pc' := 6) (v := .ref r0) rfl rfl rfl ?_)
  refine wp_of e279 c279_6 (rw_aload_n (pc' := 7) (v := .ref r0) rfl rfl rfl ?_)
  refine wp_of e279 c279_7 (rw_iload_n (pc' := 8) (z := a1) rfl rfl ?_)
  refine wp_of e279 c279_8 (xc_V (pc' := 11) (r := r0) (as := [vI a1]) (st := [.ref r0]) (lm_9_487) rfl rfl (Nat.le_of_ble_eq_true rfl) w1504 g0 sh_42 (by decide) rfl (by decide) (s_280 w1504 g0 ⟨i1.1, i1.2⟩) (fun R1507 T1508 H1509 p1510 => ?_))
  obtain ⟨e1511, e1513, z1515, e1512, b1516, p1514⟩ := p1510
  subst e1511
  subst e1512
  subst e1513
  show wp _ _ 279 11 [(0, .ref r0), (1, vI a1), (2, vI a2)] [vI z1515, .ref r0] _ H1502 _
  have k1517 : H1502 r0 3 = H r0 3 := (wq_u_j e1503 rfl)
  have k1518 : wKI H1502 r0 = wKI H r0 := (wKI_fr hW g0 ((wfr.rf (l := [(42, 0)])).put' e1503 g0 rfl) rfl)
  have h1519 : RB T H1502 r0 e d := (RB_fr hW g0 ((wfr.rf (l := [(42, 0)])).put' e1503 g0 rfl) rfl hRB_r0)
  have h1520 : KNN T H1502 r0 e d := (KNN_fr hW g0 ((wfr.rf (l := [(42, 0)])).put' e1503 g0 rfl) rfl hKNN_r0)
  refine wp_of e279 c279_11 (xc_V (pc' := 14) (r := r0) (as := [vI z1515]) (st := []) (lm_9_447) rfl rfl (Nat.le_of_ble_eq_true rfl) w1504 g0 sh_42 (by decide) rfl (by decide) (u_253 (e := e) (d := d) w1504 g0 ⟨b1516.1, b1516.2⟩ (by omega) (by omega) (by assumption) (by assumption) (by assumption) (by assumption) h1519 h1520) (fun R1521 T1522 H1523 p1524 => ?_))
  obtain ⟨e1525, w1527, f1528, z1529, e1526, b1530, p1531⟩ := p1524
  subst e1525
  subst e1526
  rcases p1531 with ⟨a1532, a1533, a1534, a1535, a1536, a1537, a1538, a1539, a1540, a1541⟩ | ⟨a1542, a1543, a1544, a1545, a1546, a1547, a1548⟩
  · have f1549 := f1505.tr f1528 rfl
    show wp _ _ 279 14 [(0, .ref r0), (1, vI a1), (2, vI a2)] [vI z1529] _ H1523 _
    refine wp_of e279 c279_14 (rw_istore_n (pc' := 15) (z := z1529) (L' := [(3, vI z1529), (0, .ref r0), (1, vI a1), (2, vI a2)]) rfl rfl rfl ?_)
    refine wp_of e279 c279_15 (rw_iload_n (pc' := 16) (z := z1529) rfl rfl ?_)
    refine wp_of e279 c279_16 (rw_if_le (p1 := 25) (p2 := 19) (by decide) rfl ⟨Int.le_trans (by decide) b1530.1, Int.le_trans b1530.2 (by decide)⟩ (fun c1550 => ?_) (fun c1550 => ?_))
    · refine wp_of e279 c279_25 (rw_iconst (pc' := 26) rfl ?_)
      refine wp_of e279 c279_26 (rw_istore (pc' := 28) (z := 0) (L' := [(4, vI 0), (3, vI z1529), (0, .ref r0), (1, vI a1), (2, vI a2)]) rfl rfl rfl ?_)
      refine wp_of e279 c279_28 (rw_iconst (pc' := 29) rfl ?_)
      refine wp_of e279 c279_29 (rw_istore (pc' := 31) (z := 0) (L' := [(5, vI 0), (4, vI 0), (3, vI z1529), (0, .ref r0), (1, vI a1), (2, vI a2)]) rfl rfl rfl ?_)
      have lp1932 : ∀ (n1933 : Nat) (v1935 : Int) (v1936 : Int) (H1937 : wq_H), WT T H1937 → wfr [(51, 999)] T H1523 H1937 → (0 ≤ v1935 ∧ v1935 ≤ 20000) → ((-2147483648) ≤ v1936 ∧ v1936 ≤ 2147483647) → (20000 - v1935).toNat = n1933 → wp kt 8 279 31 [(5, vI v1935), (4, vI v1936), (0, .ref r0), (1, vI a1), (2, vI a2)] [] T H1937 (uq_279 r0 a1 a2 e d T H) := by
        intro n1933
        induction n1933 using Nat.strongRecOn with
        | _ n1933 ih1934 =>
          intro v1935 v1936 H1937 w1938 f1939 b1940 b1941 m1942
          have f1943 := f1549.tr f1939 rfl
          refine wp_of e279 c279_31 (rw_iload (pc' := 33) (z := v1935) rfl rfl ?_)
          refine wp_of e279 c279_33 (rw_aload_n (pc' := 34) (v := .ref r0) rfl rfl rfl ?_)
          refine wp_of e279 c279_34 (xg_I (pc' := 37) lf_9_422 w1938 g0 sh_42 (by decide) (by decide) ty_42_29 rfl rfl (fun b1944 b1945 => ?_))
          refine wp_of e279 c279_37 (rw_icmp_ge (p1 := 112) (p2 := 40) (by decide) rfl ⟨Int.le_trans (by decide) b1940.1, Int.le_trans b1940.2 (by decide)⟩ ⟨Int.le_trans (by decide) b1944, Int.le_trans b1945 (by decide)⟩ (fun c1946 => ?_) (fun c1946 => ?_))
          · refine wp_of e279 c279_112 (rw_aload_n (pc' := 113) (v := .ref r0) rfl rfl rfl ?_)
            refine wp_of e279 c279_113 (rw_iload (pc' := 115) (z := v1936) rfl rfl ?_)
            refine wp_of e279 c279_115 (xc_V (pc' := 118) (r := r0) (as := [vI v1936]) (st := []) (lm_9_58) rfl rfl (Nat.le_of_ble_eq_true rfl) w1938 g0 sh_42 (by decide) rfl (by decide) (s_209 w1938 g0 ⟨b1941.1, b1941.2⟩) (fun R1947 T1948 H1949 p1950 => ?_))
            obtain ⟨e1951, w1953, f1954, z1955, e1952, b1956⟩ := p1950
            subst e1951
            subst e1952
            have f1957 := f1943.tr f1954 rfl
            show wp _ _ 279 118 [(5, vI v1935), (4, vI v1936), (0, .ref r0), (1, vI a1), (2, vI a2)] [vI z1955] _ H1949 _
            have k1958 : wKI H1949 r0 = wKI H1523 r0 := ((wKI_fr w1938 g0 f1954 rfl).trans (wKI_fr w1527 g0 f1939 rfl))
            have h1959 : KNN T H1949 r0 e d := (KNN_fr w1938 g0 f1954 rfl (KNN_fr w1527 g0 f1939 rfl a1540))
            exact wp_ireturn e279 c279_118 rfl ⟨rfl, w1953, f1957, z1955, rfl, ⟨b1956.1, b1956.2⟩, ⟨by omega, h1959⟩⟩
          · refine wp_of e279 c279_40 (rw_aload_n (pc' := 41) (v := .ref r0) rfl rfl rfl ?_)
            refine wp_of e279 c279_41 (rw_aload_n (pc' := 42) (v := .ref r0) rfl rfl rfl ?_)
            refine wp_of e279 c279_42 (xg_R (pc' := 45) lf_9_42 w1938 g0 sh_42 (by decide) (by decide) ty_42_30 rfl rfl (fun r1960 q1961 g1962 => ?_))
            refine wp_of e279 c279_45 (rw_iload (pc' := 47) (z := v1935) rfl rfl ?_)
            refine wp_of e279 c279_47 (xa_I (so := 0) (pc' := 48) w1938 g1962 sh_52 (by decide) (ty_52 _) (b1940.1) (by omega) rfl (fun b1963 b1964 => ?_))
            have k1965 : H1937 r0 3 = H1502 r0 3 := ((f1939 r0 3 _ g0 rfl).trans (f1528 r0 3 _ g0 rfl))
            obtain ⟨r1966, q1967, g1968⟩ := (w1938.opt g0 (t' := 54) (n := 33) (j := 3) (p := 0) (q := 0) rfl (by decide) rfl).resolve_left (by omega)
            refine wp_of e279 c279_48 (xc_V (pc' := 51) (r := r0) (as := [vI (H1937 r1960 (v1935.toNat))]) (st := []) (lm_9_425) rfl rfl (Nat.le_of_ble_eq_true rfl) w1938 g0 sh_42 (by decide) rfl (by decide) (s_243 w1938 g0 ⟨b1963, Int.le_trans b1964 (by decide)⟩ q1967 g1968 (by omega)) (fun R1969 T1970 H1971 p1972 => ?_))
            obtain ⟨e1973, w1975, f1976, e1974⟩ := p1972
            subst e1973
            subst e1974
            have f1977 := f1943.tr f1976 rfl
            have f1978 := f1939.tr f1976 rfl
            show wp _ _ 279 51 [(5, vI v1935), (4, vI v1936), (0, .ref r0), (1, vI a1), (2, vI a2)] [] _ H1971 _
            refine wp_of e279 c279_51 (rw_aload_n (pc' := 52) (v := .ref r0) rfl rfl rfl ?_)
            refine wp_of e279 c279_52 (xg_R (pc' := 55) lf_9_17 w1975 g0 sh_42 (by decide) (by decide) ty_42_20 rfl rfl (fun r1979 q1980 g1981 => ?_))
            refine wp_of e279 c279_55 (rw_iload_n (pc' := 56) (z := a1) rfl rfl ?_)
            refine wp_of e279 c279_56 (xa_I (so := 0) (pc' := 57) w1975 g1981 sh_44 (by decide) (ty_44 _) (by omega) (by omega) rfl (fun b1982 b1983 => ?_))
            refine wp_of e279 c279_57 (rw_iconst (pc' := 58) rfl ?_)
            refine wp_of e279 c279_58 (rw_isubw (pc' := 59) rfl ?_)
            obtain ⟨v1984, e1985⟩ : ∃ x : Int, x = wq_w ((H1971 r1979 (a1.toNat)) - 1) := ⟨_, rfl⟩
            rw [← e1985]
            have b1986 : -2147483648 ≤ v1984 ∧ v1984 ≤ 2147483647 := by
              rw [e1985]
              exact wI_w _
            have b1987 : (-2147483648 ≤ (H1971 r1979 (a1.toNat)) - 1 ∧ (H1971 r1979 (a1.toNat)) - 1 ≤ 2147483647) → v1984 = (H1971 r1979 (a1.toNat)) - 1 := fun h => by rw [e1985]; exact wq_w_id h
            refine wp_of e279 c279_59 (rw_aload_n (pc' := 60) (v := .ref r0) rfl rfl rfl ?_)
            refine wp_of e279 c279_60 (rw_aload_n (pc' := 61) (v := .ref r0) rfl rfl rfl ?_)
            refine wp_of e279 c279_61 (xg_R (pc' := 64) lf_9_39 w1975 g0 sh_42 (by decide) (by decide) ty_42_27 rfl rfl (fun r1988 q1989 g1990 => ?_))
            refine wp_of e279 c279_64 (rw_iload_n (pc' := 65) (z := a1) rfl rfl ?_)
            have k1991 : H1971 r0 3 = H1937 r0 3 := (f1976 r0 3 _ g0 rfl)
            have q1992 : H1971 r0 3 = (r1966 : Int) := k1991.trans q1967
            refine wp_of e279 c279_65 (xc_V (pc' := 68) (r := r0) (as := [.ref r1988, vI a1]) (st := [vI v1984]) (lm_9_386) rfl rfl (Nat.le_of_ble_eq_true rfl) w1975 g0 sh_42 (by decide) rfl (by decide) (s_228_m_lot w1975 g0 g1990 ⟨i1.1, i1.2⟩ q1992 g1968) (fun R1993 T1994 H1995 p1996 => ?_))
            obtain ⟨e1997, e1999, z2000, e1998, b2001⟩ := p1996
            subst e1997
            subst e1998
            subst e1999
            show wp _ _ 279 68 [(5, vI v1935), (4, vI v1936), (0, .ref r0), (1, vI a1), (2, vI a2)] [vI z2000, vI v1984] _ H1971 _
            refine wp_of e279 c279_68 (rw_isubw (pc' := 69) rfl ?_)
            obtain ⟨v2002, e2003⟩ : ∃ x : Int, x = wq_w (v1984 - z2000) := ⟨_, rfl⟩
            rw [← e2003]
            have b2004 : -2147483648 ≤ v2002 ∧ v2002 ≤ 2147483647 := by
              rw [e2003]
              exact wI_w _
            have b2005 : (-2147483648 ≤ v1984 - z2000 ∧ v1984 - z2000 ≤ 2147483647) → v2002 = v1984 - z2000 := fun h => by rw [e2003]; exact wq_w_id h
            refine wp_of e279 c279_69 (rw_istore (pc' := 71) (z := v2002) (L' := [(6, vI v2002), (5, vI v1935), (4, vI v1936), (0, .ref r0), (1, vI a1), (2, vI a2)]) rfl rfl rfl ?_)
            refine wp_of e279 c279_71 (rw_iload (pc' := 73) (z := v1935) rfl rfl ?_)
            refine wp_of e279 c279_73 (rw_if_eq (p1 := 97) (p2 := 76) (by decide) rfl ⟨Int.le_trans (by decide) b1940.1, Int.le_trans b1940.2 (by decide)⟩ (fun c2006 => ?_) (fun c2006 => ?_))
            · refine wp_of e279 c279_97 (rw_iload (pc' := 99) (z := v2002) rfl rfl ?_)
              refine wp_of e279 c279_99 (rw_goto (p1 := 104) (by decide) ?_)
              refine wp_of e279 c279_104 (rw_istore (pc' := 106) (z := v2002) (L' := [(4, vI v2002), (6, vI v2002), (5, vI v1935), (0, .ref r0), (1, vI a1), (2, vI a2)]) rfl rfl rfl ?_)
              refine wp_of e279 c279_106 (rw_iinc (pc' := 109) (z := v1935) (L' := [(5, vI (v1935 + 1)), (4, vI v2002), (6, vI v2002), (0, .ref r0), (1, vI a1), (2, vI a2)]) rfl rfl rfl rfl ?_)
              refine wp_of e279 c279_109 (rw_goto (p1 := 31) (by decide) ?_)
              exact wp_lc (ks := [5, 4, 6, 0, 1, 2]) (wl_c rfl (wl_c rfl (wl_c rfl (wl_c rfl (wl_c rfl wl_n))))) rfl (by decide) (ih1934 _ (by omega) (v1935 + 1) v2002 H1971 w1975 f1978 ⟨by omega, by omega⟩ ⟨b2004.1, b2004.2⟩ rfl)
            · refine wp_of e279 c279_76 (rw_iload_n (pc' := 77) (z := a2) rfl rfl ?_)
              refine wp_of e279 c279_77 (rw_if_eq (p1 := 90) (p2 := 80) (by decide) rfl ⟨Int.le_trans (by decide) i2.1, Int.le_trans i2.2 (by decide)⟩ (fun c2007 => ?_) (fun c2007 => ?_))
              · refine wp_of e279 c279_90 (rw_iload (pc' := 92) (z := v2002) rfl rfl ?_)
                refine wp_of e279 c279_92 (rw_iload (pc' := 94) (z := v1936) rfl rfl ?_)
                refine wp_of e279 c279_94 (rw_icmp_ge (p1 := 102) (p2 := 97) (by decide) rfl ⟨b2004.1, b2004.2⟩ ⟨b1941.1, b1941.2⟩ (fun c2008 => ?_) (fun c2008 => ?_))
                · refine wp_of e279 c279_102 (rw_iload (pc' := 104) (z := v1936) rfl rfl ?_)
                  refine wp_of e279 c279_104 (rw_istore (pc' := 106) (z := v1936) (L' := [(4, vI v1936), (6, vI v2002), (5, vI v1935), (0, .ref r0), (1, vI a1), (2, vI a2)]) rfl rfl rfl ?_)
                  refine wp_of e279 c279_106 (rw_iinc (pc' := 109) (z := v1935) (L' := [(5, vI (v1935 + 1)), (4, vI v1936), (6, vI v2002), (0, .ref r0), (1, vI a1), (2, vI a2)]) rfl rfl rfl rfl ?_)
                  refine wp_of e279 c279_109 (rw_goto (p1 := 31) (by decide) ?_)
                  exact wp_lc (ks := [5, 4, 6, 0, 1, 2]) (wl_c rfl (wl_c rfl (wl_c rfl (wl_c rfl (wl_c rfl wl_n))))) rfl (by decide) (ih1934 _ (by omega) (v1935 + 1) v1936 H1971 w1975 f1978 ⟨by omega, by omega⟩ ⟨b1941.1, b1941.2⟩ rfl)
                · refine wp_of e279 c279_97 (rw_iload (pc' := 99) (z := v2002) rfl rfl ?_)
                  refine wp_of e279 c279_99 (rw_goto (p1 := 104) (by decide) ?_)
                  refine wp_of e279 c279_104 (rw_istore (pc' := 106) (z := v2002) (L' := [(4, vI v2002), (6, vI v2002), (5, vI v1935), (0, .ref r0), (1, vI a1), (2, vI a2)]) rfl rfl rfl ?_)
                  refine wp_of e279 c279_106 (rw_iinc (pc' := 109) (z := v1935) (L' := [(5, vI (v1935 + 1)), (4, vI v2002), (6, vI v2002), (0, .ref r0), (1, vI a1), (2, vI a2)]) rfl rfl rfl rfl ?_)
                  refine wp_of e279 c279_109 (rw_goto (p1 := 31) (by decide) ?_)
                  exact wp_lc (ks := [5, 4, 6, 0, 1, 2]) (wl_c rfl (wl_c rfl (wl_c rfl (wl_c rfl (wl_c rfl wl_n))))) rfl (by decide) (ih1934 _ (by omega) (v1935 + 1) v2002 H1971 w1975 f1978 ⟨by omega, by omega⟩ ⟨b2004.1, b2004.2⟩ rfl)
              · refine wp_of e279 c279_80 (rw_iload (pc' := 82) (z := v2002) rfl rfl ?_)
                refine wp_of e279 c279_82 (rw_iload (pc' := 84) (z := v1936) rfl rfl ?_)
                refine wp_of e279 c279_84 (rw_icmp_le (p1 := 102) (p2 := 87) (by decide) rfl ⟨b2004.1, b2004.2⟩ ⟨b1941.1, b1941.2⟩ (fun c2009 => ?_) (fun c2009 => ?_))
                · refine wp_of e279 c279_102 (rw_iload (pc' := 104) (z := v1936) rfl rfl ?_)
                  refine wp_of e279 c279_104 (rw_istore (pc' := 106) (z := v1936) (L' := [(4, vI v1936), (6, vI v2002), (5, vI v1935), (0, .ref r0), (1, vI a1), (2, vI a2)]) rfl rfl rfl ?_)
                  refine wp_of e279 c279_106 (rw_iinc (pc' := 109) (z := v1935) (L' := [(5, vI (v1935 + 1)), (4, vI v1936), (6, vI v2002), (0, .ref r0), (1, vI a1), (2, vI a2)]) rfl rfl rfl rfl ?_)
                  refine wp_of e279 c279_109 (rw_goto (p1 := 31) (by decide) ?_)
                  exact wp_lc (ks := [5, 4, 6, 0, 1, 2]) (wl_c rfl (wl_c rfl (wl_c rfl (wl_c rfl (wl_c rfl wl_n))))) rfl (by decide) (ih1934 _ (by omega) (v1935 + 1) v1936 H1971 w1975 f1978 ⟨by omega, by omega⟩ ⟨b1941.1, b1941.2⟩ rfl)
                · refine wp_of e279 c279_87 (rw_goto (p1 := 97) (by decide) ?_)
                  refine wp_of e279 c279_97 (rw_iload (pc' := 99) (z := v2002) rfl rfl ?_)
                  refine wp_of e279 c279_99 (rw_goto (p1 := 104) (by decide) ?_)
                  refine wp_of e279 c279_104 (rw_istore (pc' := 106) (z := v2002) (L' := [(4, vI v2002), (6, vI v2002), (5, vI v1935), (0, .ref r0), (1, vI a1), (2, vI a2)]) rfl rfl rfl ?_)
                  refine wp_of e279 c279_106 (rw_iinc (pc' := 109) (z := v1935) (L' := [(5, vI (v1935 + 1)), (4, vI v2002), (6, vI v2002), (0, .ref r0), (1, vI a1), (2, vI a2)]) rfl rfl rfl rfl ?_)
                  refine wp_of e279 c279_109 (rw_goto (p1 := 31) (by decide) ?_)
                  exact wp_lc (ks := [5, 4, 6, 0, 1, 2]) (wl_c rfl (wl_c rfl (wl_c rfl (wl_c rfl (wl_c rfl wl_n))))) rfl (by decide) (ih1934 _ (by omega) (v1935 + 1) v2002 H1971 w1975 f1978 ⟨by omega, by omega⟩ ⟨b2004.1, b2004.2⟩ rfl)
      exact wp_lc (ks := [5, 4, 3, 0, 1, 2]) (wl_c rfl (wl_c rfl (wl_c rfl (wl_c rfl (wl_c rfl wl_n))))) rfl (by decide) (lp1932 _ 0 0 H1523 w1527 wfr.rf ⟨by decide, by decide⟩ ⟨by decide, by decide⟩ rfl)
    · exfalso
      omega
  · have f2010 := f1505.tr f1528 rfl
    show wp _ _ 279 14 [(0, .ref r0), (1, vI a1), (2, vI a2)] [vI z1529] _ H1523 _
    refine wp_of e279 c279_14 (rw_istore_n (pc' := 15) (z := z1529) (L' := [(3, vI z1529), (0, .ref r0), (1, vI a1), (2, vI a2)]) rfl rfl rfl ?_)
    refine wp_of e279 c279_15 (rw_iload_n (pc' := 16) (z := z1529) rfl rfl ?_)
    refine wp_of e279 c279_16 (rw_if_le (p1 := 25) (p2 := 19) (by decide) rfl ⟨Int.le_trans (by decide) b1530.1, Int.le_trans b1530.2 (by decide)⟩ (fun c2011 => ?_) (fun c2011 => ?_))
    · exfalso
      omega
    · refine wp_of e279 c279_19 (rw_aload_n (pc' := 20) (v := .ref r0) rfl rfl rfl ?_)
      refine wp_of e279 c279_20 (rw_iload_n (pc' := 21) (z := z1529) rfl rfl ?_)
      refine wp_of e279 c279_21 (xc_V (pc' := 24) (r := r0) (as := [vI z1529]) (st := []) (lm_9_490) rfl rfl (Nat.le_of_ble_eq_true rfl) w1527 g0 sh_42 (by decide) rfl (by decide) (s_281 w1527 g0 ⟨Int.le_trans (by decide) b1530.1, Int.le_trans b1530.2 (by decide)⟩) (fun R2012 T2013 H2014 p2015 => ?_))
      obtain ⟨e2016, w2018, f2019, z2020, e2017, b2021⟩ := p2015
      subst e2016
      subst e2017
      have f2022 := f2010.tr f2019 rfl
      show wp _ _ 279 24 [(3, vI z1529), (0, .ref r0), (1, vI a1), (2, vI a2)] [vI z2020] _ H2014 _
      have k2023 : wKI H2014 r0 = wKI H1523 r0 := (wKI_fr w1527 g0 f2019 rfl)
      have h2024 : KNN T H2014 r0 e d := (KNN_fr w1527 g0 f2019 rfl a1548)
      exact wp_ireturn e279 c279_24 rfl ⟨rfl, w2018, f2022, z2020, rfl, ⟨b2021.1, b2021.2⟩, ⟨by omega, h2024⟩⟩
