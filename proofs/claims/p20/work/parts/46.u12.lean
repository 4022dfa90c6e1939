/-! what methods do (own work, written by wip/gen3/sx3.py) -/
/-! StrikeAwakeModel.hiding(II)I  -/
abbrev uq_261 (r0 : Nat) (a1 : Int) (a2 : Int) (e : xD) (d : xD) (T : wq_T) (H : wq_H) : Option Value → wq_T → wq_H → Prop := fun r T' H' => T = T' ∧ WT T H' ∧ wfr [(42, 0), (42, 1), (42, 2), (42, 28), (42, 29), (51, 999), (52, 999)] T H H' ∧ ∃ z : Int, some (vI z) = r ∧ ((-2147483648) ≤ z ∧ z ≤ 2147483647) ∧ (((z = -1) ∧ (wKI H' r0 = 1) ∧ (((a1 < 0 ∨ d 0 3 ≤ a1) ∨ a2 < 0 ∨ d 0 0 ≤ a2) ∨ 20000 < xlots d) ∧ KNN T H' r0 e d) ∨ ((wKI H' r0 = 1) ∧ (((0 ≤ a1 ∧ a1 < d 0 3) ∧ 0 ≤ a2 ∧ a2 < d 0 0) ∧ xlots d ≤ 20000) ∧ (z = wfd (xwf e d) (fun n x => if hb (xsb d (xlot d ((n : Nat) : Int)) (a1).toNat) (a2).toNat = 1 then wq_or x (xpa d (xlot d ((n : Nat) : Int)) (a2).toNat) else x) 0 (xlots d).toNat) ∧ KNN T H' r0 e d))
set_option maxHeartbeats 4000000 in
theorem u_261 {kt : Nat → Option mc_E} {T : wq_T} {H : wq_H} {r0 : Nat} {a1 : Int} {a2 : Int} {e : xD} {d : xD} (hW : WT T H) (g0 : T.2.2.2 r0 = some 42) (i1 : (-2147483648) ≤ a1 ∧ a1 ≤ 2147483647) (i2 : (-2147483648) ≤ a2 ∧ a2 ≤ 2147483647) (p0 : wKI H r0 = 1) (p1 : XW d) (p2 : ∀ h : Nat, d 0 0 ≤ (h : Int) → h < 24 → e 13 h = 0) (p3 : XN d) (p4 : ∀ h : Nat, h < 24 → 0 ≤ e 13 h ∧ e 13 h ≤ 100) (hRB_r0 : RB T H r0 e d) (hKNN_r0 : KNN T H r0 e d) : wpc kt 8 261 [.ref r0, vI a1, vI a2] T H (uq_261 r0 a1 a2 e d T H) := by
  refine wp_enter e261 (Nat.le_of_ble_eq_true rfl) rfl ?_
  have f0 : wfr [(42, 0), (42, 1), (42, 2), (42, 28), (42, 29), (51, 999), (52, 999)] T H H := wfr.rf
  show wp _ _ 261 0 [(0, .ref r0), (1, vI a1), (2, vI a2)] [] _ H _
  have _b := RB_b hW hRB_r0
  have _nu := RB_n3 hRB_r0
  have _lm := RB_lm hRB_r0
  have _xw := (by assumption : XW d)
  refine wp_of e261 c261_0 (rw_aload_n (pc' := 1) (v := .ref r0) rfl rfl rfl ?_)
  refine wp_of e261 c261_1 (rw_iconst (pc' := 2) rfl ?_)
  refine wp_of e261 c261_2 (xp_I (pc' := 5) lf_9_48 hW g0 sh_42 (by decide) (by decide) ty_42_0 rfl rfl (by omega) (by omega) ⟨by omega, by omega⟩ rfl (fun H2913 e2914 w2915 => ?_))
  have f2916 := f0.put' e2914 g0 rfl
  have k2917 : H2913 r0 0 = 0 := wq_u_s e2914
  refine wp_of e261 c261_5 (rw_aload_n (pc' := 6) (v := .ref r0) rfl rfl rfl ?_)
  refine wp_of e261 c261_6 (rw_aload_n (pc' := 7) (v := .ref r0) rfl rfl rfl ?_)
  refine wp_of e261 c261_7 (rw_iload_n (pc' := 8) (z := a1) rfl rfl ?_)
  have h2918 : RB T H2913 r0 e d := (RB_fr hW g0 ((wfr.rf (l := [(42, 0)])).put' e2914 g0 rfl) rfl hRB_r0)
  refine wp_of e261 c261_8 (xc_V (pc' := 11) (r := r0) (as := [vI a1]) (st := [.ref r0]) (lm_9_364) rfl rfl (Nat.le_of_ble_eq_true rfl) w2915 g0 sh_42 (by decide) rfl (by decide) (u_213 (e := e) (d := d) w2915 g0 ⟨by omega, by omega⟩ h2918) (fun R2919 T2920 H2921 p2922 => ?_))
  obtain ⟨e2923, e2925, z2926, e2924, b2927, p2928⟩ := p2922
  subst e2923
  subst e2924
  subst e2925
  rcases p2928 with ⟨a2929, a2930⟩ | ⟨a2931, a2932⟩
  · show wp _ _ 261 11 [(0, .ref r0), (1, vI a1), (2, vI a2)] [vI z2926, .ref r0] _ H2913 _
    refine wp_of e261 c261_11 (rw_if_eq (p1 := 26) (p2 := 14) (by decide) rfl ⟨by omega, by omega⟩ (fun c2933 => ?_) (fun c2933 => ?_))
    · exfalso
      omega
    · refine wp_of e261 c261_14 (rw_aload_n (pc' := 15) (v := .ref r0) rfl rfl rfl ?_)
      refine wp_of e261 c261_15 (rw_iload_n (pc' := 16) (z := a2) rfl rfl ?_)
      refine wp_of e261 c261_16 (xc_V (pc' := 19) (r := r0) (as := [vI a2]) (st := [.ref r0]) (lm_9_373) rfl rfl (Nat.le_of_ble_eq_true rfl) w2915 g0 sh_42 (by decide) rfl (by decide) (u_218 (e := e) (d := d) w2915 g0 ⟨by omega, by omega⟩ h2918) (fun R2934 T2935 H2936 p2937 => ?_))
      obtain ⟨e2938, e2940, z2941, e2939, b2942, p2943⟩ := p2937
      subst e2938
      subst e2939
      subst e2940
      rcases p2943 with ⟨a2944, a2945⟩ | ⟨a2946, a2947⟩
      · show wp _ _ 261 19 [(0, .ref r0), (1, vI a1), (2, vI a2)] [vI z2941, .ref r0] _ H2913 _
        refine wp_of e261 c261_19 (rw_if_eq (p1 := 26) (p2 := 22) (by decide) rfl ⟨by omega, by omega⟩ (fun c2948 => ?_) (fun c2948 => ?_))
        · exfalso
          omega
        · refine wp_of e261 c261_22 (rw_iconst (pc' := 23) rfl ?_)
          refine wp_of e261 c261_23 (rw_goto (p1 := 27) (by decide) ?_)
          have k2949 : H2913 r0 3 = H r0 3 := (wq_u_j e2914 rfl)
          have k2950 : wKI H2913 r0 = wKI H r0 := (wKI_fr hW g0 ((wfr.rf (l := [(42, 0)])).put' e2914 g0 rfl) rfl)
          have h2951 : KNN T H2913 r0 e d := (KNN_fr hW g0 ((wfr.rf (l := [(42, 0)])).put' e2914 g0 rfl) rfl hKNN_r0)
          refine wp_of e261 c261_27 (xc_V (pc' := 30) (r := r0) (as := [vI 1]) (st := []) (lm_9_433) rfl rfl (Nat.le_of_ble_eq_true rfl) w2915 g0 sh_42 (by decide) rfl (by decide) (u_241 (e := e) (d := d) w2915 g0 ⟨by omega, by omega⟩ (by omega) (by omega) (by assumption) (by assumption) (by assumption) (by assumption) h2918 h2951) (fun R2952 T2953 H2954 p2955 => ?_))
          obtain ⟨e2956, w2958, f2959, z2960, e2957, b2961, p2962⟩ := p2955
          subst e2956
          subst e2957
          rcases p2962 with ⟨a2963, a2964, a2965, a2966, a2967, a2968, a2969, a2970, a2971⟩ | ⟨a2972, a2973, a2974, a2975, a2976, a2977, a2978⟩
          · have f2979 := f2916.tr f2959 rfl
            show wp _ _ 261 30 [(0, .ref r0), (1, vI a1), (2, vI a2)] [vI z2960] _ H2954 _
            refine wp_of e261 c261_30 (rw_istore_n (pc' := 31) (z := z2960) (L' := [(3, vI z2960), (0, .ref r0), (1, vI a1), (2, vI a2)]) rfl rfl rfl ?_)
            refine wp_of e261 c261_31 (rw_iload_n (pc' := 32) (z := z2960) rfl rfl ?_)
            obtain ⟨r2980, q2981, g2982⟩ := (w2958.opt g0 (t' := 54) (n := 33) (j := 3) (p := 0) (q := 0) rfl (by decide) rfl).resolve_left (by omega)
            have h2983 : RB T H2954 r0 e d := (RB_fr w2915 g0 f2959 rfl h2918)
            have _kbb := a2971
            have _kb := _kbb.1
            have _n3 : H2954 r0 3 ≠ -1 := by omega
            have _rp := RB_at h2983 q2981
            have _k := RP_k _rp
            have _nb := xcn_b (f := xwf e d) (xlots d).toNat
            have h2984 : KL T H2954 r0 (xwf e d) (xlots d).toNat := _kbb.2
            have _ar := RB_ar h2983 (by omega)
            have _pk := _ar.1
            have h2985 : LB24 T H2954 r0 (xas d) (xsq d) := _ar.2.2.2.2.2.2.1
            refine wp_of e261 c261_32 (rw_if_le (p1 := 41) (p2 := 35) (by decide) rfl ⟨by omega, by omega⟩ (fun c2986 => ?_) (fun c2986 => ?_))
            · refine wp_of e261 c261_41 (rw_iconst (pc' := 42) rfl ?_)
              refine wp_of e261 c261_42 (rw_istore (pc' := 44) (z := 0) (L' := [(4, vI 0), (3, vI z2960), (0, .ref r0), (1, vI a1), (2, vI a2)]) rfl rfl rfl ?_)
              refine wp_of e261 c261_44 (rw_iconst (pc' := 45) rfl ?_)
              refine wp_of e261 c261_45 (rw_istore (pc' := 47) (z := 0) (L' := [(5, vI 0), (4, vI 0), (3, vI z2960), (0, .ref r0), (1, vI a1), (2, vI a2)]) rfl rfl rfl ?_)
              have b3490 : 0 ≤ H2954 r0 29 ∧ H2954 r0 29 ≤ 20000 := w2958.box g0 (n := 33) rfl (by decide) rfl
              have lp3483 : ∀ (n3484 : Nat) (v3486 : Int) (v3487 : Int) (H3488 : wq_H) (u3489 : Nat), WT T H3488 → wfr [(51, 999)] T H2954 H3488 → (0 ≤ v3486 ∧ v3486 ≤ 20000) → (0 ≤ v3487 ∧ v3487 ≤ 16777215) → KL T H3488 r0 (xwf e d) (xlots d).toNat → (v3486 ≤ H3488 r0 29) → (u3489 ≤ (xlots d).toNat) → (xcn (xwf e d) u3489 = v3486) → (v3487 = wfd (xwf e d) (fun n x => if hb (xsb d (xlot d ((n : Nat) : Int)) (a1).toNat) (a2).toNat = 1 then wq_or x (xpa d (xlot d ((n : Nat) : Int)) (a2).toNat) else x) 0 u3489) → (20000 - v3486).toNat = n3484 → wp kt 7 261 47 [(5, vI v3486), (4, vI v3487), (0, .ref r0), (1, vI a1), (2, vI a2)] [] T H3488 (uq_261 r0 a1 a2 e d T H) := by
                intro n3484
                induction n3484 using Nat.strongRecOn with
                | _ n3484 ih3485 =>
                  intro v3486 v3487 H3488 u3489 w3491 f3492 b3493 b3494 h3496 x3497 x3498 x3499 x3500 m3495
                  have f3501 := f2979.tr f3492 rfl
                  have k3502 : H3488 r0 29 = H2954 r0 29 := (f3492 r0 29 _ g0 rfl)
                  refine wp_of e261 c261_47 (rw_iload (pc' := 49) (z := v3486) rfl rfl ?_)
                  refine wp_of e261 c261_49 (rw_aload_n (pc' := 50) (v := .ref r0) rfl rfl rfl ?_)
                  refine wp_of e261 c261_50 (xg_I (pc' := 53) lf_9_422 w3491 g0 sh_42 (by decide) (by decide) ty_42_29 rfl rfl (fun b3503 b3504 => ?_))
                  refine wp_of e261 c261_53 (rw_icmp_ge (p1 := 110) (p2 := 56) (by decide) rfl ⟨by omega, by omega⟩ ⟨by omega, by omega⟩ (fun c3505 => ?_) (fun c3505 => ?_))
                  · refine wp_of e261 c261_110 (rw_aload_n (pc' := 111) (v := .ref r0) rfl rfl rfl ?_)
                    refine wp_of e261 c261_111 (rw_iload (pc' := 113) (z := v3487) rfl rfl ?_)
                    refine wp_of e261 c261_113 (xc_V (pc' := 116) (r := r0) (as := [vI v3487]) (st := []) (lm_9_58) rfl rfl (Nat.le_of_ble_eq_true rfl) w3491 g0 sh_42 (by decide) rfl (by decide) (u_209  w3491 g0 ⟨by omega, by omega⟩) (fun R3506 T3507 H3508 p3509 => ?_))
                    obtain ⟨e3510, w3512, f3513, z3514, e3511, b3515, p3516⟩ := p3509
                    subst e3510
                    subst e3511
                    obtain ⟨a3517, a3518, a3519⟩ := p3516
                    have f3520 := f3501.tr f3513 rfl
                    show wp _ _ 261 116 [(5, vI v3486), (4, vI v3487), (0, .ref r0), (1, vI a1), (2, vI a2)] [vI z3514] _ H3508 _
                    have k3521 : wKI H3508 r0 = wKI H2954 r0 := ((wKI_fr w3491 g0 f3513 rfl).trans (wKI_fr w2958 g0 f3492 rfl))
                    have h3522 : KNN T H3508 r0 e d := (KNN_fr w3491 g0 f3513 rfl (KNN_fr w2958 g0 f3492 rfl a2970))
                    exact wp_ireturn e261 c261_116 rfl ⟨rfl, w3512, f3520, z3514, rfl, ⟨by omega, by omega⟩, (Or.inr ⟨by omega, by omega, by
                      show _ = wfd (xwf e d) (fun n x => if hb (xsb d (xlot d ((n : Nat) : Int)) (a1).toNat) (a2).toNat = 1 then wq_or x (xpa d (xlot d ((n : Nat) : Int)) (a2).toNat) else x) 0 (xlots d).toNat
                      rw [wfd_end (u := u3489) (by omega) (by omega)]
                      assumption, h3522⟩)⟩
                  · obtain ⟨h9, _a, _b, _c, _e, _f⟩ := xcn_nx (f := xwf e d) (u := u3489) (xlots d).toNat (by omega) (by omega)
                    have _n9 : xcn (xwf e d) (h9 + 1) = xcn (xwf e d) h9 + 1 := by
                      show xcn (xwf e d) h9 + (if xwf e d h9 > 0 then 1 else 0) = _
                      rw [if_pos _c]
                    refine wp_of e261 c261_56 (rw_aload_n (pc' := 57) (v := .ref r0) rfl rfl rfl ?_)
                    refine wp_of e261 c261_57 (rw_aload_n (pc' := 58) (v := .ref r0) rfl rfl rfl ?_)
                    refine wp_of e261 c261_58 (xg_R (pc' := 61) lf_9_42 w3491 g0 sh_42 (by decide) (by decide) ty_42_30 rfl rfl (fun r3523 q3524 g3525 => ?_))
                    refine wp_of e261 c261_61 (rw_iload (pc' := 63) (z := v3486) rfl rfl ?_)
                    refine wp_of e261 c261_63 (xa_I (so := 0) (pc' := 64) w3491 g3525 sh_52 (by decide) (ty_52 _) (by omega) (by omega) rfl (fun b3526 b3527 => ?_))
                    have _kl := KL_at h3496 q3524 (n := h9) (s := (v3486).toNat) (by omega) _c (by omega)
                    have _t9 : H3488 r3523 (v3486.toNat) = ((h9 : Nat) : Int) := by omega
                    have _slw : SL d (xlot d ((h9 : Nat) : Int)) := SL_lot _xw.1 (by omega) (by omega)
                    have k3528 : H3488 r0 3 = H2954 r0 3 := (f3492 r0 3 _ g0 rfl)
                    have q3529 : H3488 r0 3 = (r2980 : Int) := k3528.trans q2981
                    have h3530 : RB T H3488 r0 e d := (RB_fr w2958 g0 f3492 rfl h2983)
                    refine wp_of e261 c261_64 (xc_V (pc' := 67) (r := r0) (as := [vI (H3488 r3523 (v3486.toNat))]) (st := []) (lm_9_425) rfl rfl (Nat.le_of_ble_eq_true rfl) w3491 g0 sh_42 (by decide) rfl (by decide) (u_243 (e := e) (d := d) w3491 g0 ⟨by omega, by omega⟩ q3529 g2982 (by omega) h3530) (fun R3531 T3532 H3533 p3534 => ?_))
                    obtain ⟨e3535, w3537, f3538, e3536, p3539⟩ := p3534
                    subst e3535
                    subst e3536
                    have f3541 := f3501.tr f3538 rfl
                    have f3542 := f3492.tr f3538 rfl
                    show wp _ _ 261 67 [(5, vI v3486), (4, vI v3487), (0, .ref r0), (1, vI a1), (2, vI a2)] [] _ H3533 _
                    have h3543 : LQ27 T H3533 r0 0 (d 0 3) (xlot d ((h9 : Nat) : Int)) := by rw [← _t9]; exact p3539
                    refine wp_of e261 c261_67 (rw_aload_n (pc' := 68) (v := .ref r0) rfl rfl rfl ?_)
                    refine wp_of e261 c261_68 (xg_R (pc' := 71) lf_9_30 w3537 g0 sh_42 (by decide) (by decide) ty_42_24 rfl rfl (fun r3544 q3545 g3546 => ?_))
                    refine wp_of e261 c261_71 (rw_bipush (pc' := 73) (z := 40) rfl (by decide) ?_)
                    refine wp_of e261 c261_73 (rw_iload_n (pc' := 74) (z := a1) rfl rfl ?_)
                    have _sxa1 := _slw (a1).toNat (by omega)
                    refine wp_of e261 c261_74 (rw_imul (pc' := 75) rfl ?_)
                    refine wp_of e261 c261_75 (rw_aload_n (pc' := 76) (v := .ref r0) rfl rfl rfl ?_)
                    refine wp_of e261 c261_76 (xg_R (pc' := 79) lf_9_39 w3537 g0 sh_42 (by decide) (by decide) ty_42_27 rfl rfl (fun r3547 q3548 g3549 => ?_))
                    refine wp_of e261 c261_79 (rw_iload_n (pc' := 80) (z := a1) rfl rfl ?_)
                    refine wp_of e261 c261_80 (xa_I (so := 0) (pc' := 81) w3537 g3549 sh_51 (by decide) (ty_51 _) (by omega) (by omega) rfl (fun b3550 b3551 => ?_))
                    have := LR_at h3543 q3548 (k := (a1.toNat)) (by omega) (by omega)
                    refine wp_of e261 c261_81 (rw_iadd (pc' := 82) rfl ?_)
                    have h3552 : LB24 T H3533 r0 (xas d) (xsq d) := (LB24_fr w3491 g0 f3538 rfl (LB24_fr w2958 g0 f3492 rfl h2985))
                    have _sx := _slw (a1).toNat (by omega)
                    have _lx := LB_x h3552 q3545 (k := (a1).toNat) (i := (xlot d ((h9 : Nat) : Int) (a1).toNat).toNat) (s := ((40 * a1) + (H3533 r3547 (a1.toNat))).toNat) (by omega) (by omega) (by omega) _pk (by omega)
                    have _x : xas d (a1).toNat ((xsp d (a1).toNat).getD (xlot d ((h9 : Nat) : Int) (a1).toNat).toNat (0, 0)) = xsb d (xlot d ((h9 : Nat) : Int)) (a1).toNat := rfl
                    refine wp_of e261 c261_82 (xa_I (so := 0) (pc' := 83) w3537 g3546 sh_48 (by decide) (ty_48 _) (by omega) (by omega) rfl (fun b3553 b3554 => ?_))
                    have _hv := hb_and (b := xsb d (xlot d ((h9 : Nat) : Int)) (a1).toNat) (h := (a2).toNat) (by have := @xsb_b d (xlot d ((h9 : Nat) : Int)) (a1).toNat; omega) (by omega)
                    rw [Int.toNat_of_nonneg (by omega : 0 ≤ a2), ← (show H3533 r3544 (((40 * a1) + (H3533 r3547 (a1.toNat))).toNat) = xsb d (xlot d ((h9 : Nat) : Int)) (a1).toNat by omega)] at _hv
                    have _hw : hb (xsb d (xlot d ((h9 : Nat) : Int)) (a1).toNat) (a2).toNat = hb (H3533 r3544 (((40 * a1) + (H3533 r3547 (a1.toNat))).toNat)) (a2).toNat := by rw [show H3533 r3544 (((40 * a1) + (H3533 r3547 (a1.toNat))).toNat) = xsb d (xlot d ((h9 : Nat) : Int)) (a1).toNat by omega]
                    have _hc := @hb_b (H3533 r3544 (((40 * a1) + (H3533 r3547 (a1.toNat))).toNat)) (a2).toNat
                    refine wp_of e261 c261_83 (rw_iload_n (pc' := 84) (z := a2) rfl rfl ?_)
                    refine wp_of e261 c261_84 (xc_S (pc' := 87) (as := [vI (H3533 r3544 (((40 * a1) + (H3533 r3547 (a1.toNat))).toNat)), vI a2]) (st := []) (lm_9_346) rfl rfl (Nat.le_of_ble_eq_true rfl) rfl (by decide) (u_205  w3537 ⟨by omega, by omega⟩ ⟨by omega, by omega⟩) (fun R3555 T3556 H3557 p3558 => ?_))
                    obtain ⟨e3559, e3561, z3562, e3560, b3563, p3564⟩ := p3558
                    subst e3559
                    subst e3560
                    subst e3561
                    rcases p3564 with ⟨a3565, a3566⟩ | ⟨a3567, a3568⟩
                    · show wp _ _ 261 87 [(5, vI v3486), (4, vI v3487), (0, .ref r0), (1, vI a1), (2, vI a2)] [vI z3562] _ H3533 _
                      refine wp_of e261 c261_87 (rw_if_eq (p1 := 104) (p2 := 90) (by decide) rfl ⟨by omega, by omega⟩ (fun c3569 => ?_) (fun c3569 => ?_))
                      · exfalso
                        omega
                      · refine wp_of e261 c261_90 (rw_iload (pc' := 92) (z := v3487) rfl rfl ?_)
                        refine wp_of e261 c261_92 (rw_aload_n (pc' := 93) (v := .ref r0) rfl rfl rfl ?_)
                        refine wp_of e261 c261_93 (rw_aload_n (pc' := 94) (v := .ref r0) rfl rfl rfl ?_)
                        refine wp_of e261 c261_94 (xg_K (pc' := 97) lf_9_39 w3537 g0 sh_42 (by decide) (by decide) rfl q3548 rfl ?_)
                        have h3570 : RR T H3533 r3547 (d 0 3) (xlot d ((h9 : Nat) : Int)) := RR_27 h3543 q3548 g3549 (by omega)
                        refine wp_of e261 c261_97 (rw_iload_n (pc' := 98) (z := a2) rfl rfl ?_)
                        have k3571 : H3533 r0 3 = H3488 r0 3 := (f3538 r0 3 _ g0 rfl)
                        have q3572 : H3533 r0 3 = (r2980 : Int) := k3571.trans q3529
                        have h3573 : RB T H3533 r0 e d := (RB_fr w3491 g0 f3538 rfl h3530)
                        refine wp_of e261 c261_98 (xc_V (pc' := 101) (r := r0) (as := [.ref r3547, vI a2]) (st := [vI v3487]) (lm_9_455) rfl rfl (Nat.le_of_ble_eq_true rfl) w3537 g0 sh_42 (by decide) rfl (by decide) (u_262 (e := e) (d := d) (g := ((xlot d ((h9 : Nat) : Int)))) w3537 g0 g3549 ⟨by omega, by omega⟩ q3572 g2982 (by assumption) (by assumption) h3573 h3570) (fun R3574 T3575 H3576 p3577 => ?_))
                        obtain ⟨e3578, e3580, z3581, e3579, b3582, p3583⟩ := p3577
                        subst e3578
                        subst e3579
                        subst e3580
                        show wp _ _ 261 101 [(5, vI v3486), (4, vI v3487), (0, .ref r0), (1, vI a1), (2, vI a2)] [vI z3581, vI v3487] _ H3533 _
                        refine wp_of e261 c261_101 (rw_ior (pc' := 102) rfl ?_)
                        obtain ⟨v3585, e3586⟩ : ∃ x : Int, x = wq_or v3487 z3581 := ⟨_, rfl⟩
                        rw [← e3586]
                        have b3587 : 0 ≤ v3585 ∧ v3585 ≤ 16777215 := by
                          rw [e3586]
                          exact wq_or_24 ⟨by omega, by omega⟩ ⟨by omega, by omega⟩
                        refine wp_of e261 c261_102 (rw_istore (pc' := 104) (z := v3585) (L' := [(4, vI v3585), (5, vI v3486), (0, .ref r0), (1, vI a1), (2, vI a2)]) rfl rfl rfl ?_)
                        have _gp : wfd (xwf e d) (fun n x => if hb (xsb d (xlot d ((n : Nat) : Int)) (a1).toNat) (a2).toNat = 1 then wq_or x (xpa d (xlot d ((n : Nat) : Int)) (a2).toNat) else x) 0 h9 = v3487 := by
                          rw [wfd_gap _a _f]
                          exact (‹v3487 = wfd (xwf e d) (fun n x => if hb (xsb d (xlot d ((n : Nat) : Int)) (a1).toNat) (a2).toNat = 1 then wq_or x (xpa d (xlot d ((n : Nat) : Int)) (a2).toNat) else x) 0 u3489›).symm
                        have _q : v3585 = wfd (xwf e d) (fun n x => if hb (xsb d (xlot d ((n : Nat) : Int)) (a1).toNat) (a2).toNat = 1 then wq_or x (xpa d (xlot d ((n : Nat) : Int)) (a2).toNat) else x) 0 (h9 + 1) := by
                          rw [wfd_y _c, _gp]
                          show v3585 = (if hb (xsb d (xlot d ((h9 : Nat) : Int)) (a1).toNat) (a2).toNat = 1 then wq_or v3487 (xpa d (xlot d ((h9 : Nat) : Int)) (a2).toNat) else v3487)
                          rw [if_pos (by omega), e3586]
                          exact congrArg _ (by assumption)
                        refine wp_of e261 c261_104 (rw_iinc (pc' := 107) (z := v3486) (L' := [(5, vI (v3486 + 1)), (4, vI v3585), (0, .ref r0), (1, vI a1), (2, vI a2)]) rfl rfl rfl rfl ?_)
                        refine wp_of e261 c261_107 (rw_goto (p1 := 47) (by decide) ?_)
                        have k3588 : H3533 r0 29 = H3488 r0 29 := (f3538 r0 29 _ g0 rfl)
                        have h3589 : KL T H3533 r0 (xwf e d) (xlots d).toNat := (KL_fr w3491 g0 f3538 rfl h3496)
                        exact wp_lc (ks := [5, 4, 0, 1, 2]) (wl_c rfl (wl_c rfl (wl_c rfl (wl_c rfl (wl_c rfl wl_n))))) rfl (by decide) (ih3485 _ (by omega) (v3486 + 1) v3585 H3533 ((h9 + 1)) w3537 f3542 ⟨by omega, by omega⟩ ⟨by omega, by omega⟩ h3589 (by omega) (by omega) (by omega) (_q) rfl)
                    · show wp _ _ 261 87 [(5, vI v3486), (4, vI v3487), (0, .ref r0), (1, vI a1), (2, vI a2)] [vI z3562] _ H3533 _
                      refine wp_of e261 c261_87 (rw_if_eq (p1 := 104) (p2 := 90) (by decide) rfl ⟨by omega, by omega⟩ (fun c3590 => ?_) (fun c3590 => ?_))
                      · have _gp : wfd (xwf e d) (fun n x => if hb (xsb d (xlot d ((n : Nat) : Int)) (a1).toNat) (a2).toNat = 1 then wq_or x (xpa d (xlot d ((n : Nat) : Int)) (a2).toNat) else x) 0 h9 = v3487 := by
                          rw [wfd_gap _a _f]
                          exact (‹v3487 = wfd (xwf e d) (fun n x => if hb (xsb d (xlot d ((n : Nat) : Int)) (a1).toNat) (a2).toNat = 1 then wq_or x (xpa d (xlot d ((n : Nat) : Int)) (a2).toNat) else x) 0 u3489›).symm
                        have _q : v3487 = wfd (xwf e d) (fun n x => if hb (xsb d (xlot d ((n : Nat) : Int)) (a1).toNat) (a2).toNat = 1 then wq_or x (xpa d (xlot d ((n : Nat) : Int)) (a2).toNat) else x) 0 (h9 + 1) := by
                          rw [wfd_y _c, _gp]
                          show v3487 = (if hb (xsb d (xlot d ((h9 : Nat) : Int)) (a1).toNat) (a2).toNat = 1 then wq_or v3487 (xpa d (xlot d ((h9 : Nat) : Int)) (a2).toNat) else v3487)
                          rw [if_neg (by omega)]
                        refine wp_of e261 c261_104 (rw_iinc (pc' := 107) (z := v3486) (L' := [(5, vI (v3486 + 1)), (4, vI v3487), (0, .ref r0), (1, vI a1), (2, vI a2)]) rfl rfl rfl rfl ?_)
                        refine wp_of e261 c261_107 (rw_goto (p1 := 47) (by decide) ?_)
                        have k3591 : H3533 r0 29 = H3488 r0 29 := (f3538 r0 29 _ g0 rfl)
                        have h3592 : KL T H3533 r0 (xwf e d) (xlots d).toNat := (KL_fr w3491 g0 f3538 rfl h3496)
                        exact wp_lc (ks := [5, 4, 0, 1, 2]) (wl_c rfl (wl_c rfl (wl_c rfl (wl_c rfl (wl_c rfl wl_n))))) rfl (by decide) (ih3485 _ (by omega) (v3486 + 1) v3487 H3533 ((h9 + 1)) w3537 f3542 ⟨by omega, by omega⟩ ⟨by omega, by omega⟩ h3592 (by omega) (by omega) (by omega) (_q) rfl)
                      · exfalso
                        omega
              exact wp_lc (ks := [5, 4, 3, 0, 1, 2]) (wl_c rfl (wl_c rfl (wl_c rfl (wl_c rfl (wl_c rfl wl_n))))) rfl (by decide) (lp3483 _ 0 0 H2954 0 w2958 wfr.rf ⟨by omega, by omega⟩ ⟨by omega, by omega⟩ h2984 (by omega) (by omega) (rfl) (rfl) rfl)
            · exfalso
              omega
          · have f3593 := f2916.tr f2959 rfl
            show wp _ _ 261 30 [(0, .ref r0), (1, vI a1), (2, vI a2)] [vI z2960] _ H2954 _
            refine wp_of e261 c261_30 (rw_istore_n (pc' := 31) (z := z2960) (L' := [(3, vI z2960), (0, .ref r0), (1, vI a1), (2, vI a2)]) rfl rfl rfl ?_)
            refine wp_of e261 c261_31 (rw_iload_n (pc' := 32) (z := z2960) rfl rfl ?_)
            refine wp_of e261 c261_32 (rw_if_le (p1 := 41) (p2 := 35) (by decide) rfl ⟨by omega, by omega⟩ (fun c3594 => ?_) (fun c3594 => ?_))
            · exfalso
              omega
            · refine wp_of e261 c261_35 (rw_aload_n (pc' := 36) (v := .ref r0) rfl rfl rfl ?_)
              refine wp_of e261 c261_36 (rw_iload_n (pc' := 37) (z := z2960) rfl rfl ?_)
              refine wp_of e261 c261_37 (xc_V (pc' := 40) (r := r0) (as := [vI z2960]) (st := []) (lm_9_54) rfl rfl (Nat.le_of_ble_eq_true rfl) w2958 g0 sh_42 (by decide) rfl (by decide) (u_170  w2958 g0 ⟨by omega, by omega⟩) (fun R3595 T3596 H3597 p3598 => ?_))
              obtain ⟨e3599, w3601, f3602, z3603, e3600, b3604, p3605⟩ := p3598
              subst e3599
              subst e3600
              obtain ⟨a3606, a3607, a3608⟩ := p3605
              have f3609 := f3593.tr f3602 rfl
              show wp _ _ 261 40 [(3, vI z2960), (0, .ref r0), (1, vI a1), (2, vI a2)] [vI z3603] _ H3597 _
              have k3610 : wKI H3597 r0 = wKI H2954 r0 := (wKI_fr w2958 g0 f3602 rfl)
              have h3611 : KNN T H3597 r0 e d := (KNN_fr w2958 g0 f3602 rfl a2978)
              exact wp_ireturn e261 c261_40 rfl ⟨rfl, w3601, f3609, z3603, rfl, ⟨by omega, by omega⟩, (Or.inl ⟨by omega, by omega, by omega, h3611⟩)⟩
      · show wp _ _ 261 19 [(0, .ref r0), (1, vI a1), (2, vI a2)] [vI z2941, .ref r0] _ H2913 _
        refine wp_of e261 c261_19 (rw_if_eq (p1 := 26) (p2 := 22) (by decide) rfl ⟨by omega, by omega⟩ (fun c3612 => ?_) (fun c3612 => ?_))
        · refine wp_of e261 c261_26 (rw_iconst (pc' := 27) rfl ?_)
          have k3613 : H2913 r0 3 = H r0 3 := (wq_u_j e2914 rfl)
          have k3614 : wKI H2913 r0 = wKI H r0 := (wKI_fr hW g0 ((wfr.rf (l := [(42, 0)])).put' e2914 g0 rfl) rfl)
          have h3615 : KNN T H2913 r0 e d := (KNN_fr hW g0 ((wfr.rf (l := [(42, 0)])).put' e2914 g0 rfl) rfl hKNN_r0)
          refine wp_of e261 c261_27 (xc_V (pc' := 30) (r := r0) (as := [vI 0]) (st := []) (lm_9_433) rfl rfl (Nat.le_of_ble_eq_true rfl) w2915 g0 sh_42 (by decide) rfl (by decide) (u_241 (e := e) (d := d) w2915 g0 ⟨by omega, by omega⟩ (by omega) (by omega) (by assumption) (by assumption) (by assumption) (by assumption) h2918 h3615) (fun R3616 T3617 H3618 p3619 => ?_))
          obtain ⟨e3620, w3622, f3623, z3624, e3621, b3625, p3626⟩ := p3619
          subst e3620
          subst e3621
          rcases p3626 with ⟨a3627, a3628, a3629, a3630, a3631, a3632, a3633, a3634, a3635⟩ | ⟨a3636, a3637, a3638, a3639, a3640, a3641, a3642⟩
          · have f3643 := f2916.tr f3623 rfl
            show wp _ _ 261 30 [(0, .ref r0), (1, vI a1), (2, vI a2)] [vI z3624] _ H3618 _
            refine wp_of e261 c261_30 (rw_istore_n (pc' := 31) (z := z3624) (L' := [(3, vI z3624), (0, .ref r0), (1, vI a1), (2, vI a2)]) rfl rfl rfl ?_)
            refine wp_of e261 c261_31 (rw_iload_n (pc' := 32) (z := z3624) rfl rfl ?_)
            obtain ⟨r3644, q3645, g3646⟩ := (w3622.opt g0 (t' := 54) (n := 33) (j := 3) (p := 0) (q := 0) rfl (by decide) rfl).resolve_left (by omega)
            have h3647 : RB T H3618 r0 e d := (RB_fr w2915 g0 f3623 rfl h2918)
            have _kbb := a3635
            have _kb := _kbb.1
            have _n3 : H3618 r0 3 ≠ -1 := by omega
            have _rp := RB_at h3647 q3645
            have _k := RP_k _rp
            have _nb := xcn_b (f := xwf e d) (xlots d).toNat
            have h3648 : KL T H3618 r0 (xwf e d) (xlots d).toNat := _kbb.2
            have _ar := RB_ar h3647 (by omega)
            have _pk := _ar.1
            have h3649 : LB24 T H3618 r0 (xas d) (xsq d) := _ar.2.2.2.2.2.2.1
            refine wp_of e261 c261_32 (rw_if_le (p1 := 41) (p2 := 35) (by decide) rfl ⟨by omega, by omega⟩ (fun c3650 => ?_) (fun c3650 => ?_))
            · refine wp_of e261 c261_41 (rw_iconst (pc' := 42) rfl ?_)
              refine wp_of e261 c261_42 (rw_istore (pc' := 44) (z := 0) (L' := [(4, vI 0), (3, vI z3624), (0, .ref r0), (1, vI a1), (2, vI a2)]) rfl rfl rfl ?_)
              refine wp_of e261 c261_44 (rw_iconst (pc' := 45) rfl ?_)
              refine wp_of e261 c261_45 (rw_istore (pc' := 47) (z := 0) (L' := [(5, vI 0), (4, vI 0), (3, vI z3624), (0, .ref r0), (1, vI a1), (2, vI a2)]) rfl rfl rfl ?_)
              have b4154 : 0 ≤ H3618 r0 29 ∧ H3618 r0 29 ≤ 20000 := w3622.box g0 (n := 33) rfl (by decide) rfl
              have lp4147 : ∀ (n4148 : Nat) (v4150 : Int) (v4151 : Int) (H4152 : wq_H) (u4153 : Nat), WT T H4152 → wfr [(51, 999)] T H3618 H4152 → (0 ≤ v4150 ∧ v4150 ≤ 20000) → (0 ≤ v4151 ∧ v4151 ≤ 16777215) → KL T H4152 r0 (xwf e d) (xlots d).toNat → (v4150 ≤ H4152 r0 29) → (u4153 ≤ (xlots d).toNat) → (xcn (xwf e d) u4153 = v4150) → (v4151 = wfd (xwf e d) (fun n x => if hb (xsb d (xlot d ((n : Nat) : Int)) (a1).toNat) (a2).toNat = 1 then wq_or x (xpa d (xlot d ((n : Nat) : Int)) (a2).toNat) else x) 0 u4153) → (20000 - v4150).toNat = n4148 → wp kt 7 261 47 [(5, vI v4150), (4, vI v4151), (0, .ref r0), (1, vI a1), (2, vI a2)] [] T H4152 (uq_261 r0 a1 a2 e d T H) := by
                intro n4148
                induction n4148 using Nat.strongRecOn with
                | _ n4148 ih4149 =>
                  intro v4150 v4151 H4152 u4153 w4155 f4156 b4157 b4158 h4160 x4161 x4162 x4163 x4164 m4159
                  have f4165 := f3643.tr f4156 rfl
                  have k4166 : H4152 r0 29 = H3618 r0 29 := (f4156 r0 29 _ g0 rfl)
                  refine wp_of e261 c261_47 (rw_iload (pc' := 49) (z := v4150) rfl rfl ?_)
                  refine wp_of e261 c261_49 (rw_aload_n (pc' := 50) (v := .ref r0) rfl rfl rfl ?_)
                  refine wp_of e261 c261_50 (xg_I (pc' := 53) lf_9_422 w4155 g0 sh_42 (by decide) (by decide) ty_42_29 rfl rfl (fun b4167 b4168 => ?_))
                  refine wp_of e261 c261_53 (rw_icmp_ge (p1 := 110) (p2 := 56) (by decide) rfl ⟨by omega, by omega⟩ ⟨by omega, by omega⟩ (fun c4169 => ?_) (fun c4169 => ?_))
                  · refine wp_of e261 c261_110 (rw_aload_n (pc' := 111) (v := .ref r0) rfl rfl rfl ?_)
                    refine wp_of e261 c261_111 (rw_iload (pc' := 113) (z := v4151) rfl rfl ?_)
                    refine wp_of e261 c261_113 (xc_V (pc' := 116) (r := r0) (as := [vI v4151]) (st := []) (lm_9_58) rfl rfl (Nat.le_of_ble_eq_true rfl) w4155 g0 sh_42 (by decide) rfl (by decide) (u_209  w4155 g0 ⟨by omega, by omega⟩) (fun R4170 T4171 H4172 p4173 => ?_))
                    obtain ⟨e4174, w4176, f4177, z4178, e4175, b4179, p4180⟩ := p4173
                    subst e4174
                    subst e4175
                    obtain ⟨a4181, a4182, a4183⟩ := p4180
                    have f4184 := f4165.tr f4177 rfl
                    show wp _ _ 261 116 [(5, vI v4150), (4, vI v4151), (0, .ref r0), (1, vI a1), (2, vI a2)] [vI z4178] _ H4172 _
                    have k4185 : wKI H4172 r0 = wKI H3618 r0 := ((wKI_fr w4155 g0 f4177 rfl).trans (wKI_fr w3622 g0 f4156 rfl))
                    have h4186 : KNN T H4172 r0 e d := (KNN_fr w4155 g0 f4177 rfl (KNN_fr w3622 g0 f4156 rfl a3634))
                    exact wp_ireturn e261 c261_116 rfl ⟨rfl, w4176, f4184, z4178, rfl, ⟨by omega, by omega⟩, (Or.inr ⟨by omega, by omega, by
                      show _ = wfd (xwf e d) (fun n x => if hb (xsb d (xlot d ((n : Nat) : Int)) (a1).toNat) (a2).toNat = 1 then wq_or x (xpa d (xlot d ((n : Nat) : Int)) (a2).toNat) else x) 0 (xlots d).toNat
                      rw [wfd_end (u := u4153) (by omega) (by omega)]
                      assumption, h4186⟩)⟩
                  · obtain ⟨h9, _a, _b, _c, _e, _f⟩ := xcn_nx (f := xwf e d) (u := u4153) (xlots d).toNat (by omega) (by omega)
                    have _n9 : xcn (xwf e d) (h9 + 1) = xcn (xwf e d) h9 + 1 := by
                      show xcn (xwf e d) h9 + (if xwf e d h9 > 0 then 1 else 0) = _
                      rw [if_pos _c]
                    refine wp_of e261 c261_56 (rw_aload_n (pc' := 57) (v := .ref r0) rfl rfl rfl ?_)
                    refine wp_of e261 c261_57 (rw_aload_n (pc' := 58) (v := .ref r0) rfl rfl rfl ?_)
                    refine wp_of e261 c261_58 (xg_R (pc' := 61) lf_9_42 w4155 g0 sh_42 (by decide) (by decide) ty_42_30 rfl rfl (fun r4187 q4188 g4189 => ?_))
                    refine wp_of e261 c261_61 (rw_iload (pc' := 63) (z := v4150) rfl rfl ?_)
                    refine wp_of e261 c261_63 (xa_I (so := 0) (pc' := 64) w4155 g4189 sh_52 (by decide) (ty_52 _) (by omega) (by omega) rfl (fun b4190 b4191 => ?_))
                    have _kl := KL_at h4160 q4188 (n := h9) (s := (v4150).toNat) (by omega) _c (by omega)
                    have _t9 : H4152 r4187 (v4150.toNat) = ((h9 : Nat) : Int) := by omega
                    have _slw : SL d (xlot d ((h9 : Nat) : Int)) := SL_lot _xw.1 (by omega) (by omega)
                    have k4192 : H4152 r0 3 = H3618 r0 3 := (f4156 r0 3 _ g0 rfl)
                    have q4193 : H4152 r0 3 = (r3644 : Int) := k4192.trans q3645
                    have h4194 : RB T H4152 r0 e d := (RB_fr w3622 g0 f4156 rfl h3647)
                    refine wp_of e261 c261_64 (xc_V (pc' := 67) (r := r0) (as := [vI (H4152 r4187 (v4150.toNat))]) (st := []) (lm_9_425) rfl rfl (Nat.le_of_ble_eq_true rfl) w4155 g0 sh_42 (by decide) rfl (by decide) (u_243 (e := e) (d := d) w4155 g0 ⟨by omega, by omega⟩ q4193 g3646 (by omega) h4194) (fun R4195 T4196 H4197 p4198 => ?_))
                    obtain ⟨e4199, w4201, f4202, e4200, p4203⟩ := p4198
                    subst e4199
                    subst e4200
                    have f4205 := f4165.tr f4202 rfl
                    have f4206 := f4156.tr f4202 rfl
                    show wp _ _ 261 67 [(5, vI v4150), (4, vI v4151), (0, .ref r0), (1, vI a1), (2, vI a2)] [] _ H4197 _
                    have h4207 : LQ27 T H4197 r0 0 (d 0 3) (xlot d ((h9 : Nat) : Int)) := by rw [← _t9]; exact p4203
                    refine wp_of e261 c261_67 (rw_aload_n (pc' := 68) (v := .ref r0) rfl rfl rfl ?_)
                    refine wp_of e261 c261_68 (xg_R (pc' := 71) lf_9_30 w4201 g0 sh_42 (by decide) (by decide) ty_42_24 rfl rfl (fun r4208 q4209 g4210 => ?_))
                    refine wp_of e261 c261_71 (rw_bipush (pc' := 73) (z := 40) rfl (by decide) ?_)
                    refine wp_of e261 c261_73 (rw_iload_n (pc' := 74) (z := a1) rfl rfl ?_)
                    have _sxa1 := _slw (a1).toNat (by omega)
                    refine wp_of e261 c261_74 (rw_imul (pc' := 75) rfl ?_)
                    refine wp_of e261 c261_75 (rw_aload_n (pc' := 76) (v := .ref r0) rfl rfl rfl ?_)
                    refine wp_of e261 c261_76 (xg_R (pc' := 79) lf_9_39 w4201 g0 sh_42 (by decide) (by decide) ty_42_27 rfl rfl (fun r4211 q4212 g4213 => ?_))
                    refine wp_of e261 c261_79 (rw_iload_n (pc' := 80) (z := a1) rfl rfl ?_)
                    refine wp_of e261 c261_80 (xa_I (so := 0) (pc' := 81) w4201 g4213 sh_51 (by decide) (ty_51 _) (by omega) (by omega) rfl (fun b4214 b4215 => ?_))
                    have := LR_at h4207 q4212 (k := (a1.toNat)) (by omega) (by omega)
                    refine wp_of e261 c261_81 (rw_iadd (pc' := 82) rfl ?_)
                    have h4216 : LB24 T H4197 r0 (xas d) (xsq d) := (LB24_fr w4155 g0 f4202 rfl (LB24_fr w3622 g0 f4156 rfl h3649))
                    have _sx := _slw (a1).toNat (by omega)
                    have _lx := LB_x h4216 q4209 (k := (a1).toNat) (i := (xlot d ((h9 : Nat) : Int) (a1).toNat).toNat) (s := ((40 * a1) + (H4197 r4211 (a1.toNat))).toNat) (by omega) (by omega) (by omega) _pk (by omega)
                    have _x : xas d (a1).toNat ((xsp d (a1).toNat).getD (xlot d ((h9 : Nat) : Int) (a1).toNat).toNat (0, 0)) = xsb d (xlot d ((h9 : Nat) : Int)) (a1).toNat := rfl
                    refine wp_of e261 c261_82 (xa_I (so := 0) (pc' := 83) w4201 g4210 sh_48 (by decide) (ty_48 _) (by omega) (by omega) rfl (fun b4217 b4218 => ?_))
                    have _hv := hb_and (b := xsb d (xlot d ((h9 : Nat) : Int)) (a1).toNat) (h := (a2).toNat) (by have := @xsb_b d (xlot d ((h9 : Nat) : Int)) (a1).toNat; omega) (by omega)
                    rw [Int.toNat_of_nonneg (by omega : 0 ≤ a2), ← (show H4197 r4208 (((40 * a1) + (H4197 r4211 (a1.toNat))).toNat) = xsb d (xlot d ((h9 : Nat) : Int)) (a1).toNat by omega)] at _hv
                    have _hw : hb (xsb d (xlot d ((h9 : Nat) : Int)) (a1).toNat) (a2).toNat = hb (H4197 r4208 (((40 * a1) + (H4197 r4211 (a1.toNat))).toNat)) (a2).toNat := by rw [show H4197 r4208 (((40 * a1) + (H4197 r4211 (a1.toNat))).toNat) = xsb d (xlot d ((h9 : Nat) : Int)) (a1).toNat by omega]
                    have _hc := @hb_b (H4197 r4208 (((40 * a1) + (H4197 r4211 (a1.toNat))).toNat)) (a2).toNat
                    refine wp_of e261 c261_83 (rw_iload_n (pc' := 84) (z := a2) rfl rfl ?_)
                    refine wp_of e261 c261_84 (xc_S (pc' := 87) (as := [vI (H4197 r4208 (((40 * a1) + (H4197 r4211 (a1.toNat))).toNat)), vI a2]) (st := []) (lm_9_346) rfl rfl (Nat.le_of_ble_eq_true rfl) rfl (by decide) (u_205  w4201 ⟨by omega, by omega⟩ ⟨by omega, by omega⟩) (fun R4219 T4220 H4221 p4222 => ?_))
                    obtain ⟨e4223, e4225, z4226, e4224, b4227, p4228⟩ := p4222
                    subst e4223
                    subst e4224
                    subst e4225
                    rcases p4228 with ⟨a4229, a4230⟩ | ⟨a4231, a4232⟩
                    · show wp _ _ 261 87 [(5, vI v4150), (4, vI v4151), (0, .ref r0), (1, vI a1), (2, vI a2)] [vI z4226] _ H4197 _
                      refine wp_of e261 c261_87 (rw_if_eq (p1 := 104) (p2 := 90) (by decide) rfl ⟨by omega, by omega⟩ (fun c4233 => ?_) (fun c4233 => ?_))
                      · exfalso
                        omega
                      · refine wp_of e261 c261_90 (rw_iload (pc' := 92) (z := v4151) rfl rfl ?_)
                        refine wp_of e261 c261_92 (rw_aload_n (pc' := 93) (v := .ref r0) rfl rfl rfl ?_)
                        refine wp_of e261 c261_93 (rw_aload_n (pc' := 94) (v := .ref r0) rfl rfl rfl ?_)
                        refine wp_of e261 c261_94 (xg_K (pc' := 97) lf_9_39 w4201 g0 sh_42 (by decide) (by decide) rfl q4212 rfl ?_)
                        have h4234 : RR T H4197 r4211 (d 0 3) (xlot d ((h9 : Nat) : Int)) := RR_27 h4207 q4212 g4213 (by omega)
                        refine wp_of e261 c261_97 (rw_iload_n (pc' := 98) (z := a2) rfl rfl ?_)
                        have k4235 : H4197 r0 3 = H4152 r0 3 := (f4202 r0 3 _ g0 rfl)
                        have q4236 : H4197 r0 3 = (r3644 : Int) := k4235.trans q4193
                        have h4237 : RB T H4197 r0 e d := (RB_fr w4155 g0 f4202 rfl h4194)
                        refine wp_of e261 c261_98 (xc_V (pc' := 101) (r := r0) (as := [.ref r4211, vI a2]) (st := [vI v4151]) (lm_9_455) rfl rfl (Nat.le_of_ble_eq_true rfl) w4201 g0 sh_42 (by decide) rfl (by decide) (u_262 (e := e) (d := d) (g := ((xlot d ((h9 : Nat) : Int)))) w4201 g0 g4213 ⟨by omega, by omega⟩ q4236 g3646 (by assumption) (by assumption) h4237 h4234) (fun R4238 T4239 H4240 p4241 => ?_))
                        obtain ⟨e4242, e4244, z4245, e4243, b4246, p4247⟩ := p4241
                        subst e4242
                        subst e4243
                        subst e4244
                        show wp _ _ 261 101 [(5, vI v4150), (4, vI v4151), (0, .ref r0), (1, vI a1), (2, vI a2)] [vI z4245, vI v4151] _ H4197 _
                        refine wp_of e261 c261_101 (rw_ior (pc' := 102) rfl ?_)
                        obtain ⟨v4249, e4250⟩ : ∃ x : Int, x = wq_or v4151 z4245 := ⟨_, rfl⟩
                        rw [← e4250]
                        have b4251 : 0 ≤ v4249 ∧ v4249 ≤ 16777215 := by
                          rw [e4250]
                          exact wq_or_24 ⟨by omega, by omega⟩ ⟨by omega, by omega⟩
                        refine wp_of e261 c261_102 (rw_istore (pc' := 104) (z := v4249) (L' := [(4, vI v4249), (5, vI v4150), (0, .ref r0), (1, vI a1), (2, vI a2)]) rfl rfl rfl ?_)
                        have _gp : wfd (xwf e d) (fun n x => if hb (xsb d (xlot d ((n : Nat) : Int)) (a1).toNat) (a2).toNat = 1 then wq_or x (xpa d (xlot d ((n : Nat) : Int)) (a2).toNat) else x) 0 h9 = v4151 := by
                          rw [wfd_gap _a _f]
                          exact (‹v4151 = wfd (xwf e d) (fun n x => if hb (xsb d (xlot d ((n : Nat) : Int)) (a1).toNat) (a2).toNat = 1 then wq_or x (xpa d (xlot d ((n : Nat) : Int)) (a2).toNat) else x) 0 u4153›).symm
                        have _q : v4249 = wfd (xwf e d) (fun n x => if hb (xsb d (xlot d ((n : Nat) : Int)) (a1).toNat) (a2).toNat = 1 then wq_or x (xpa d (xlot d ((n : Nat) : Int)) (a2).toNat) else x) 0 (h9 + 1) := by
                          rw [wfd_y _c, _gp]
                          show v4249 = (if hb (xsb d (xlot d ((h9 : Nat) : Int)) (a1).toNat) (a2).toNat = 1 then wq_or v4151 (xpa d (xlot d ((h9 : Nat) : Int)) (a2).toNat) else v4151)
                          rw [if_pos (by omega), e4250]
                          exact congrArg _ (by assumption)
                        refine wp_of e261 c261_104 (rw_iinc (pc' := 107) (z := v4150) (L' := [(5, vI (v4150 + 1)), (4, vI v4249), (0, .ref r0), (1, vI a1), (2, vI a2)]) rfl rfl rfl rfl ?_)
                        refine wp_of e261 c261_107 (rw_goto (p1 := 47) (by decide) ?_)
                        have k4252 : H4197 r0 29 = H4152 r0 29 := (f4202 r0 29 _ g0 rfl)
                        have h4253 : KL T H4197 r0 (xwf e d) (xlots d).toNat := (KL_fr w4155 g0 f4202 rfl h4160)
                        exact wp_lc (ks := [5, 4, 0, 1, 2]) (wl_c rfl (wl_c rfl (wl_c rfl (wl_c rfl (wl_c rfl wl_n))))) rfl (by decide) (ih4149 _ (by omega) (v4150 + 1) v4249 H4197 ((h9 + 1)) w4201 f4206 ⟨by omega, by omega⟩ ⟨by omega, by omega⟩ h4253 (by omega) (by omega) (by omega) (_q) rfl)
                    · show wp _ _ 261 87 [(5, vI v4150), (4, vI v4151), (0, .ref r0), (1, vI a1), (2, vI a2)] [vI z4226] _ H4197 _
                      refine wp_of e261 c261_87 (rw_if_eq (p1 := 104) (p2 := 90) (by decide) rfl ⟨by omega, by omega⟩ (fun c4254 => ?_) (fun c4254 => ?_))
                      · have _gp : wfd (xwf e d) (fun n x => if hb (xsb d (xlot d ((n : Nat) : Int)) (a1).toNat) (a2).toNat = 1 then wq_or x (xpa d (xlot d ((n : Nat) : Int)) (a2).toNat) else x) 0 h9 = v4151 := by
                          rw [wfd_gap _a _f]
                          exact (‹v4151 = wfd (xwf e d) (fun n x => if hb (xsb d (xlot d ((n : Nat) : Int)) (a1).toNat) (a2).toNat = 1 then wq_or x (xpa d (xlot d ((n : Nat) : Int)) (a2).toNat) else x) 0 u4153›).symm
                        have _q : v4151 = wfd (xwf e d) (fun n x => if hb (xsb d (xlot d ((n : Nat) : Int)) (a1).toNat) (a2).toNat = 1 then wq_or x (xpa d (xlot d ((n : Nat) : Int)) (a2).toNat) else x) 0 (h9 + 1) := by
                          rw [wfd_y _c, _gp]
                          show v4151 = (if hb (xsb d (xlot d ((h9 : Nat) : Int)) (a1).toNat) (a2).toNat = 1 then wq_or v4151 (xpa d (xlot d ((h9 : Nat) : Int)) (a2).toNat) else v4151)
                          rw [if_neg (by omega)]
                        refine wp_of e261 c261_104 (rw_iinc (pc' := 107) (z := v4150) (L' := [(5, vI (v4150 + 1)), (4, vI v4151), (0, .ref r0), (1, vI a1), (2, vI a2)]) rfl rfl rfl rfl ?_)
                        refine wp_of e261 c261_107 (rw_goto (p1 := 47) (by decide) ?_)
                        have k4255 : H4197 r0 29 = H4152 r0 29 := (f4202 r0 29 _ g0 rfl)
                        have h4256 : KL T H4197 r0 (xwf e d) (xlots d).toNat := (KL_fr w4155 g0 f4202 rfl h4160)
                        exact wp_lc (ks := [5, 4, 0, 1, 2]) (wl_c rfl (wl_c rfl (wl_c rfl (wl_c rfl (wl_c rfl wl_n))))) rfl (by decide) (ih4149 _ (by omega) (v4150 + 1) v4151 H4197 ((h9 + 1)) w4201 f4206 ⟨by omega, by omega⟩ ⟨by omega, by omega⟩ h4256 (by omega) (by omega) (by omega) (_q) rfl)
                      · exfalso
                        omega
              exact wp_lc (ks := [5, 4, 3, 0, 1, 2]) (wl_c rfl (wl_c rfl (wl_c rfl (wl_c rfl (wl_c rfl wl_n))))) rfl (by decide) (lp4147 _ 0 0 H3618 0 w3622 wfr.rf ⟨by omega, by omega⟩ ⟨by omega, by omega⟩ h3648 (by omega) (by omega) (rfl) (rfl) rfl)
            · exfalso
              omega
          · have f4257 := f2916.tr f3623 rfl
            show wp _ _ 261 30 [(0, .ref r0), (1, vI a1), (2, vI a2)] [vI z3624] _ H3618 _
            refine wp_of e261 c261_30 (rw_istore_n (pc' := 31) (z := z3624) (L' := [(3, vI z3624), (0, .ref r0), (1, vI a1), (2, vI a2)]) rfl rfl rfl ?_)
            refine wp_of e261 c261_31 (rw_iload_n (pc' := 32) (z := z3624) rfl rfl ?_)
            refine wp_of e261 c261_32 (rw_if_le (p1 := 41) (p2 := 35) (by decide) rfl ⟨by omega, by omega⟩ (fun c4258 => ?_) (fun c4258 => ?_))
            · exfalso
              omega
            · refine wp_of e261 c261_35 (rw_aload_n (pc' := 36) (v := .ref r0) rfl rfl rfl ?_)
              refine wp_of e261 c261_36 (rw_iload_n (pc' := 37) (z := z3624) rfl rfl ?_)
              refine wp_of e261 c261_37 (xc_V (pc' := 40) (r := r0) (as := [vI z3624]) (st := []) (lm_9_54) rfl rfl (Nat.le_of_ble_eq_true rfl) w3622 g0 sh_42 (by decide) rfl (by decide) (u_170  w3622 g0 ⟨by omega, by omega⟩) (fun R4259 T4260 H4261 p4262 => ?_))
              obtain ⟨e4263, w4265, f4266, z4267, e4264, b4268, p4269⟩ := p4262
              subst e4263
              subst e4264
              obtain ⟨a4270, a4271, a4272⟩ := p4269
              have f4273 := f4257.tr f4266 rfl
              show wp _ _ 261 40 [(3, vI z3624), (0, .ref r0), (1, vI a1), (2, vI a2)] [vI z4267] _ H4261 _
              have k4274 : wKI H4261 r0 = wKI H3618 r0 := (wKI_fr w3622 g0 f4266 rfl)
              have h4275 : KNN T H4261 r0 e d := (KNN_fr w3622 g0 f4266 rfl a3642)
              exact wp_ireturn e261 c261_40 rfl ⟨rfl, w4265, f4273, z4267, rfl, ⟨by omega, by omega⟩, (Or.inl ⟨by omega, by omega, by omega, h4275⟩)⟩
        · exfalso
          omega
  · show wp _ _ 261 11 [(0, .ref r0), (1, vI a1), (2, vI a2)] [vI z2926, .ref r0] _ H2913 _
    refine wp_of e261 c261_11 (rw_if_eq (p1 := 26) (p2 := 14) (by decide) rfl ⟨by omega, by omega⟩ (fun c4276 => ?_) (fun c4276 => ?_))
    · refine wp_of e261 c261_26 (rw_iconst (pc' := 27) rfl ?_)
      have k4277 : H2913 r0 3 = H r0 3 := (wq_u_j e2914 rfl)
      have k4278 : wKI H2913 r0 = wKI H r0 := (wKI_fr hW g0 ((wfr.rf (l := [(42, 0)])).put' e2914 g0 rfl) rfl)
      have h4279 : KNN T H2913 r0 e d := (KNN_fr hW g0 ((wfr.rf (l := [(42, 0)])).put' e2914 g0 rfl) rfl hKNN_r0)
      refine wp_of e261 c261_27 (xc_V (pc' := 30) (r := r0) (as := [vI 0]) (st := []) (lm_9_433) rfl rfl (Nat.le_of_ble_eq_true rfl) w2915 g0 sh_42 (by decide) rfl (by decide) (u_241 (e := e) (d := d) w2915 g0 ⟨by omega, by omega⟩ (by omega) (by omega) (by assumption) (by assumption) (by assumption) (by assumption) h2918 h4279) (fun R4280 T4281 H4282 p4283 => ?_))
      obtain ⟨e4284, w4286, f4287, z4288, e4285, b4289, p4290⟩ := p4283
      subst e4284
      subst e4285
      rcases p4290 with ⟨a4291, a4292, a4293, a4294, a4295, a4296, a4297, a4298, a4299⟩ | ⟨a4300, a4301, a4302, a4303, a4304, a4305, a4306⟩
      · have f4307 := f2916.tr f4287 rfl
        show wp _ _ 261 30 [(0, .ref r0), (1, vI a1), (2, vI a2)] [vI z4288] _ H4282 _
        refine wp_of e261 c261_30 (rw_istore_n (pc' := 31) (z := z4288) (L' := [(3, vI z4288), (0, .ref r0), (1, vI a1), (2, vI a2)]) rfl rfl rfl ?_)
        refine wp_of e261 c261_31 (rw_iload_n (pc' := 32) (z := z4288) rfl rfl ?_)
        obtain ⟨r4308, q4309, g4310⟩ := (w4286.opt g0 (t' := 54) (n := 33) (j := 3) (p := 0) (q := 0) rfl (by decide) rfl).resolve_left (by omega)
        have h4311 : RB T H4282 r0 e d := (RB_fr w2915 g0 f4287 rfl h2918)
        have _kbb := a4299
        have _kb := _kbb.1
        have _n3 : H4282 r0 3 ≠ -1 := by omega
        have _rp := RB_at h4311 q4309
        have _k := RP_k _rp
        have _nb := xcn_b (f := xwf e d) (xlots d).toNat
        have h4312 : KL T H4282 r0 (xwf e d) (xlots d).toNat := _kbb.2
        have _ar := RB_ar h4311 (by omega)
        have _pk := _ar.1
        have h4313 : LB24 T H4282 r0 (xas d) (xsq d) := _ar.2.2.2.2.2.2.1
        refine wp_of e261 c261_32 (rw_if_le (p1 := 41) (p2 := 35) (by decide) rfl ⟨by omega, by omega⟩ (fun c4314 => ?_) (fun c4314 => ?_))
        · refine wp_of e261 c261_41 (rw_iconst (pc' := 42) rfl ?_)
          refine wp_of e261 c261_42 (rw_istore (pc' := 44) (z := 0) (L' := [(4, vI 0), (3, vI z4288), (0, .ref r0), (1, vI a1), (2, vI a2)]) rfl rfl rfl ?_)
          refine wp_of e261 c261_44 (rw_iconst (pc' := 45) rfl ?_)
          refine wp_of e261 c261_45 (rw_istore (pc' := 47) (z := 0) (L' := [(5, vI 0), (4, vI 0), (3, vI z4288), (0, .ref r0), (1, vI a1), (2, vI a2)]) rfl rfl rfl ?_)
          have b4818 : 0 ≤ H4282 r0 29 ∧ H4282 r0 29 ≤ 20000 := w4286.box g0 (n := 33) rfl (by decide) rfl
          have lp4811 : ∀ (n4812 : Nat) (v4814 : Int) (v4815 : Int) (H4816 : wq_H) (u4817 : Nat), WT T H4816 → wfr [(51, 999)] T H4282 H4816 → (0 ≤ v4814 ∧ v4814 ≤ 20000) → (0 ≤ v4815 ∧ v4815 ≤ 16777215) → KL T H4816 r0 (xwf e d) (xlots d).toNat → (v4814 ≤ H4816 r0 29) → (u4817 ≤ (xlots d).toNat) → (xcn (xwf e d) u4817 = v4814) → (v4815 = wfd (xwf e d) (fun n x => if hb (xsb d (xlot d ((n : Nat) : Int)) (a1).toNat) (a2).toNat = 1 then wq_or x (xpa d (xlot d ((n : Nat) : Int)) (a2).toNat) else x) 0 u4817) → (20000 - v4814).toNat = n4812 → wp kt 7 261 47 [(5, vI v4814), (4, vI v4815), (0, .ref r0), (1, vI a1), (2, vI a2)] [] T H4816 (uq_261 r0 a1 a2 e d T H) := by
            intro n4812
            induction n4812 using Nat.strongRecOn with
            | _ n4812 ih4813 =>
              intro v4814 v4815 H4816 u4817 w4819 f4820 b4821 b4822 h4824 x4825 x4826 x4827 x4828 m4823
              have f4829 := f4307.tr f4820 rfl
              have k4830 : H4816 r0 29 = H4282 r0 29 := (f4820 r0 29 _ g0 rfl)
              refine wp_of e261 c261_47 (rw_iload (pc' := 49) (z := v4814) rfl rfl ?_)
              refine wp_of e261 c261_49 (rw_aload_n (pc' := 50) (v := .ref r0) rfl rfl rfl ?_)
              refine wp_of e261 c261_50 (xg_I (pc' := 53) lf_9_422 w4819 g0 sh_42 (by decide) (by decide) ty_42_29 rfl rfl (fun b4831 b4832 => ?_))
              refine wp_of e261 c261_53 (rw_icmp_ge (p1 := 110) (p2 := 56) (by decide) rfl ⟨by omega, by omega⟩ ⟨by omega, by omega⟩ (fun c4833 => ?_) (fun c4833 => ?_))
              · refine wp_of e261 c261_110 (rw_aload_n (pc' := 111) (v := .ref r0) rfl rfl rfl ?_)
                refine wp_of e261 c261_111 (rw_iload (pc' := 113) (z := v4815) rfl rfl ?_)
                refine wp_of e261 c261_113 (xc_V (pc' := 116) (r := r0) (as := [vI v4815]) (st := []) (lm_9_58) rfl rfl (Nat.le_of_ble_eq_true rfl) w4819 g0 sh_42 (by decide) rfl (by decide) (u_209  w4819 g0 ⟨by omega, by omega⟩) (fun R4834 T4835 H4836 p4837 => ?_))
                obtain ⟨e4838, w4840, f4841, z4842, e4839, b4843, p4844⟩ := p4837
                subst e4838
                subst e4839
                obtain ⟨a4845, a4846, a4847⟩ := p4844
                have f4848 := f4829.tr f4841 rfl
                show wp _ _ 261 116 [(5, vI v4814), (4, vI v4815), (0, .ref r0), (1, vI a1), (2, vI a2)] [vI z4842] _ H4836 _
                have k4849 : wKI H4836 r0 = wKI H4282 r0 := ((wKI_fr w4819 g0 f4841 rfl).trans (wKI_fr w4286 g0 f4820 rfl))
                have h4850 : KNN T H4836 r0 e d := (KNN_fr w4819 g0 f4841 rfl (KNN_fr w4286 g0 f4820 rfl a4298))
                exact wp_ireturn e261 c261_116 rfl ⟨rfl, w4840, f4848, z4842, rfl, ⟨by omega, by omega⟩, (Or.inr ⟨by omega, by omega, by
                  show _ = wfd (xwf e d) (fun n x => if hb (xsb d (xlot d ((n : Nat) : Int)) (a1).toNat) (a2).toNat = 1 then wq_or x (xpa d (xlot d ((n : Nat) : Int)) (a2).toNat) else x) 0 (xlots d).toNat
                  rw [wfd_end (u := u4817) (by omega) (by omega)]
                  assumption, h4850⟩)⟩
              · obtain ⟨h9, _a, _b, _c, _e, _f⟩ := xcn_nx (f := xwf e d) (u := u4817) (xlots d).toNat (by omega) (by omega)
                have _n9 : xcn (xwf e d) (h9 + 1) = xcn (xwf e d) h9 + 1 := by
                  show xcn (xwf e d) h9 + (if xwf e d h9 > 0 then 1 else 0) = _
                  rw [if_pos _c]
                refine wp_of e261 c261_56 (rw_aload_n (pc' := 57) (v := .ref r0) rfl rfl rfl ?_)
                refine wp_of e261 c261_57 (rw_aload_n (pc' := 58) (v := .ref r0) rfl rfl rfl ?_)
                refine wp_of e261 c261_58 (xg_R (pc' := 61) lf_9_42 w4819 g0 sh_42 (by decide) (by decide) ty_42_30 rfl rfl (fun r4851 q4852 g4853 => ?_))
                refine wp_of e261 c261_61 (rw_iload (pc' := 63) (z := v4814) rfl rfl ?_)
                refine wp_of e261 c261_63 (xa_I (so := 0) (pc' := 64) w4819 g4853 sh_52 (by decide) (ty_52 _) (by omega) (by omega) rfl (fun b4854 b4855 => ?_))
                have _kl := KL_at h4824 q4852 (n := h9) (s := (v4814).toNat) (by omega) _c (by omega)
                have _t9 : H4816 r4851 (v4814.toNat) = ((h9 : Nat) : Int) := by omega
                have _slw : SL d (xlot d ((h9 : Nat) : Int)) := SL_lot _xw.1 (by omega) (by omega)
                have k4856 : H4816 r0 3 = H4282 r0 3 := (f4820 r0 3 _ g0 rfl)
                have q4857 : H4816 r0 3 = (r4308 : Int) := k4856.trans q4309
                have h4858 : RB T H4816 r0 e d := (RB_fr w4286 g0 f4820 rfl h4311)
                refine wp_of e261 c261_64 (xc_V (pc' := 67) (r := r0) (as := [vI (H4816 r4851 (v4814.toNat))]) (st := []) (lm_9_425) rfl rfl (Nat.le_of_ble_eq_true rfl) w4819 g0 sh_42 (by decide) rfl (by decide) (u_243 (e := e) (d := d) w4819 g0 ⟨by omega, by omega⟩ q4857 g4310 (by omega) h4858) (fun R4859 T4860 H4861 p4862 => ?_))
                obtain ⟨e4863, w4865, f4866, e4864, p4867⟩ := p4862
                subst e4863
                subst e4864
                have f4869 := f4829.tr f4866 rfl
                have f4870 := f4820.tr f4866 rfl
                show wp _ _ 261 67 [(5, vI v4814), (4, vI v4815), (0, .ref r0), (1, vI a1), (2, vI a2)] [] _ H4861 _
                have h4871 : LQ27 T H4861 r0 0 (d 0 3) (xlot d ((h9 : Nat) : Int)) := by rw [← _t9]; exact p4867
                refine wp_of e261 c261_67 (rw_aload_n (pc' := 68) (v := .ref r0) rfl rfl rfl ?_)
                refine wp_of e261 c261_68 (xg_R (pc' := 71) lf_9_30 w4865 g0 sh_42 (by decide) (by decide) ty_42_24 rfl rfl (fun r4872 q4873 g4874 => ?_))
                refine wp_of e261 c261_71 (rw_bipush (pc' := 73) (z := 40) rfl (by decide) ?_)
                refine wp_of e261 c261_73 (rw_iload_n (pc' := 74) (z := a1) rfl rfl ?_)
                have _sxa1 := _slw (a1).toNat (by omega)
                refine wp_of e261 c261_74 (rw_imul (pc' := 75) rfl ?_)
                refine wp_of e261 c261_75 (rw_aload_n (pc' := 76) (v := .ref r0) rfl rfl rfl ?_)
                refine wp_of e261 c261_76 (xg_R (pc' := 79) lf_9_39 w4865 g0 sh_42 (by decide) (by decide) ty_42_27 rfl rfl (fun r4875 q4876 g4877 => ?_))
                refine wp_of e261 c261_79 (rw_iload_n (pc' := 80) (z := a1) rfl rfl ?_)
                refine wp_of e261 c261_80 (xa_I (so := 0) (pc' := 81) w4865 g4877 sh_51 (by decide) (ty_51 _) (by omega) (by omega) rfl (fun b4878 b4879 => ?_))
                have := LR_at h4871 q4876 (k := (a1.toNat)) (by omega) (by omega)
                refine wp_of e261 c261_81 (rw_iadd (pc' := 82) rfl ?_)
                have h4880 : LB24 T H4861 r0 (xas d) (xsq d) := (LB24_fr w4819 g0 f4866 rfl (LB24_fr w4286 g0 f4820 rfl h4313))
                have _sx := _slw (a1).toNat (by omega)
                have _lx := LB_x h4880 q4873 (k := (a1).toNat) (i := (xlot d ((h9 : Nat) : Int) (a1).toNat).toNat) (s := ((40 * a1) + (H4861 r4875 (a1.toNat))).toNat) (by omega) (by omega) (by omega) _pk (by omega)
                have _x : xas d (a1).toNat ((xsp d (a1).toNat).getD (xlot d ((h9 : Nat) : Int) (a1).toNat).toNat (0, 0)) = xsb d (xlot d ((h9 : Nat) : Int)) (a1).toNat := rfl
                refine wp_of e261 c261_82 (xa_I (so := 0) (pc' := 83) w4865 g4874 sh_48 (by decide) (ty_48 _) (by omega) (by omega) rfl (fun b4881 b4882 => ?_))
                have _hv := hb_and (b := xsb d (xlot d ((h9 : Nat) : Int)) (a1).toNat) (h := (a2).toNat) (by have := @xsb_b d (xlot d ((h9 : Nat) : Int)) (a1).toNat; omega) (by omega)
                rw [Int.toNat_of_nonneg (by omega : 0 ≤ a2), ← (show H4861 r4872 (((40 * a1) + (H4861 r4875 (a1.toNat))).toNat) = xsb d (xlot d ((h9 : Nat) : Int)) (a1).toNat by omega)] at _hv
                have _hw : hb (xsb d (xlot d ((h9 : Nat) : Int)) (a1).toNat) (a2).toNat = hb (H4861 r4872 (((40 * a1) + (H4861 r4875 (a1.toNat))).toNat)) (a2).toNat := by rw [show H4861 r4872 (((40 * a1) + (H4861 r4875 (a1.toNat))).toNat) = xsb d (xlot d ((h9 : Nat) : Int)) (a1).toNat by omega]
                have _hc := @hb_b (H4861 r4872 (((40 * a1) + (H4861 r4875 (a1.toNat))).toNat)) (a2).toNat
                refine wp_of e261 c261_83 (rw_iload_n (pc' := 84) (z := a2) rfl rfl ?_)
                refine wp_of e261 c261_84 (xc_S (pc' := 87) (as := [vI (H4861 r4872 (((40 * a1) + (H4861 r4875 (a1.toNat))).toNat)), vI a2]) (st := []) (lm_9_346) rfl rfl (Nat.le_of_ble_eq_true rfl) rfl (by decide) (u_205  w4865 ⟨by omega, by omega⟩ ⟨by omega, by omega⟩) (fun R4883 T4884 H4885 p4886 => ?_))
                obtain ⟨e4887, e4889, z4890, e4888, b4891, p4892⟩ := p4886
                subst e4887
                subst e4888
                subst e4889
                rcases p4892 with ⟨a4893, a4894⟩ | ⟨a4895, a4896⟩
                · show wp _ _ 261 87 [(5, vI v4814), (4, vI v4815), (0, .ref r0), (1, vI a1), (2, vI a2)] [vI z4890] _ H4861 _
                  refine wp_of e261 c261_87 (rw_if_eq (p1 := 104) (p2 := 90) (by decide) rfl ⟨by omega, by omega⟩ (fun c4897 => ?_) (fun c4897 => ?_))
                  · exfalso
                    omega
                  · refine wp_of e261 c261_90 (rw_iload (pc' := 92) (z := v4815) rfl rfl ?_)
                    refine wp_of e261 c261_92 (rw_aload_n (pc' := 93) (v := .ref r0) rfl rfl rfl ?_)
                    refine wp_of e261 c261_93 (rw_aload_n (pc' := 94) (v := .ref r0) rfl rfl rfl ?_)
                    refine wp_of e261 c261_94 (xg_K (pc' := 97) lf_9_39 w4865 g0 sh_42 (by decide) (by decide) rfl q4876 rfl ?_)
                    have h4898 : RR T H4861 r4875 (d 0 3) (xlot d ((h9 : Nat) : Int)) := RR_27 h4871 q4876 g4877 (by omega)
                    refine wp_of e261 c261_97 (rw_iload_n (pc' := 98) (z := a2) rfl rfl ?_)
                    have k4899 : H4861 r0 3 = H4816 r0 3 := (f4866 r0 3 _ g0 rfl)
                    have q4900 : H4861 r0 3 = (r4308 : Int) := k4899.trans q4857
                    have h4901 : RB T H4861 r0 e d := (RB_fr w4819 g0 f4866 rfl h4858)
                    refine wp_of e261 c261_98 (xc_V (pc' := 101) (r := r0) (as := [.ref r4875, vI a2]) (st := [vI v4815]) (lm_9_455) rfl rfl (Nat.le_of_ble_eq_true rfl) w4865 g0 sh_42 (by decide) rfl (by decide) (u_262 (e := e) (d := d) (g := ((xlot d ((h9 : Nat) : Int)))) w4865 g0 g4877 ⟨by omega, by omega⟩ q4900 g4310 (by assumption) (by assumption) h4901 h4898) (fun R4902 T4903 H4904 p4905 => ?_))
                    obtain ⟨e4906, e4908, z4909, e4907, b4910, p4911⟩ := p4905
                    subst e4906
                    subst e4907
                    subst e4908
                    show wp _ _ 261 101 [(5, vI v4814), (4, vI v4815), (0, .ref r0), (1, vI a1), (2, vI a2)] [vI z4909, vI v4815] _ H4861 _
                    refine wp_of e261 c261_101 (rw_ior (pc' := 102) rfl ?_)
                    obtain ⟨v4913, e4914⟩ : ∃ x : Int, x = wq_or v4815 z4909 := ⟨_, rfl⟩
                    rw [← e4914]
                    have b4915 : 0 ≤ v4913 ∧ v4913 ≤ 16777215 := by
                      rw [e4914]
                      exact wq_or_24 ⟨by omega, by omega⟩ ⟨by omega, by omega⟩
                    refine wp_of e261 c261_102 (rw_istore (pc' := 104) (z := v4913) (L' := [(4, vI v4913), (5, vI v4814), (0, .ref r0), (1, vI a1), (2, vI a2)]) rfl rfl rfl ?_)
                    have _gp : wfd (xwf e d) (fun n x => if hb (xsb d (xlot d ((n : Nat) : Int)) (a1).toNat) (a2).toNat = 1 then wq_or x (xpa d (xlot d ((n : Nat) : Int)) (a2).toNat) else x) 0 h9 = v4815 := by
                      rw [wfd_gap _a _f]
                      exact (‹v4815 = wfd (xwf e d) (fun n x => if hb (xsb d (xlot d ((n : Nat) : Int)) (a1).toNat) (a2).toNat = 1 then wq_or x (xpa d (xlot d ((n : Nat) : Int)) (a2).toNat) else x) 0 u4817›).symm
                    have _q : v4913 = wfd (xwf e d) (fun n x => if hb (xsb d (xlot d ((n : Nat) : Int)) (a1).toNat) (a2).toNat = 1 then wq_or x (xpa d (xlot d ((n : Nat) : Int)) (a2).toNat) else x) 0 (h9 + 1) := by
                      rw [wfd_y _c, _gp]
                      show v4913 = (if hb (xsb d (xlot d ((h9 : Nat) : Int)) (a1).toNat) (a2).toNat = 1 then wq_or v4815 (xpa d (xlot d ((h9 : Nat) : Int)) (a2).toNat) else v4815)
                      rw [if_pos (by omega), e4914]
                      exact congrArg _ (by assumption)
                    refine wp_of e261 c261_104 (rw_iinc (pc' := 107) (z := v4814) (L' := [(5, vI (v4814 + 1)), (4, vI v4913), (0, .ref r0), (1, vI a1), (2, vI a2)]) rfl rfl rfl rfl ?_)
                    refine wp_of e261 c261_107 (rw_goto (p1 := 47) (by decide) ?_)
                    have k4916 : H4861 r0 29 = H4816 r0 29 := (f4866 r0 29 _ g0 rfl)
                    have h4917 : KL T H4861 r0 (xwf e d) (xlots d).toNat := (KL_fr w4819 g0 f4866 rfl h4824)
                    exact wp_lc (ks := [5, 4, 0, 1, 2]) (wl_c rfl (wl_c rfl (wl_c rfl (wl_c rfl (wl_c rfl wl_n))))) rfl (by decide) (ih4813 _ (by omega) (v4814 + 1) v4913 H4861 ((h9 + 1)) w4865 f4870 ⟨by omega, by omega⟩ ⟨by omega, by omega⟩ h4917 (by omega) (by omega) (by omega) (_q) rfl)
                · show wp _ _ 261 87 [(5, vI v4814), (4, vI v4815), (0, .ref r0), (1, vI a1), (2, vI a2)] [vI z4890] _ H4861 _
                  refine wp_of e261 c261_87 (rw_if_eq (p1 := 104) (p2 := 90) (by decide) rfl ⟨by omega, by omega⟩ (fun c4918 => ?_) (fun c4918 => ?_))
                  · have _gp : wfd (xwf e d) (fun n x => if hb (xsb d (xlot d ((n : Nat) : Int)) (a1).toNat) (a2).toNat = 1 then wq_or x (xpa d (xlot d ((n : Nat) : Int)) (a2).toNat) else x) 0 h9 = v4815 := by
                      rw [wfd_gap _a _f]
                      exact (‹v4815 = wfd (xwf e d) (fun n x => if hb (xsb d (xlot d ((n : Nat) : Int)) (a1).toNat) (a2).toNat = 1 then wq_or x (xpa d (xlot d ((n : Nat) : Int)) (a2).toNat) else x) 0 u4817›).symm
                    have _q : v4815 = wfd (xwf e d) (fun n x => if hb (xsb d (xlot d ((n : Nat) : Int)) (a1).toNat) (a2).toNat = 1 then wq_or x (xpa d (xlot d ((n : Nat) : Int)) (a2).toNat) else x) 0 (h9 + 1) := by
                      rw [wfd_y _c, _gp]
                      show v4815 = (if hb (xsb d (xlot d ((h9 : Nat) : Int)) (a1).toNat) (a2).toNat = 1 then wq_or v4815 (xpa d (xlot d ((h9 : Nat) : Int)) (a2).toNat) else v4815)
                      rw [if_neg (by omega)]
                    refine wp_of e261 c261_104 (rw_iinc (pc' := 107) (z := v4814) (L' := [(5, vI (v4814 + 1)), (4, vI v4815), (0, .ref r0), (1, vI a1), (2, vI a2)]) rfl rfl rfl rfl ?_)
                    refine wp_of e261 c261_107 (rw_goto (p1 := 47) (by decide) ?_)
                    have k4919 : H4861 r0 29 = H4816 r0 29 := (f4866 r0 29 _ g0 rfl)
                    have h4920 : KL T H4861 r0 (xwf e d) (xlots d).toNat := (KL_fr w4819 g0 f4866 rfl h4824)
                    exact wp_lc (ks := [5, 4, 0, 1, 2]) (wl_c rfl (wl_c rfl (wl_c rfl (wl_c rfl (wl_c rfl wl_n))))) rfl (by decide) (ih4813 _ (by omega) (v4814 + 1) v4815 H4861 ((h9 + 1)) w4865 f4870 ⟨by omega, by omega⟩ ⟨by omega, by omega⟩ h4920 (by omega) (by omega) (by omega) (_q) rfl)
                  · exfalso
                    omega
          exact wp_lc (ks := [5, 4, 3, 0, 1, 2]) (wl_c rfl (wl_c rfl (wl_c rfl (wl_c rfl (wl_c rfl wl_n))))) rfl (by decide) (lp4811 _ 0 0 H4282 0 w4286 wfr.rf ⟨by omega, by omega⟩ ⟨by omega, by omega⟩ h4312 (by omega) (by omega) (rfl) (rfl) rfl)
        · exfalso
          omega
      · have f4921 := f2916.tr f4287 rfl
        show wp _ _ 261 30 [(0, .ref r0), (1, vI a1), (2, vI a2)] [vI z4288] _ H4282 _
        refine wp_of e261 c261_30 (rw_istore_n (pc' := 31) (z := z4288) (L' := [(3, vI z4288), (0, .ref r0), (1, vI a1), (2, vI a2)]) rfl rfl rfl ?_)
        refine wp_of e261 c261_31 (rw_iload_n (pc' := 32) (z := z4288) rfl rfl ?_)
        refine wp_of e261 c261_32 (rw_if_le (p1 := 41) (p2 := 35) (by decide) rfl ⟨by omega, by omega⟩ (fun c4922 => ?_) (fun c4922 => ?_))
        · exfalso
          omega
        · refine wp_of e261 c261_35 (rw_aload_n (pc' := 36) (v := .ref r0) rfl rfl rfl ?_)
          refine wp_of e261 c261_36 (rw_iload_n (pc' := 37) (z := z4288) rfl rfl ?_)
          refine wp_of e261 c261_37 (xc_V (pc' := 40) (r := r0) (as := [vI z4288]) (st := []) (lm_9_54) rfl rfl (Nat.le_of_ble_eq_true rfl) w4286 g0 sh_42 (by decide) rfl (by decide) (u_170  w4286 g0 ⟨by omega, by omega⟩) (fun R4923 T4924 H4925 p4926 => ?_))
          obtain ⟨e4927, w4929, f4930, z4931, e4928, b4932, p4933⟩ := p4926
          subst e4927
          subst e4928
          obtain ⟨a4934, a4935, a4936⟩ := p4933
          have f4937 := f4921.tr f4930 rfl
          show wp _ _ 261 40 [(3, vI z4288), (0, .ref r0), (1, vI a1), (2, vI a2)] [vI z4931] _ H4925 _
          have k4938 : wKI H4925 r0 = wKI H4282 r0 := (wKI_fr w4286 g0 f4930 rfl)
          have h4939 : KNN T H4925 r0 e d := (KNN_fr w4286 g0 f4930 rfl a4306)
          exact wp_ireturn e261 c261_40 rfl ⟨rfl, w4929, f4937, z4931, rfl, ⟨by omega, by omega⟩, (Or.inl ⟨by omega, by omega, by omega, h4939⟩)⟩
    · exfalso
      omega
/-! StrikeAwakeModel.bed(IZ)I  -/
abbrev uq_263 (r0 : Nat) (a1 : Int) (a2 : Int) (e : xD) (d : xD) (T : wq_T) (H : wq_H) : Option Value → wq_T → wq_H → Prop := fun r T' H' => T = T' ∧ WT T H' ∧ wfr [(42, 0), (42, 1), (42, 2), (42, 28), (42, 29), (51, 999), (52, 999)] T H H' ∧ ∃ z : Int, some (vI z) = r ∧ ((-2147483648) ≤ z ∧ z ≤ 2147483647) ∧ (((z = -1) ∧ (wKI H' r0 = 1) ∧ ((a1 < 0 ∨ d 0 3 ≤ a1) ∨ 20000 < xlots d ∨ xcn (xwf e d) (xlots d).toNat ≤ 0) ∧ KNN T H' r0 e d) ∨ ((wKI H' r0 = 1) ∧ ((0 ≤ a1 ∧ a1 < d 0 3) ∧ xlots d ≤ 20000 ∧ 0 < xcn (xwf e d) (xlots d).toNat) ∧ (XEX (decide (a2 ≠ 0)) (xwf e d) (fun n => (xpt d (xlot d n) (a1).toNat).1) (xlots d).toNat z) ∧ KNN T H' r0 e d))
set_option maxHeartbeats 4000000 in
theorem u_263 {kt : Nat → Option mc_E} {T : wq_T} {H : wq_H} {r0 : Nat} {a1 : Int} {a2 : Int} {e : xD} {d : xD} (hW : WT T H) (g0 : T.2.2.2 r0 = some 42) (i1 : (-2147483648) ≤ a1 ∧ a1 ≤ 2147483647) (i2 : 0 ≤ a2 ∧ a2 ≤ 1) (p0 : wKI H r0 = 1) (p1 : XW d) (p2 : ∀ h : Nat, d 0 0 ≤ (h : Int) → h < 24 → e 13 h = 0) (p3 : XN d) (p4 : ∀ h : Nat, h < 24 → 0 ≤ e 13 h ∧ e 13 h ≤ 100) (hRB_r0 : RB T H r0 e d) (hKNN_r0 : KNN T H r0 e d) : wpc kt 9 263 [.ref r0, vI a1, vI a2] T H (uq_263 r0 a1 a2 e d T H) := by
  refine wp_enter e263 (Nat.le_of_ble_eq_true rfl) rfl ?_
  have f0 : wfr [(42, 0), (42, 1), (42, 2), (42, 28), (42, 29), (51, 999), (52, 999)] T H H := wfr.rf
  show wp _ _ 263 0 [(0, .ref r0), (1, vI a1), (2, vI a2)] [] _ H _
  have _b := RB_b hW hRB_r0
  have _nu := RB_n3 hRB_r0
  have _lm := RB_lm hRB_r0
  have _xw := (by assumption : XW d)
  refine wp_of e263 c263_0 (rw_aload_n (pc' := 1) (v := .ref r0) rfl rfl rfl ?_)
  refine wp_of e263 c263_1 (rw_iconst (pc' := 2) rfl ?_)
  refine wp_of e263 c263_2 (xp_I (pc' := 5) lf_9_48 hW g0 sh_42 (by decide) (by decide) ty_42_0 rfl rfl (by omega) (by omega) ⟨by omega, by omega⟩ rfl (fun H1186 e1187 w1188 => ?_))
  have f1189 := f0.put' e1187 g0 rfl
  have k1190 : H1186 r0 0 = 0 := wq_u_s e1187
  refine wp_of e263 c263_5 (rw_aload_n (pc' := 6) (v := .ref r0) rfl rfl rfl ?_)
  refine wp_of e263 c263_6 (rw_aload_n (pc' := 7) (v := .ref r0) rfl rfl rfl ?_)
  refine wp_of e263 c263_7 (rw_iload_n (pc' := 8) (z := a1) rfl rfl ?_)
  have h1191 : RB T H1186 r0 e d := (RB_fr hW g0 ((wfr.rf (l := [(42, 0)])).put' e1187 g0 rfl) rfl hRB_r0)
  refine wp_of e263 c263_8 (xc_V (pc' := 11) (r := r0) (as := [vI a1]) (st := [.ref r0]) (lm_9_364) rfl rfl (Nat.le_of_ble_eq_true rfl) w1188 g0 sh_42 (by decide) rfl (by decide) (u_213 (e := e) (d := d) w1188 g0 ⟨by omega, by omega⟩ h1191) (fun R1192 T1193 H1194 p1195 => ?_))
  obtain ⟨e1196, e1198, z1199, e1197, b1200, p1201⟩ := p1195
  subst e1196
  subst e1197
  subst e1198
  rcases p1201 with ⟨a1202, a1203⟩ | ⟨a1204, a1205⟩
  · show wp _ _ 263 11 [(0, .ref r0), (1, vI a1), (2, vI a2)] [vI z1199, .ref r0] _ H1186 _
    have k1206 : H1186 r0 3 = H r0 3 := (wq_u_j e1187 rfl)
    have k1207 : wKI H1186 r0 = wKI H r0 := (wKI_fr hW g0 ((wfr.rf (l := [(42, 0)])).put' e1187 g0 rfl) rfl)
    have h1208 : KNN T H1186 r0 e d := (KNN_fr hW g0 ((wfr.rf (l := [(42, 0)])).put' e1187 g0 rfl) rfl hKNN_r0)
    refine wp_of e263 c263_11 (xc_V (pc' := 14) (r := r0) (as := [vI z1199]) (st := []) (lm_9_447) rfl rfl (Nat.le_of_ble_eq_true rfl) w1188 g0 sh_42 (by decide) rfl (by decide) (u_253 (e := e) (d := d) w1188 g0 ⟨by omega, by omega⟩ (by omega) (by omega) (by assumption) (by assumption) (by assumption) (by assumption) h1191 h1208) (fun R1209 T1210 H1211 p1212 => ?_))
    obtain ⟨e1213, w1215, f1216, z1217, e1214, b1218, p1219⟩ := p1212
    subst e1213
    subst e1214
    rcases p1219 with ⟨a1220, a1221, a1222, a1223, a1224, a1225, a1226, a1227, a1228, a1229⟩ | ⟨a1230, a1231, a1232, a1233, a1234, a1235, a1236⟩
    · have f1237 := f1189.tr f1216 rfl
      show wp _ _ 263 14 [(0, .ref r0), (1, vI a1), (2, vI a2)] [vI z1217] _ H1211 _
      refine wp_of e263 c263_14 (rw_istore_n (pc' := 15) (z := z1217) (L' := [(3, vI z1217), (0, .ref r0), (1, vI a1), (2, vI a2)]) rfl rfl rfl ?_)
      refine wp_of e263 c263_15 (rw_iload_n (pc' := 16) (z := z1217) rfl rfl ?_)
      obtain ⟨r1238, q1239, g1240⟩ := (w1215.opt g0 (t' := 54) (n := 33) (j := 3) (p := 0) (q := 0) rfl (by decide) rfl).resolve_left (by omega)
      have h1241 : RB T H1211 r0 e d := (RB_fr w1188 g0 f1216 rfl h1191)
      have _kbb := a1229
      have _kb := _kbb.1
      have _n3 : H1211 r0 3 ≠ -1 := by omega
      have _rp := RB_at h1241 q1239
      have _k := RP_k _rp
      have _nb := xcn_b (f := xwf e d) (xlots d).toNat
      have h1242 : KL T H1211 r0 (xwf e d) (xlots d).toNat := _kbb.2
      have _ar := RB_ar h1241 (by omega)
      have _pk := _ar.1
      have h1243 : LB22 T H1211 r0 yb (xsq d) := _ar.2.2.2.2.1
      refine wp_of e263 c263_16 (rw_if_le (p1 := 27) (p2 := 19) (by decide) rfl ⟨by omega, by omega⟩ (fun c1244 => ?_) (fun c1244 => ?_))
      · refine wp_of e263 c263_27 (rw_aload_n (pc' := 28) (v := .ref r0) rfl rfl rfl ?_)
        refine wp_of e263 c263_28 (rw_aload_n (pc' := 29) (v := .ref r0) rfl rfl rfl ?_)
        refine wp_of e263 c263_29 (rw_iload_n (pc' := 30) (z := a1) rfl rfl ?_)
        refine wp_of e263 c263_30 (rw_aload_n (pc' := 31) (v := .ref r0) rfl rfl rfl ?_)
        refine wp_of e263 c263_31 (xg_R (pc' := 34) lf_9_24 w1215 g0 sh_42 (by decide) (by decide) ty_42_22 rfl rfl (fun r1245 q1246 g1247 => ?_))
        have h1248 : RMb T H1211 r1245 (40 * (a1).toNat) ((xsp d (a1).toNat).length : Int) (fun i => ((xsp d (a1).toNat).getD i (0, 0)).1) := fun i hi => LB_x h1243 q1246 (k := (a1).toNat) (i := i) (s := 40 * (a1).toNat + i) (by omega) (by omega) (by omega) _pk (by omega)
        refine wp_of e263 c263_34 (rw_iload_n (pc' := 35) (z := a2) rfl rfl ?_)
        refine wp_of e263 c263_35 (xc_V (pc' := 38) (r := r0) (as := [vI a1, .ref r1245, vI a2]) (st := [.ref r0]) (lm_9_458) rfl rfl (Nat.le_of_ble_eq_true rfl) w1215 g0 sh_42 (by decide) rfl (by decide) (u_264_m_bed (e := e) (d := d) w1215 g0 ⟨by omega, by omega⟩ g1247 ⟨by omega, by omega⟩ q1239 g1240 (by assumption) (by omega) (by omega) (by omega) (by omega) h1241 a1229 h1248) (fun R1249 T1250 H1251 p1252 => ?_))
        obtain ⟨e1253, w1255, f1256, z1257, e1254, b1258, p1259⟩ := p1252
        subst e1253
        subst e1254
        have f1261 := f1237.tr f1256 rfl
        show wp _ _ 263 38 [(3, vI z1217), (0, .ref r0), (1, vI a1), (2, vI a2)] [vI z1257, .ref r0] _ H1251 _
        refine wp_of e263 c263_38 (xc_V (pc' := 41) (r := r0) (as := [vI z1257]) (st := []) (lm_9_58) rfl rfl (Nat.le_of_ble_eq_true rfl) w1255 g0 sh_42 (by decide) rfl (by decide) (u_209  w1255 g0 ⟨by omega, by omega⟩) (fun R1262 T1263 H1264 p1265 => ?_))
        obtain ⟨e1266, w1268, f1269, z1270, e1267, b1271, p1272⟩ := p1265
        subst e1266
        subst e1267
        obtain ⟨a1273, a1274, a1275⟩ := p1272
        have f1276 := f1261.tr f1269 rfl
        show wp _ _ 263 41 [(3, vI z1217), (0, .ref r0), (1, vI a1), (2, vI a2)] [vI z1270] _ H1264 _
        have k1277 : wKI H1264 r0 = wKI H1211 r0 := ((wKI_fr w1255 g0 f1269 rfl).trans (wKI_fr w1215 g0 f1256 rfl))
        have h1278 : KNN T H1264 r0 e d := (KNN_fr w1255 g0 f1269 rfl (KNN_fr w1215 g0 f1256 rfl a1228))
        exact wp_ireturn e263 c263_41 rfl ⟨rfl, w1268, f1276, z1270, rfl, ⟨by omega, by omega⟩, (Or.inr ⟨by omega, by omega, by assumption, h1278⟩)⟩
      · exfalso
        omega
    · have f1279 := f1189.tr f1216 rfl
      show wp _ _ 263 14 [(0, .ref r0), (1, vI a1), (2, vI a2)] [vI z1217] _ H1211 _
      refine wp_of e263 c263_14 (rw_istore_n (pc' := 15) (z := z1217) (L' := [(3, vI z1217), (0, .ref r0), (1, vI a1), (2, vI a2)]) rfl rfl rfl ?_)
      refine wp_of e263 c263_15 (rw_iload_n (pc' := 16) (z := z1217) rfl rfl ?_)
      refine wp_of e263 c263_16 (rw_if_le (p1 := 27) (p2 := 19) (by decide) rfl ⟨by omega, by omega⟩ (fun c1280 => ?_) (fun c1280 => ?_))
      · exfalso
        omega
      · refine wp_of e263 c263_19 (rw_aload_n (pc' := 20) (v := .ref r0) rfl rfl rfl ?_)
        refine wp_of e263 c263_20 (rw_iload_n (pc' := 21) (z := z1217) rfl rfl ?_)
        refine wp_of e263 c263_21 (xc_V (pc' := 24) (r := r0) (as := [vI z1217]) (st := []) (lm_9_54) rfl rfl (Nat.le_of_ble_eq_true rfl) w1215 g0 sh_42 (by decide) rfl (by decide) (u_170  w1215 g0 ⟨by omega, by omega⟩) (fun R1281 T1282 H1283 p1284 => ?_))
        obtain ⟨e1285, w1287, f1288, z1289, e1286, b1290, p1291⟩ := p1284
        subst e1285
        subst e1286
        obtain ⟨a1292, a1293, a1294⟩ := p1291
        have f1295 := f1279.tr f1288 rfl
        show wp _ _ 263 24 [(3, vI z1217), (0, .ref r0), (1, vI a1), (2, vI a2)] [vI z1289] _ H1283 _
        refine wp_of e263 c263_24 (rw_goto (p1 := 41) (by decide) ?_)
        have k1296 : wKI H1283 r0 = wKI H1211 r0 := (wKI_fr w1215 g0 f1288 rfl)
        have h1297 : KNN T H1283 r0 e d := (KNN_fr w1215 g0 f1288 rfl a1236)
        exact wp_ireturn e263 c263_41 rfl ⟨rfl, w1287, f1295, z1289, rfl, ⟨by omega, by omega⟩, (Or.inl ⟨by omega, by omega, by omega, h1297⟩)⟩
  · show wp _ _ 263 11 [(0, .ref r0), (1, vI a1), (2, vI a2)] [vI z1199, .ref r0] _ H1186 _
    have k1298 : H1186 r0 3 = H r0 3 := (wq_u_j e1187 rfl)
    have k1299 : wKI H1186 r0 = wKI H r0 := (wKI_fr hW g0 ((wfr.rf (l := [(42, 0)])).put' e1187 g0 rfl) rfl)
    have h1300 : KNN T H1186 r0 e d := (KNN_fr hW g0 ((wfr.rf (l := [(42, 0)])).put' e1187 g0 rfl) rfl hKNN_r0)
    refine wp_of e263 c263_11 (xc_V (pc' := 14) (r := r0) (as := [vI z1199]) (st := []) (lm_9_447) rfl rfl (Nat.le_of_ble_eq_true rfl) w1188 g0 sh_42 (by decide) rfl (by decide) (u_253 (e := e) (d := d) w1188 g0 ⟨by omega, by omega⟩ (by omega) (by omega) (by assumption) (by assumption) (by assumption) (by assumption) h1191 h1300) (fun R1301 T1302 H1303 p1304 => ?_))
    obtain ⟨e1305, w1307, f1308, z1309, e1306, b1310, p1311⟩ := p1304
    subst e1305
    subst e1306
    rcases p1311 with ⟨a1312, a1313, a1314, a1315, a1316, a1317, a1318, a1319, a1320, a1321⟩ | ⟨a1322, a1323, a1324, a1325, a1326, a1327, a1328⟩
    · have f1329 := f1189.tr f1308 rfl
      show wp _ _ 263 14 [(0, .ref r0), (1, vI a1), (2, vI a2)] [vI z1309] _ H1303 _
      refine wp_of e263 c263_14 (rw_istore_n (pc' := 15) (z := z1309) (L' := [(3, vI z1309), (0, .ref r0), (1, vI a1), (2, vI a2)]) rfl rfl rfl ?_)
      refine wp_of e263 c263_15 (rw_iload_n (pc' := 16) (z := z1309) rfl rfl ?_)
      obtain ⟨r1330, q1331, g1332⟩ := (w1307.opt g0 (t' := 54) (n := 33) (j := 3) (p := 0) (q := 0) rfl (by decide) rfl).resolve_left (by omega)
      have h1333 : RB T H1303 r0 e d := (RB_fr w1188 g0 f1308 rfl h1191)
      have _kbb := a1321
      have _kb := _kbb.1
      have _n3 : H1303 r0 3 ≠ -1 := by omega
      have _rp := RB_at h1333 q1331
      have _k := RP_k _rp
      have _nb := xcn_b (f := xwf e d) (xlots d).toNat
      have h1334 : KL T H1303 r0 (xwf e d) (xlots d).toNat := _kbb.2
      have _ar := RB_ar h1333 (by omega)
      have _pk := _ar.1
      have h1335 : LB22 T H1303 r0 yb (xsq d) := _ar.2.2.2.2.1
      refine wp_of e263 c263_16 (rw_if_le (p1 := 27) (p2 := 19) (by decide) rfl ⟨by omega, by omega⟩ (fun c1336 => ?_) (fun c1336 => ?_))
      · refine wp_of e263 c263_27 (rw_aload_n (pc' := 28) (v := .ref r0) rfl rfl rfl ?_)
        refine wp_of e263 c263_28 (rw_aload_n (pc' := 29) (v := .ref r0) rfl rfl rfl ?_)
        refine wp_of e263 c263_29 (rw_iload_n (pc' := 30) (z := a1) rfl rfl ?_)
        refine wp_of e263 c263_30 (rw_aload_n (pc' := 31) (v := .ref r0) rfl rfl rfl ?_)
        refine wp_of e263 c263_31 (xg_R (pc' := 34) lf_9_24 w1307 g0 sh_42 (by decide) (by decide) ty_42_22 rfl rfl (fun r1337 q1338 g1339 => ?_))
        have h1340 : RMb T H1303 r1337 (40 * (a1).toNat) ((xsp d (a1).toNat).length : Int) (fun i => ((xsp d (a1).toNat).getD i (0, 0)).1) := fun i hi => LB_x h1335 q1338 (k := (a1).toNat) (i := i) (s := 40 * (a1).toNat + i) (by omega) (by omega) (by omega) _pk (by omega)
        refine wp_of e263 c263_34 (rw_iload_n (pc' := 35) (z := a2) rfl rfl ?_)
        refine wp_of e263 c263_35 (xc_V (pc' := 38) (r := r0) (as := [vI a1, .ref r1337, vI a2]) (st := [.ref r0]) (lm_9_458) rfl rfl (Nat.le_of_ble_eq_true rfl) w1307 g0 sh_42 (by decide) rfl (by decide) (u_264_m_bed (e := e) (d := d) w1307 g0 ⟨by omega, by omega⟩ g1339 ⟨by omega, by omega⟩ q1331 g1332 (by assumption) (by omega) (by omega) (by omega) (by omega) h1333 a1321 h1340) (fun R1341 T1342 H1343 p1344 => ?_))
        obtain ⟨e1345, w1347, f1348, z1349, e1346, b1350, p1351⟩ := p1344
        subst e1345
        subst e1346
        have f1353 := f1329.tr f1348 rfl
        show wp _ _ 263 38 [(3, vI z1309), (0, .ref r0), (1, vI a1), (2, vI a2)] [vI z1349, .ref r0] _ H1343 _
        refine wp_of e263 c263_38 (xc_V (pc' := 41) (r := r0) (as := [vI z1349]) (st := []) (lm_9_58) rfl rfl (Nat.le_of_ble_eq_true rfl) w1347 g0 sh_42 (by decide) rfl (by decide) (u_209  w1347 g0 ⟨by omega, by omega⟩) (fun R1354 T1355 H1356 p1357 => ?_))
        obtain ⟨e1358, w1360, f1361, z1362, e1359, b1363, p1364⟩ := p1357
        subst e1358
        subst e1359
        obtain ⟨a1365, a1366, a1367⟩ := p1364
        have f1368 := f1353.tr f1361 rfl
        show wp _ _ 263 41 [(3, vI z1309), (0, .ref r0), (1, vI a1), (2, vI a2)] [vI z1362] _ H1356 _
        have k1369 : wKI H1356 r0 = wKI H1303 r0 := ((wKI_fr w1347 g0 f1361 rfl).trans (wKI_fr w1307 g0 f1348 rfl))
        have h1370 : KNN T H1356 r0 e d := (KNN_fr w1347 g0 f1361 rfl (KNN_fr w1307 g0 f1348 rfl a1320))
        exact wp_ireturn e263 c263_41 rfl ⟨rfl, w1360, f1368, z1362, rfl, ⟨by omega, by omega⟩, (Or.inr ⟨by omega, by omega, by assumption, h1370⟩)⟩
      · exfalso
        omega
    · have f1371 := f1189.tr f1308 rfl
      show wp _ _ 263 14 [(0, .ref r0), (1, vI a1), (2, vI a2)] [vI z1309] _ H1303 _
      refine wp_of e263 c263_14 (rw_istore_n (pc' := 15) (z := z1309) (L' := [(3, vI z1309), (0, .ref r0), (1, vI a1), (2, vI a2)]) rfl rfl rfl ?_)
      refine wp_of e263 c263_15 (rw_iload_n (pc' := 16) (z := z1309) rfl rfl ?_)
      refine wp_of e263 c263_16 (rw_if_le (p1 := 27) (p2 := 19) (by decide) rfl ⟨by omega, by omega⟩ (fun c1372 => ?_) (fun c1372 => ?_))
      · exfalso
        omega
      · refine wp_of e263 c263_19 (rw_aload_n (pc' := 20) (v := .ref r0) rfl rfl rfl ?_)
        refine wp_of e263 c263_20 (rw_iload_n (pc' := 21) (z := z1309) rfl rfl ?_)
        refine wp_of e263 c263_21 (xc_V (pc' := 24) (r := r0) (as := [vI z1309]) (st := []) (lm_9_54) rfl rfl (Nat.le_of_ble_eq_true rfl) w1307 g0 sh_42 (by decide) rfl (by decide) (u_170  w1307 g0 ⟨by omega, by omega⟩) (fun R1373 T1374 H1375 p1376 => ?_))
        obtain ⟨e1377, w1379, f1380, z1381, e1378, b1382, p1383⟩ := p1376
        subst e1377
        subst e1378
        obtain ⟨a1384, a1385, a1386⟩ := p1383
        have f1387 := f1371.tr f1380 rfl
        show wp _ _ 263 24 [(3, vI z1309), (0, .ref r0), (1, vI a1), (2, vI a2)] [vI z1381] _ H1375 _
        refine wp_of e263 c263_24 (rw_goto (p1 := 41) (by decide) ?_)
        have k1388 : wKI H1375 r0 = wKI H1303 r0 := (wKI_fr w1307 g0 f1380 rfl)
        have h1389 : KNN T H1375 r0 e d := (KNN_fr w1307 g0 f1380 rfl a1328)
        exact wp_ireturn e263 c263_41 rfl ⟨rfl, w1379, f1387, z1381, rfl, ⟨by omega, by omega⟩, (Or.inl ⟨by omega, by omega, by omega, h1389⟩)⟩
/-! StrikeAwakeModel.sleeps(IZ)I  -/
abbrev uq_265 (r0 : Nat) (a1 : Int) (a2 : Int) (e : xD) (d : xD) (T : wq_T) (H : wq_H) : Option Value → wq_T → wq_H → Prop := fun r T' H' => T = T' ∧ WT T H' ∧ wfr [(42, 0), (42, 1), (42, 2), (42, 28), (42, 29), (51, 999), (52, 999)] T H H' ∧ ∃ z : Int, some (vI z) = r ∧ ((-2147483648) ≤ z ∧ z ≤ 2147483647) ∧ (((z = -1) ∧ (wKI H' r0 = 1) ∧ ((a1 < 0 ∨ d 0 3 ≤ a1) ∨ 20000 < xlots d ∨ xcn (xwf e d) (xlots d).toNat ≤ 0) ∧ KNN T H' r0 e d) ∨ ((wKI H' r0 = 1) ∧ ((0 ≤ a1 ∧ a1 < d 0 3) ∧ xlots d ≤ 20000 ∧ 0 < xcn (xwf e d) (xlots d).toNat) ∧ (XEX (decide (a2 ≠ 0)) (xwf e d) (fun n => (xpt d (xlot d n) (a1).toNat).2) (xlots d).toNat z) ∧ KNN T H' r0 e d))
set_option maxHeartbeats 4000000 in
theorem u_265 {kt : Nat → Option mc_E} {T : wq_T} {H : wq_H} {r0 : Nat} {a1 : Int} {a2 : Int} {e : xD} {d : xD} (hW : WT T H) (g0 : T.2.2.2 r0 = some 42) (i1 : (-2147483648) ≤ a1 ∧ a1 ≤ 2147483647) (i2 : 0 ≤ a2 ∧ a2 ≤ 1) (p0 : wKI H r0 = 1) (p1 : XW d) (p2 : ∀ h : Nat, d 0 0 ≤ (h : Int) → h < 24 → e 13 h = 0) (p3 : XN d) (p4 : ∀ h : Nat, h < 24 → 0 ≤ e 13 h ∧ e 13 h ≤ 100) (hRB_r0 : RB T H r0 e d) (hKNN_r0 : KNN T H r0 e d) : wpc kt 9 265 [.ref r0, vI a1, vI a2] T H (uq_265 r0 a1 a2 e d T H) := by
  refine wp_enter e265 (Nat.le_of_ble_eq_true rfl) rfl ?_
  have f0 : wfr [(42, 0), (42, 1), (42, 2), (42, 28), (42, 29), (51, 999), (52, 999)] T H H := wfr.rf
  show wp _ _ 265 0 [(0, .ref r0), (1, vI a1), (2, vI a2)] [] _ H _
  have _b := RB_b hW hRB_r0
  have _nu := RB_n3 hRB_r0
  have _lm := RB_lm hRB_r0
  have _xw := (by assumption : XW d)
  refine wp_of e265 c265_0 (rw_aload_n (pc' := 1) (v := .ref r0) rfl rfl rfl ?_)
  refine wp_of e265 c265_1 (rw_iconst (pc' := 2) rfl ?_)
  refine wp_of e265 c265_2 (xp_I (pc' := 5) lf_9_48 hW g0 sh_42 (by decide) (by decide) ty_42_0 rfl rfl (by omega) (by omega) ⟨by omega, by omega⟩ rfl (fun H1186 e1187 w1188 => ?_))
  have f1189 := f0.put' e1187 g0 rfl
  have k1190 : H1186 r0 0 = 0 := wq_u_s e1187
  refine wp_of e265 c265_5 (rw_aload_n (pc' := 6) (v := .ref r0) rfl rfl rfl ?_)
  refine wp_of e265 c265_6 (rw_aload_n (pc' := 7) (v := .ref r0) rfl rfl rfl ?_)
  refine wp_of e265 c265_7 (rw_iload_n (pc' := 8) (z := a1) rfl rfl ?_)
  have h1191 : RB T H1186 r0 e d := (RB_fr hW g0 ((wfr.rf (l := [(42, 0)])).put' e1187 g0 rfl) rfl hRB_r0)
  refine wp_of e265 c265_8 (xc_V (pc' := 11) (r := r0) (as := [vI a1]) (st := [.ref r0]) (lm_9_364) rfl rfl (Nat.le_of_ble_eq_true rfl) w1188 g0 sh_42 (by decide) rfl (by decide) (u_213 (e := e) (d := d) w1188 g0 ⟨by omega, by omega⟩ h1191) (fun R1192 T1193 H1194 p1195 => ?_))
  obtain ⟨e1196, e1198, z1199, e1197, b1200, p1201⟩ := p1195
  subst e1196
  subst e1197
  subst e1198
  rcases p1201 with ⟨a1202, a1203⟩ | ⟨a1204, a1205⟩
  · show wp _ _ 265 11 [(0, .ref r0), (1, vI a1), (2, vI a2)] [vI z1199, .ref r0] _ H1186 _
    have k1206 : H1186 r0 3 = H r0 3 := (wq_u_j e1187 rfl)
    have k1207 : wKI H1186 r0 = wKI H r0 := (wKI_fr hW g0 ((wfr.rf (l := [(42, 0)])).put' e1187 g0 rfl) rfl)
    have h1208 : KNN T H1186 r0 e d := (KNN_fr hW g0 ((wfr.rf (l := [(42, 0)])).put' e1187 g0 rfl) rfl hKNN_r0)
    refine wp_of e265 c265_11 (xc_V (pc' := 14) (r := r0) (as := [vI z1199]) (st := []) (lm_9_447) rfl rfl (Nat.le_of_ble_eq_true rfl) w1188 g0 sh_42 (by decide) rfl (by decide) (u_253 (e := e) (d := d) w1188 g0 ⟨by omega, by omega⟩ (by omega) (by omega) (by assumption) (by assumption) (by assumption) (by assumption) h1191 h1208) (fun R1209 T1210 H1211 p1212 => ?_))
    obtain ⟨e1213, w1215, f1216, z1217, e1214, b1218, p1219⟩ := p1212
    subst e1213
    subst e1214
    rcases p1219 with ⟨a1220, a1221, a1222, a1223, a1224, a1225, a1226, a1227, a1228, a1229⟩ | ⟨a1230, a1231, a1232, a1233, a1234, a1235, a1236⟩
    · have f1237 := f1189.tr f1216 rfl
      show wp _ _ 265 14 [(0, .ref r0), (1, vI a1), (2, vI a2)] [vI z1217] _ H1211 _
      refine wp_of e265 c265_14 (rw_istore_n (pc' := 15) (z := z1217) (L' := [(3, vI z1217), (0, .ref r0), (1, vI a1), (2, vI a2)]) rfl rfl rfl ?_)
      refine wp_of e265 c265_15 (rw_iload_n (pc' := 16) (z := z1217) rfl rfl ?_)
      obtain ⟨r1238, q1239, g1240⟩ := (w1215.opt g0 (t' := 54) (n := 33) (j := 3) (p := 0) (q := 0) rfl (by decide) rfl).resolve_left (by omega)
      have h1241 : RB T H1211 r0 e d := (RB_fr w1188 g0 f1216 rfl h1191)
      have _kbb := a1229
      have _kb := _kbb.1
      have _n3 : H1211 r0 3 ≠ -1 := by omega
      have _rp := RB_at h1241 q1239
      have _k := RP_k _rp
      have _nb := xcn_b (f := xwf e d) (xlots d).toNat
      have h1242 : KL T H1211 r0 (xwf e d) (xlots d).toNat := _kbb.2
      have _ar := RB_ar h1241 (by omega)
      have _pk := _ar.1
      have h1243 : LB23 T H1211 r0 yl (xsq d) := _ar.2.2.2.2.2.1
      refine wp_of e265 c265_16 (rw_if_le (p1 := 27) (p2 := 19) (by decide) rfl ⟨by omega, by omega⟩ (fun c1244 => ?_) (fun c1244 => ?_))
      · refine wp_of e265 c265_27 (rw_aload_n (pc' := 28) (v := .ref r0) rfl rfl rfl ?_)
        refine wp_of e265 c265_28 (rw_aload_n (pc' := 29) (v := .ref r0) rfl rfl rfl ?_)
        refine wp_of e265 c265_29 (rw_iload_n (pc' := 30) (z := a1) rfl rfl ?_)
        refine wp_of e265 c265_30 (rw_aload_n (pc' := 31) (v := .ref r0) rfl rfl rfl ?_)
        refine wp_of e265 c265_31 (xg_R (pc' := 34) lf_9_27 w1215 g0 sh_42 (by decide) (by decide) ty_42_23 rfl rfl (fun r1245 q1246 g1247 => ?_))
        have h1248 : RMl T H1211 r1245 (40 * (a1).toNat) ((xsp d (a1).toNat).length : Int) (fun i => ((xsp d (a1).toNat).getD i (0, 0)).2) := fun i hi => LB_x h1243 q1246 (k := (a1).toNat) (i := i) (s := 40 * (a1).toNat + i) (by omega) (by omega) (by omega) _pk (by omega)
        refine wp_of e265 c265_34 (rw_iload_n (pc' := 35) (z := a2) rfl rfl ?_)
        refine wp_of e265 c265_35 (xc_V (pc' := 38) (r := r0) (as := [vI a1, .ref r1245, vI a2]) (st := [.ref r0]) (lm_9_458) rfl rfl (Nat.le_of_ble_eq_true rfl) w1215 g0 sh_42 (by decide) rfl (by decide) (u_264_m_length (e := e) (d := d) w1215 g0 ⟨by omega, by omega⟩ g1247 ⟨by omega, by omega⟩ q1239 g1240 (by assumption) (by omega) (by omega) (by omega) (by omega) h1241 a1229 h1248) (fun R1249 T1250 H1251 p1252 => ?_))
        obtain ⟨e1253, w1255, f1256, z1257, e1254, b1258, p1259⟩ := p1252
        subst e1253
        subst e1254
        have f1261 := f1237.tr f1256 rfl
        show wp _ _ 265 38 [(3, vI z1217), (0, .ref r0), (1, vI a1), (2, vI a2)] [vI z1257, .ref r0] _ H1251 _
        refine wp_of e265 c265_38 (xc_V (pc' := 41) (r := r0) (as := [vI z1257]) (st := []) (lm_9_58) rfl rfl (Nat.le_of_ble_eq_true rfl) w1255 g0 sh_42 (by decide) rfl (by decide) (u_209  w1255 g0 ⟨by omega, by omega⟩) (fun R1262 T1263 H1264 p1265 => ?_))
        obtain ⟨e1266, w1268, f1269, z1270, e1267, b1271, p1272⟩ := p1265
        subst e1266
        subst e1267
        obtain ⟨a1273, a1274, a1275⟩ := p1272
        have f1276 := f1261.tr f1269 rfl
        show wp _ _ 265 41 [(3, vI z1217), (0, .ref r0), (1, vI a1), (2, vI a2)] [vI z1270] _ H1264 _
        have k1277 : wKI H1264 r0 = wKI H1211 r0 := ((wKI_fr w1255 g0 f1269 rfl).trans (wKI_fr w1215 g0 f1256 rfl))
        have h1278 : KNN T H1264 r0 e d := (KNN_fr w1255 g0 f1269 rfl (KNN_fr w1215 g0 f1256 rfl a1228))
        exact wp_ireturn e265 c265_41 rfl ⟨rfl, w1268, f1276, z1270, rfl, ⟨by omega, by omega⟩, (Or.inr ⟨by omega, by omega, by assumption, h1278⟩)⟩
      · exfalso
        omega
    · have f1279 := f1189.tr f1216 rfl
      show wp _ _ 265 14 [(0, .ref r0), (1, vI a1), (2, vI a2)] [vI z1217] _ H1211 _
      refine wp_of e265 c265_14 (rw_istore_n (pc' := 15) (z := z1217) (L' := [(3, vI z1217), (0, .ref r0), (1, vI a1), (2, vI a2)]) rfl rfl rfl ?_)
      refine wp_of e265 c265_15 (rw_iload_n (pc' := 16) (z := z1217) rfl rfl ?_)
      refine wp_of e265 c265_16 (rw_if_le (p1 := 27) (p2 := 19) (by decide) rfl ⟨by omega, by omega⟩ (fun c1280 => ?_) (fun c1280 => ?_))
      · exfalso
        omega
      · refine wp_of e265 c265_19 (rw_aload_n (pc' := 20) (v := .ref r0) rfl rfl rfl ?_)
        refine wp_of e265 c265_20 (rw_iload_n (pc' := 21) (z := z1217) rfl rfl ?_)
        refine wp_of e265 c265_21 (xc_V (pc' := 24) (r := r0) (as := [vI z1217]) (st := []) (lm_9_54) rfl rfl (Nat.le_of_ble_eq_true rfl) w1215 g0 sh_42 (by decide) rfl (by decide) (u_170  w1215 g0 ⟨by omega, by omega⟩) (fun R1281 T1282 H1283 p1284 => ?_))
        obtain ⟨e1285, w1287, f1288, z1289, e1286, b1290, p1291⟩ := p1284
        subst e1285
        subst e1286
        obtain ⟨a1292, a1293, a1294⟩ := p1291
        have f1295 := f1279.tr f1288 rfl
        show wp _ _ 265 24 [(3, vI z1217), (0, .ref r0), (1, vI a1), (2, vI a2)] [vI z1289] _ H1283 _
        refine wp_of e265 c265_24 (rw_goto (p1 := 41) (by decide) ?_)
        have k1296 : wKI H1283 r0 = wKI H1211 r0 := (wKI_fr w1215 g0 f1288 rfl)
        have h1297 : KNN T H1283 r0 e d := (KNN_fr w1215 g0 f1288 rfl a1236)
        exact wp_ireturn e265 c265_41 rfl ⟨rfl, w1287, f1295, z1289, rfl, ⟨by omega, by omega⟩, (Or.inl ⟨by omega, by omega, by omega, h1297⟩)⟩
  · show wp _ _ 265 11 [(0, .ref r0), (1, vI a1), (2, vI a2)] [vI z1199, .ref r0] _ H1186 _
    have k1298 : H1186 r0 3 = H r0 3 := (wq_u_j e1187 rfl)
    have k1299 : wKI H1186 r0 = wKI H r0 := (wKI_fr hW g0 ((wfr.rf (l := [(42, 0)])).put' e1187 g0 rfl) rfl)
    have h1300 : KNN T H1186 r0 e d := (KNN_fr hW g0 ((wfr.rf (l := [(42, 0)])).put' e1187 g0 rfl) rfl hKNN_r0)
    refine wp_of e265 c265_11 (xc_V (pc' := 14) (r := r0) (as := [vI z1199]) (st := []) (lm_9_447) rfl rfl (Nat.le_of_ble_eq_true rfl) w1188 g0 sh_42 (by decide) rfl (by decide) (u_253 (e := e) (d := d) w1188 g0 ⟨by omega, by omega⟩ (by omega) (by omega) (by assumption) (by assumption) (by assumption) (by assumption) h1191 h1300) (fun R1301 T1302 H1303 p1304 => ?_))
    obtain ⟨e1305, w1307, f1308, z1309, e1306, b1310, p1311⟩ := p1304
    subst e1305
    subst e1306
    rcases p1311 with ⟨a1312, a1313, a1314, a1315, a1316, a1317, a1318, a1319, a1320, a1321⟩ | ⟨a1322, a1323, a1324, a1325, a1326, a1327, a1328⟩
    · have f1329 := f1189.tr f1308 rfl
      show wp _ _ 265 14 [(0, .ref r0), (1, vI a1), (2, vI a2)] [vI z1309] _ H1303 _
      refine wp_of e265 c265_14 (rw_istore_n (pc' := 15) (z := z1309) (L' := [(3, vI z1309), (0, .ref r0), (1, vI a1), (2, vI a2)]) rfl rfl rfl ?_)
      refine wp_of e265 c265_15 (rw_iload_n (pc' := 16) (z := z1309) rfl rfl ?_)
      obtain ⟨r1330, q1331, g1332⟩ := (w1307.opt g0 (t' := 54) (n := 33) (j := 3) (p := 0) (q := 0) rfl (by decide) rfl).resolve_left (by omega)
      have h1333 : RB T H1303 r0 e d := (RB_fr w1188 g0 f1308 rfl h1191)
      have _kbb := a1321
      have _kb := _kbb.1
      have _n3 : H1303 r0 3 ≠ -1 := by omega
      have _rp := RB_at h1333 q1331
      have _k := RP_k _rp
      have _nb := xcn_b (f := xwf e d) (xlots d).toNat
      have h1334 : KL T H1303 r0 (xwf e d) (xlots d).toNat := _kbb.2
      have _ar := RB_ar h1333 (by omega)
      have _pk := _ar.1
      have h1335 : LB23 T H1303 r0 yl (xsq d) := _ar.2.2.2.2.2.1
      refine wp_of e265 c265_16 (rw_if_le (p1 := 27) (p2 := 19) (by decide) rfl ⟨by omega, by omega⟩ (fun c1336 => ?_) (fun c1336 => ?_))
      · refine wp_of e265 c265_27 (rw_aload_n (pc' := 28) (v := .ref r0) rfl rfl rfl ?_)
        refine wp_of e265 c265_28 (rw_aload_n (pc' := 29) (v := .ref r0) rfl rfl rfl ?_)
        refine wp_of e265 c265_29 (rw_iload_n (pc' := 30) (z := a1) rfl rfl ?_)
        refine wp_of e265 c265_30 (rw_aload_n (pc' := 31) (v := .ref r0) rfl rfl rfl ?_)
        refine wp_of e265 c265_31 (xg_R (pc' := 34) lf_9_27 w1307 g0 sh_42 (by decide) (by decide) ty_42_23 rfl rfl (fun r1337 q1338 g1339 => ?_))
        have h1340 : RMl T H1303 r1337 (40 * (a1).toNat) ((xsp d (a1).toNat).length : Int) (fun i => ((xsp d (a1).toNat).getD i (0, 0)).2) := fun i hi => LB_x h1335 q1338 (k := (a1).toNat) (i := i) (s := 40 * (a1).toNat + i) (by omega) (by omega) (by omega) _pk (by omega)
        refine wp_of e265 c265_34 (rw_iload_n (pc' := 35) (z := a2) rfl rfl ?_)
        refine wp_of e265 c265_35 (xc_V (pc' := 38) (r := r0) (as := [vI a1, .ref r1337, vI a2]) (st := [.ref r0]) (lm_9_458) rfl rfl (Nat.le_of_ble_eq_true rfl) w1307 g0 sh_42 (by decide) rfl (by decide) (u_264_m_length (e := e) (d := d) w1307 g0 ⟨by omega, by omega⟩ g1339 ⟨by omega, by omega⟩ q1331 g1332 (by assumption) (by omega) (by omega) (by omega) (by omega) h1333 a1321 h1340) (fun R1341 T1342 H1343 p1344 => ?_))
        obtain ⟨e1345, w1347, f1348, z1349, e1346, b1350, p1351⟩ := p1344
        subst e1345
        subst e1346
        have f1353 := f1329.tr f1348 rfl
        show wp _ _ 265 38 [(3, vI z1309), (0, .ref r0), (1, vI a1), (2, vI a2)] [vI z1349, .ref r0] _ H1343 _
        refine wp_of e265 c265_38 (xc_V (pc' := 41) (r := r0) (as := [vI z1349]) (st := []) (lm_9_58) rfl rfl (Nat.le_of_ble_eq_true rfl) w1347 g0 sh_42 (by decide) rfl (by decide) (u_209  w1347 g0 ⟨by omega, by omega⟩) (fun R1354 T1355 H1356 p1357 => ?_))
        obtain ⟨e1358, w1360, f1361, z1362, e1359, b1363, p1364⟩ := p1357
        subst e1358
        subst e1359
        obtain ⟨a1365, a1366, a1367⟩ := p1364
        have f1368 := f1353.tr f1361 rfl
        show wp _ _ 265 41 [(3, vI z1309), (0, .ref r0), (1, vI a1), (2, vI a2)] [vI z1362] _ H1356 _
        have k1369 : wKI H1356 r0 = wKI H1303 r0 := ((wKI_fr w1347 g0 f1361 rfl).trans (wKI_fr w1307 g0 f1348 rfl))
        have h1370 : KNN T H1356 r0 e d := (KNN_fr w1347 g0 f1361 rfl (KNN_fr w1307 g0 f1348 rfl a1320))
        exact wp_ireturn e265 c265_41 rfl ⟨rfl, w1360, f1368, z1362, rfl, ⟨by omega, by omega⟩, (Or.inr ⟨by omega, by omega, by assumption, h1370⟩)⟩
      · exfalso
        omega
    · have f1371 := f1189.tr f1308 rfl
      show wp _ _ 265 14 [(0, .ref r0), (1, vI a1), (2, vI a2)] [vI z1309] _ H1303 _
      refine wp_of e265 c265_14 (rw_istore_n (pc' := 15) (z := z1309) (L' := [(3, vI z1309), (0, .ref r0), (1, vI a1), (2, vI a2)]) rfl rfl rfl ?_)
      refine wp_of e265 c265_15 (rw_iload_n (pc' := 16) (z := z1309) rfl rfl ?_)
      refine wp_of e265 c265_16 (rw_if_le (p1 := 27) (p2 := 19) (by decide) rfl ⟨by omega, by omega⟩ (fun c1372 => ?_) (fun c1372 => ?_))
      · exfalso
        omega
      · refine wp_of e265 c265_19 (rw_aload_n (pc' := 20) (v := .ref r0) rfl rfl rfl ?_)
        refine wp_of e265 c265_20 (rw_iload_n (pc' := 21) (z := z1309) rfl rfl ?_)
        refine wp_of e265 c265_21 (xc_V (pc' := 24) (r := r0) (as := [vI z1309]) (st := []) (lm_9_54) rfl rfl (Nat.le_of_ble_eq_true rfl) w1307 g0 sh_42 (by decide) rfl (by decide) (u_170  w1307 g0 ⟨by omega, by omega⟩) (fun R1373 T1374 H1375 p1376 => ?_))
        obtain ⟨e1377, w1379, f1380, z1381, e1378, b1382, p1383⟩ := p1376
        subst e1377
        subst e1378
        obtain ⟨a1384, a1385, a1386⟩ := p1383
        have f1387 := f1371.tr f1380 rfl
        show wp _ _ 265 24 [(3, vI z1309), (0, .ref r0), (1, vI a1), (2, vI a2)] [vI z1381] _ H1375 _
        refine wp_of e265 c265_24 (rw_goto (p1 := 41) (by decide) ?_)
        have k1388 : wKI H1375 r0 = wKI H1303 r0 := (wKI_fr w1307 g0 f1380 rfl)
        have h1389 : KNN T H1375 r0 e d := (KNN_fr w1307 g0 f1380 rfl a1328)
        exact wp_ireturn e265 c265_41 rfl ⟨rfl, w1379, f1387, z1381, rfl, ⟨by omega, by omega⟩, (Or.inl ⟨by omega, by omega, by omega, h1389⟩)⟩
/-! StrikeAwakeModel.ask()I  -/
abbrev uq_266 (r0 : Nat) (e : xD) (d : xD) (T : wq_T) (H : wq_H) : Option Value → wq_T → wq_H → Prop := fun r T' H' => T = T' ∧ WT T H' ∧ wfr [(42, 0), (42, 1), (42, 2), (42, 28), (42, 29), (51, 999), (53, 999), (52, 999)] T H H' ∧ ∃ z : Int, some (vI z) = r ∧ ((-2147483648) ≤ z ∧ z ≤ 2147483647) ∧ (((wKI H' r0 = 1) ∧ KNN T H' r0 e d))
set_option maxHeartbeats 4000000 in
theorem u_266 {kt : Nat → Option mc_E} {T : wq_T} {H : wq_H} {r0 : Nat} {e : xD} {d : xD} (hW : WT T H) (g0 : T.2.2.2 r0 = some 42) (p0 : wKI H r0 = 1) (p1 : XW d) (p2 : ∀ h : Nat, d 0 0 ≤ (h : Int) → h < 24 → e 13 h = 0) (p3 : XN d) (p4 : ∀ h : Nat, h < 24 → 0 ≤ e 13 h ∧ e 13 h ≤ 100) (hRB_r0 : RB T H r0 e d) (hKNN_r0 : KNN T H r0 e d) : wpc kt 10 266 [.ref r0] T H (uq_266 r0 e d T H) := by
  refine wp_enter e266 (Nat.le_of_ble_eq_true rfl) rfl ?_
  have f0 : wfr [(42, 0), (42, 1), (42, 2), (42, 28), (42, 29), (51, 999), (53, 999), (52, 999)] T H H := wfr.rf
  show wp _ _ 266 0 [(0, .ref r0)] [] _ H _
  have _b := RB_b hW hRB_r0
  have _nu := RB_n3 hRB_r0
  have _lm := RB_lm hRB_r0
  refine wp_of e266 c266_0 (rw_aload_n (pc' := 1) (v := .ref r0) rfl rfl rfl ?_)
  refine wp_of e266 c266_1 (rw_iconst (pc' := 2) rfl ?_)
  refine wp_of e266 c266_2 (xp_I (pc' := 5) lf_9_48 hW g0 sh_42 (by decide) (by decide) ty_42_0 rfl rfl (by omega) (by omega) ⟨by omega, by omega⟩ rfl (fun H1121 e1122 w1123 => ?_))
  have f1124 := f0.put' e1122 g0 rfl
  have k1125 : H1121 r0 0 = 0 := wq_u_s e1122
  refine wp_of e266 c266_5 (rw_aload_n (pc' := 6) (v := .ref r0) rfl rfl rfl ?_)
  refine wp_of e266 c266_6 (rw_aload_n (pc' := 7) (v := .ref r0) rfl rfl rfl ?_)
  have k1126 : H1121 r0 3 = H r0 3 := (wq_u_j e1122 rfl)
  refine wp_of e266 c266_7 (xg_O (pc' := 10) lf_9_337 w1123 g0 sh_42 (by decide) (by decide) ty_42_3 rfl rfl (fun q1128 => ?_) (fun r1127 q1128 g1129 => ?_))
  · refine wp_of e266 c266_10 (rw_ifnull_n (p1 := 17) (p2 := 13) (by decide) rfl ?_)
    refine wp_of e266 c266_17 (rw_iconst (pc' := 18) rfl ?_)
    have k1130 : wKI H1121 r0 = wKI H r0 := (wKI_fr hW g0 ((wfr.rf (l := [(42, 0)])).put' e1122 g0 rfl) rfl)
    have h1131 : RB T H1121 r0 e d := (RB_fr hW g0 ((wfr.rf (l := [(42, 0)])).put' e1122 g0 rfl) rfl hRB_r0)
    have h1132 : KNN T H1121 r0 e d := (KNN_fr hW g0 ((wfr.rf (l := [(42, 0)])).put' e1122 g0 rfl) rfl hKNN_r0)
    refine wp_of e266 c266_18 (xc_V (pc' := 21) (r := r0) (as := [vI 0]) (st := []) (lm_9_467) rfl rfl (Nat.le_of_ble_eq_true rfl) w1123 g0 sh_42 (by decide) rfl (by decide) (u_267 (e := e) (d := d) w1123 g0 ⟨by omega, by omega⟩ (by omega) (by omega) (by assumption) (by assumption) (by assumption) (by assumption) h1131 h1132) (fun R1133 T1134 H1135 p1136 => ?_))
    obtain ⟨e1137, w1139, f1140, z1141, e1138, b1142, p1143⟩ := p1136
    subst e1137
    subst e1138
    obtain ⟨a1144, a1145, a1146, a1147, a1148⟩ := p1143
    have f1149 := f1124.tr f1140 rfl
    show wp _ _ 266 21 [(0, .ref r0)] [vI z1141] _ H1135 _
    refine wp_of e266 c266_21 (rw_istore_n (pc' := 22) (z := z1141) (L' := [(1, vI z1141), (0, .ref r0)]) rfl rfl rfl ?_)
    refine wp_of e266 c266_22 (rw_iload_n (pc' := 23) (z := z1141) rfl rfl ?_)
    refine wp_of e266 c266_23 (rw_if_le (p1 := 34) (p2 := 26) (by decide) rfl ⟨by omega, by omega⟩ (fun c1150 => ?_) (fun c1150 => ?_))
    · refine wp_of e266 c266_34 (rw_aload_n (pc' := 35) (v := .ref r0) rfl rfl rfl ?_)
      refine wp_of e266 c266_35 (rw_aload_n (pc' := 36) (v := .ref r0) rfl rfl rfl ?_)
      refine wp_of e266 c266_36 (rw_iconst (pc' := 37) rfl ?_)
      have k1151 : H1135 r0 3 = H1121 r0 3 := (f1140 r0 3 _ g0 rfl)
      have q1152 : H1135 r0 3 = -1 := k1151.trans q1128
      obtain ⟨r1153, q1154, g1155⟩ := (w1139.opt g0 (t' := 54) (n := 33) (j := 3) (p := 0) (q := 0) rfl (by decide) rfl).resolve_left (by omega)
      refine wp_of e266 c266_37 (xc_V (pc' := 40) (r := r0) (as := [vI (-1)]) (st := [.ref r0]) (lm_9_470) rfl rfl (Nat.le_of_ble_eq_true rfl) w1139 g0 sh_42 (by decide) rfl (by decide) (s_268 w1139 g0 ⟨by omega, by omega⟩ q1154 g1155 (by omega)) (fun R1156 T1157 H1158 p1159 => ?_))
      obtain ⟨e1160, w1162, f1163, z1164, e1161, b1165⟩ := p1159
      subst e1160
      subst e1161
      have f1166 := f1149.tr f1163 rfl
      show wp _ _ 266 40 [(1, vI z1141), (0, .ref r0)] [vI z1164, .ref r0] _ H1158 _
      refine wp_of e266 c266_40 (xc_V (pc' := 43) (r := r0) (as := [vI z1164]) (st := []) (lm_9_58) rfl rfl (Nat.le_of_ble_eq_true rfl) w1162 g0 sh_42 (by decide) rfl (by decide) (s_209 w1162 g0 ⟨by omega, by omega⟩) (fun R1167 T1168 H1169 p1170 => ?_))
      obtain ⟨e1171, w1173, f1174, z1175, e1172, b1176⟩ := p1170
      subst e1171
      subst e1172
      have f1177 := f1166.tr f1174 rfl
      show wp _ _ 266 43 [(1, vI z1141), (0, .ref r0)] [vI z1175] _ H1169 _
      have k1178 : wKI H1169 r0 = wKI H1135 r0 := ((wKI_fr w1162 g0 f1174 rfl).trans (wKI_fr w1139 g0 f1163 rfl))
      have h1179 : KNN T H1169 r0 e d := (KNN_fr w1162 g0 f1174 rfl (KNN_fr w1139 g0 f1163 rfl a1148))
      exact wp_ireturn e266 c266_43 rfl ⟨rfl, w1173, f1177, z1175, rfl, ⟨by omega, by omega⟩, ⟨by omega, h1179⟩⟩
    · refine wp_of e266 c266_26 (rw_aload_n (pc' := 27) (v := .ref r0) rfl rfl rfl ?_)
      refine wp_of e266 c266_27 (rw_iload_n (pc' := 28) (z := z1141) rfl rfl ?_)
      refine wp_of e266 c266_28 (xc_V (pc' := 31) (r := r0) (as := [vI z1141]) (st := []) (lm_9_54) rfl rfl (Nat.le_of_ble_eq_true rfl) w1139 g0 sh_42 (by decide) rfl (by decide) (s_170 w1139 g0 ⟨by omega, by omega⟩) (fun R1180 T1181 H1182 p1183 => ?_))
      obtain ⟨e1184, w1186, f1187, z1188, e1185, b1189⟩ := p1183
      subst e1184
      subst e1185
      have f1190 := f1149.tr f1187 rfl
      show wp _ _ 266 31 [(1, vI z1141), (0, .ref r0)] [vI z1188] _ H1182 _
      refine wp_of e266 c266_31 (rw_goto (p1 := 43) (by decide) ?_)
      have k1191 : wKI H1182 r0 = wKI H1135 r0 := (wKI_fr w1139 g0 f1187 rfl)
      have h1192 : KNN T H1182 r0 e d := (KNN_fr w1139 g0 f1187 rfl a1148)
      exact wp_ireturn e266 c266_43 rfl ⟨rfl, w1186, f1190, z1188, rfl, ⟨by omega, by omega⟩, ⟨by omega, h1192⟩⟩
  · refine wp_of e266 c266_10 (rw_ifnull_r (p1 := 17) (p2 := 13) (by decide) rfl ?_)
    refine wp_of e266 c266_13 (rw_iconst (pc' := 14) rfl ?_)
    refine wp_of e266 c266_14 (rw_goto (p1 := 18) (by decide) ?_)
    have k1193 : wKI H1121 r0 = wKI H r0 := (wKI_fr hW g0 ((wfr.rf (l := [(42, 0)])).put' e1122 g0 rfl) rfl)
    have h1194 : RB T H1121 r0 e d := (RB_fr hW g0 ((wfr.rf (l := [(42, 0)])).put' e1122 g0 rfl) rfl hRB_r0)
    have h1195 : KNN T H1121 r0 e d := (KNN_fr hW g0 ((wfr.rf (l := [(42, 0)])).put' e1122 g0 rfl) rfl hKNN_r0)
    refine wp_of e266 c266_18 (xc_V (pc' := 21) (r := r0) (as := [vI 1]) (st := []) (lm_9_467) rfl rfl (Nat.le_of_ble_eq_true rfl) w1123 g0 sh_42 (by decide) rfl (by decide) (u_267 (e := e) (d := d) w1123 g0 ⟨by omega, by omega⟩ (by omega) (by omega) (by assumption) (by assumption) (by assumption) (by assumption) h1194 h1195) (fun R1196 T1197 H1198 p1199 => ?_))
    obtain ⟨e1200, w1202, f1203, z1204, e1201, b1205, p1206⟩ := p1199
    subst e1200
    subst e1201
    obtain ⟨a1207, a1208, a1209, a1210, a1211⟩ := p1206
    have f1212 := f1124.tr f1203 rfl
    show wp _ _ 266 21 [(0, .ref r0)] [vI z1204] _ H1198 _
    refine wp_of e266 c266_21 (rw_istore_n (pc' := 22) (z := z1204) (L' := [(1, vI z1204), (0, .ref r0)]) rfl rfl rfl ?_)
    refine wp_of e266 c266_22 (rw_iload_n (pc' := 23) (z := z1204) rfl rfl ?_)
    refine wp_of e266 c266_23 (rw_if_le (p1 := 34) (p2 := 26) (by decide) rfl ⟨by omega, by omega⟩ (fun c1213 => ?_) (fun c1213 => ?_))
    · refine wp_of e266 c266_34 (rw_aload_n (pc' := 35) (v := .ref r0) rfl rfl rfl ?_)
      refine wp_of e266 c266_35 (rw_aload_n (pc' := 36) (v := .ref r0) rfl rfl rfl ?_)
      refine wp_of e266 c266_36 (rw_iconst (pc' := 37) rfl ?_)
      have k1214 : H1198 r0 3 = H1121 r0 3 := (f1203 r0 3 _ g0 rfl)
      have q1215 : H1198 r0 3 = (r1127 : Int) := k1214.trans q1128
      refine wp_of e266 c266_37 (xc_V (pc' := 40) (r := r0) (as := [vI (-1)]) (st := [.ref r0]) (lm_9_470) rfl rfl (Nat.le_of_ble_eq_true rfl) w1202 g0 sh_42 (by decide) rfl (by decide) (s_268 w1202 g0 ⟨by omega, by omega⟩ q1215 g1129 (by omega)) (fun R1216 T1217 H1218 p1219 => ?_))
      obtain ⟨e1220, w1222, f1223, z1224, e1221, b1225⟩ := p1219
      subst e1220
      subst e1221
      have f1226 := f1212.tr f1223 rfl
      show wp _ _ 266 40 [(1, vI z1204), (0, .ref r0)] [vI z1224, .ref r0] _ H1218 _
      refine wp_of e266 c266_40 (xc_V (pc' := 43) (r := r0) (as := [vI z1224]) (st := []) (lm_9_58) rfl rfl (Nat.le_of_ble_eq_true rfl) w1222 g0 sh_42 (by decide) rfl (by decide) (s_209 w1222 g0 ⟨by omega, by omega⟩) (fun R1227 T1228 H1229 p1230 => ?_))
      obtain ⟨e1231, w1233, f1234, z1235, e1232, b1236⟩ := p1230
      subst e1231
      subst e1232
      have f1237 := f1226.tr f1234 rfl
      show wp _ _ 266 43 [(1, vI z1204), (0, .ref r0)] [vI z1235] _ H1229 _
      have k1238 : wKI H1229 r0 = wKI H1198 r0 := ((wKI_fr w1222 g0 f1234 rfl).trans (wKI_fr w1202 g0 f1223 rfl))
      have h1239 : KNN T H1229 r0 e d := (KNN_fr w1222 g0 f1234 rfl (KNN_fr w1202 g0 f1223 rfl a1211))
      exact wp_ireturn e266 c266_43 rfl ⟨rfl, w1233, f1237, z1235, rfl, ⟨by omega, by omega⟩, ⟨by omega, h1239⟩⟩
    · refine wp_of e266 c266_26 (rw_aload_n (pc' := 27) (v := .ref r0) rfl rfl rfl ?_)
      refine wp_of e266 c266_27 (rw_iload_n (pc' := 28) (z := z1204) rfl rfl ?_)
      refine wp_of e266 c266_28 (xc_V (pc' := 31) (r := r0) (as := [vI z1204]) (st := []) (lm_9_54) rfl rfl (Nat.le_of_ble_eq_true rfl) w1202 g0 sh_42 (by decide) rfl (by decide) (s_170 w1202 g0 ⟨by omega, by omega⟩) (fun R1240 T1241 H1242 p1243 => ?_))
      obtain ⟨e1244, w1246, f1247, z1248, e1245, b1249⟩ := p1243
      subst e1244
      subst e1245
      have f1250 := f1212.tr f1247 rfl
      show wp _ _ 266 31 [(1, vI z1204), (0, .ref r0)] [vI z1248] _ H1242 _
      refine wp_of e266 c266_31 (rw_goto (p1 := 43) (by decide) ?_)
      have k1251 : wKI H1242 r0 = wKI H1198 r0 := (wKI_fr w1202 g0 f1247 rfl)
      have h1252 : KNN T H1242 r0 e d := (KNN_fr w1202 g0 f1247 rfl a1211)
      exact wp_ireturn e266 c266_43 rfl ⟨rfl, w1246, f1250, z1248, rfl, ⟨by omega, by omega⟩, ⟨by omega, h1252⟩⟩
/-! StrikeAwakeModel.askFor(I)I  -/
abbrev uq_271 (r0 : Nat) (a1 : Int) (e : xD) (d : xD) (T : wq_T) (H : wq_H) : Option Value → wq_T → wq_H → Prop := fun r T' H' => T = T' ∧ WT T H' ∧ wfr [(42, 0), (42, 1), (42, 2), (42, 28), (42, 29), (51, 999), (53, 999), (52, 999)] T H H' ∧ ∃ z : Int, some (vI z) = r ∧ ((-2147483648) ≤ z ∧ z ≤ 2147483647) ∧ (((wKI H' r0 = 1) ∧ KNN T H' r0 e d))
set_option maxHeartbeats 4000000 in
theorem u_271 {kt : Nat → Option mc_E} {T : wq_T} {H : wq_H} {r0 : Nat} {a1 : Int} {e : xD} {d : xD} (hW : WT T H) (g0 : T.2.2.2 r0 = some 42) (i1 : (-2147483648) ≤ a1 ∧ a1 ≤ 2147483647) (p0 : wKI H r0 = 1) (p1 : XW d) (p2 : ∀ h : Nat, d 0 0 ≤ (h : Int) → h < 24 → e 13 h = 0) (p3 : XN d) (p4 : ∀ h : Nat, h < 24 → 0 ≤ e 13 h ∧ e 13 h ≤ 100) (hRB_r0 : RB T H r0 e d) (hKNN_r0 : KNN T H r0 e d) : wpc kt 10 271 [.ref r0, vI a1] T H (uq_271 r0 a1 e d T H) := by
  refine wp_enter e271 (Nat.le_of_ble_eq_true rfl) rfl ?_
  have f0 : wfr [(42, 0), (42, 1), (42, 2), (42, 28), (42, 29), (51, 999), (53, 999), (52, 999)] T H H := wfr.rf
  show wp _ _ 271 0 [(0, .ref r0), (1, vI a1)] [] _ H _
  have _b := RB_b hW hRB_r0
  have _nu := RB_n3 hRB_r0
  have _lm := RB_lm hRB_r0
  refine wp_of e271 c271_0 (rw_aload_n (pc' := 1) (v := .ref r0) rfl rfl rfl ?_)
  refine wp_of e271 c271_1 (rw_iconst (pc' := 2) rfl ?_)
  refine wp_of e271 c271_2 (xp_I (pc' := 5) lf_9_48 hW g0 sh_42 (by decide) (by decide) ty_42_0 rfl rfl (by omega) (by omega) ⟨by omega, by omega⟩ rfl (fun H1073 e1074 w1075 => ?_))
  have f1076 := f0.put' e1074 g0 rfl
  have k1077 : H1073 r0 0 = 0 := wq_u_s e1074
  refine wp_of e271 c271_5 (rw_aload_n (pc' := 6) (v := .ref r0) rfl rfl rfl ?_)
  refine wp_of e271 c271_6 (rw_aload_n (pc' := 7) (v := .ref r0) rfl rfl rfl ?_)
  refine wp_of e271 c271_7 (rw_iload_n (pc' := 8) (z := a1) rfl rfl ?_)
  refine wp_of e271 c271_8 (xc_V (pc' := 11) (r := r0) (as := [vI a1]) (st := [.ref r0]) (lm_9_373) rfl rfl (Nat.le_of_ble_eq_true rfl) w1075 g0 sh_42 (by decide) rfl (by decide) (s_218 w1075 g0 ⟨by omega, by omega⟩) (fun R1078 T1079 H1080 p1081 => ?_))
  obtain ⟨e1082, e1084, z1086, e1083, b1087, p1085⟩ := p1081
  subst e1082
  subst e1083
  subst e1084
  show wp _ _ 271 11 [(0, .ref r0), (1, vI a1)] [vI z1086, .ref r0] _ H1073 _
  have k1088 : H1073 r0 3 = H r0 3 := (wq_u_j e1074 rfl)
  have k1089 : wKI H1073 r0 = wKI H r0 := (wKI_fr hW g0 ((wfr.rf (l := [(42, 0)])).put' e1074 g0 rfl) rfl)
  have h1090 : RB T H1073 r0 e d := (RB_fr hW g0 ((wfr.rf (l := [(42, 0)])).put' e1074 g0 rfl) rfl hRB_r0)
  have h1091 : KNN T H1073 r0 e d := (KNN_fr hW g0 ((wfr.rf (l := [(42, 0)])).put' e1074 g0 rfl) rfl hKNN_r0)
  refine wp_of e271 c271_11 (xc_V (pc' := 14) (r := r0) (as := [vI z1086]) (st := []) (lm_9_467) rfl rfl (Nat.le_of_ble_eq_true rfl) w1075 g0 sh_42 (by decide) rfl (by decide) (u_267 (e := e) (d := d) w1075 g0 ⟨by omega, by omega⟩ (by omega) (by omega) (by assumption) (by assumption) (by assumption) (by assumption) h1090 h1091) (fun R1092 T1093 H1094 p1095 => ?_))
  obtain ⟨e1096, w1098, f1099, z1100, e1097, b1101, p1102⟩ := p1095
  subst e1096
  subst e1097
  obtain ⟨a1103, a1104, a1105, a1106, a1107⟩ := p1102
  have f1108 := f1076.tr f1099 rfl
  show wp _ _ 271 14 [(0, .ref r0), (1, vI a1)] [vI z1100] _ H1094 _
  refine wp_of e271 c271_14 (rw_istore_n (pc' := 15) (z := z1100) (L' := [(2, vI z1100), (0, .ref r0), (1, vI a1)]) rfl rfl rfl ?_)
  refine wp_of e271 c271_15 (rw_iload_n (pc' := 16) (z := z1100) rfl rfl ?_)
  refine wp_of e271 c271_16 (rw_if_le (p1 := 27) (p2 := 19) (by decide) rfl ⟨by omega, by omega⟩ (fun c1109 => ?_) (fun c1109 => ?_))
  · refine wp_of e271 c271_27 (rw_aload_n (pc' := 28) (v := .ref r0) rfl rfl rfl ?_)
    refine wp_of e271 c271_28 (rw_aload_n (pc' := 29) (v := .ref r0) rfl rfl rfl ?_)
    refine wp_of e271 c271_29 (rw_iload_n (pc' := 30) (z := a1) rfl rfl ?_)
    have k1110 : H1094 r0 3 = H1073 r0 3 := (f1099 r0 3 _ g0 rfl)
    obtain ⟨r1111, q1112, g1113⟩ := (w1098.opt g0 (t' := 54) (n := 33) (j := 3) (p := 0) (q := 0) rfl (by decide) rfl).resolve_left (by omega)
    refine wp_of e271 c271_30 (xc_V (pc' := 33) (r := r0) (as := [vI a1]) (st := [.ref r0]) (lm_9_470) rfl rfl (Nat.le_of_ble_eq_true rfl) w1098 g0 sh_42 (by decide) rfl (by decide) (s_268 w1098 g0 ⟨by omega, by omega⟩ q1112 g1113 (by omega)) (fun R1114 T1115 H1116 p1117 => ?_))
    obtain ⟨e1118, w1120, f1121, z1122, e1119, b1123⟩ := p1117
    subst e1118
    subst e1119
    have f1124 := f1108.tr f1121 rfl
    show wp _ _ 271 33 [(2, vI z1100), (0, .ref r0), (1, vI a1)] [vI z1122, .ref r0] _ H1116 _
    refine wp_of e271 c271_33 (xc_V (pc' := 36) (r := r0) (as := [vI z1122]) (st := []) (lm_9_58) rfl rfl (Nat.le_of_ble_eq_true rfl) w1120 g0 sh_42 (by decide) rfl (by decide) (s_209 w1120 g0 ⟨by omega, by omega⟩) (fun R1125 T1126 H1127 p1128 => ?_))
    obtain ⟨e1129, w1131, f1132, z1133, e1130, b1134⟩ := p1128
    subst e1129
    subst e1130
    have f1135 := f1124.tr f1132 rfl
    show wp _ _ 271 36 [(2, vI z1100), (0, .ref r0), (1, vI a1)] [vI z1133] _ H1127 _
    have k1136 : wKI H1127 r0 = wKI H1094 r0 := ((wKI_fr w1120 g0 f1132 rfl).trans (wKI_fr w1098 g0 f1121 rfl))
    have h1137 : KNN T H1127 r0 e d := (KNN_fr w1120 g0 f1132 rfl (KNN_fr w1098 g0 f1121 rfl a1107))
    exact wp_ireturn e271 c271_36 rfl ⟨rfl, w1131, f1135, z1133, rfl, ⟨by omega, by omega⟩, ⟨by omega, h1137⟩⟩
  · refine wp_of e271 c271_19 (rw_aload_n (pc' := 20) (v := .ref r0) rfl rfl rfl ?_)
    refine wp_of e271 c271_20 (rw_iload_n (pc' := 21) (z := z1100) rfl rfl ?_)
    refine wp_of e271 c271_21 (xc_V (pc' := 24) (r := r0) (as := [vI z1100]) (st := []) (lm_9_54) rfl rfl (Nat.le_of_ble_eq_true rfl) w1098 g0 sh_42 (by decide) rfl (by decide) (s_170 w1098 g0 ⟨by omega, by omega⟩) (fun R1138 T1139 H1140 p1141 => ?_))
    obtain ⟨e1142, w1144, f1145, z1146, e1143, b1147⟩ := p1141
    subst e1142
    subst e1143
    have f1148 := f1108.tr f1145 rfl
    show wp _ _ 271 24 [(2, vI z1100), (0, .ref r0), (1, vI a1)] [vI z1146] _ H1140 _
    refine wp_of e271 c271_24 (rw_goto (p1 := 36) (by decide) ?_)
    have k1149 : wKI H1140 r0 = wKI H1094 r0 := (wKI_fr w1098 g0 f1145 rfl)
    have h1150 : KNN T H1140 r0 e d := (KNN_fr w1098 g0 f1145 rfl a1107)
    exact wp_ireturn e271 c271_36 rfl ⟨rfl, w1144, f1148, z1146, rfl, ⟨by omega, by omega⟩, ⟨by omega, h1150⟩⟩
/-! StrikeAwakeModel.lie(I)I  -/
abbrev uq_272 (r0 : Nat) (a1 : Int) (e : xD) (d : xD) (T : wq_T) (H : wq_H) : Option Value → wq_T → wq_H → Prop := fun r T' H' => T = T' ∧ WT T H' ∧ wfr [(42, 0), (42, 1), (42, 2), (42, 28), (42, 29), (51, 999), (52, 999)] T H H' ∧ ∃ z : Int, some (vI z) = r ∧ ((-2147483648) ≤ z ∧ z ≤ 2147483647) ∧ (((wKI H' r0 = 1) ∧ KNN T H' r0 e d))
set_option maxHeartbeats 4000000 in
theorem u_272 {kt : Nat → Option mc_E} {T : wq_T} {H : wq_H} {r0 : Nat} {a1 : Int} {e : xD} {d : xD} (hW : WT T H) (g0 : T.2.2.2 r0 = some 42) (i1 : (-2147483648) ≤ a1 ∧ a1 ≤ 2147483647) (p0 : wKI H r0 = 1) (p1 : XW d) (p2 : ∀ h : Nat, d 0 0 ≤ (h : Int) → h < 24 → e 13 h = 0) (p3 : XN d) (p4 : ∀ h : Nat, h < 24 → 0 ≤ e 13 h ∧ e 13 h ≤ 100) (hRB_r0 : RB T H r0 e d) (hKNN_r0 : KNN T H r0 e d) : wpc kt 8 272 [.ref r0, vI a1] T H (uq_272 r0 a1 e d T H) := by
  refine wp_enter e272 (Nat.le_of_ble_eq_true rfl) rfl ?_
  have f0 : wfr [(42, 0), (42, 1), (42, 2), (42, 28), (42, 29), (51, 999), (52, 999)] T H H := wfr.rf
  show wp _ _ 272 0 [(0, .ref r0), (1, vI a1)] [] _ H _
  have _b := RB_b hW hRB_r0
  have _nu := RB_n3 hRB_r0
  have _lm := RB_lm hRB_r0
  refine wp_of e272 c272_0 (rw_aload_n (pc' := 1) (v := .ref r0) rfl rfl rfl ?_)
  refine wp_of e272 c272_1 (rw_iconst (pc' := 2) rfl ?_)
  refine wp_of e272 c272_2 (xp_I (pc' := 5) lf_9_48 hW g0 sh_42 (by decide) (by decide) ty_42_0 rfl rfl (by omega) (by omega) ⟨by omega, by omega⟩ rfl (fun H1098 e1099 w1100 => ?_))
  have f1101 := f0.put' e1099 g0 rfl
  have k1102 : H1098 r0 0 = 0 := wq_u_s e1099
  refine wp_of e272 c272_5 (rw_aload_n (pc' := 6) (v := .ref r0) rfl rfl rfl ?_)
  refine wp_of e272 c272_6 (rw_aload_n (pc' := 7) (v := .ref r0) rfl rfl rfl ?_)
  refine wp_of e272 c272_7 (rw_iload_n (pc' := 8) (z := a1) rfl rfl ?_)
  refine wp_of e272 c272_8 (xc_V (pc' := 11) (r := r0) (as := [vI a1]) (st := [.ref r0]) (lm_9_473) rfl rfl (Nat.le_of_ble_eq_true rfl) w1100 g0 sh_42 (by decide) rfl (by decide) (s_273 w1100 g0 ⟨by omega, by omega⟩) (fun R1103 T1104 H1105 p1106 => ?_))
  obtain ⟨e1107, e1109, z1111, e1108, b1112, p1110⟩ := p1106
  subst e1107
  subst e1108
  subst e1109
  show wp _ _ 272 11 [(0, .ref r0), (1, vI a1)] [vI z1111, .ref r0] _ H1098 _
  have k1113 : H1098 r0 3 = H r0 3 := (wq_u_j e1099 rfl)
  have k1114 : wKI H1098 r0 = wKI H r0 := (wKI_fr hW g0 ((wfr.rf (l := [(42, 0)])).put' e1099 g0 rfl) rfl)
  have h1115 : RB T H1098 r0 e d := (RB_fr hW g0 ((wfr.rf (l := [(42, 0)])).put' e1099 g0 rfl) rfl hRB_r0)
  have h1116 : KNN T H1098 r0 e d := (KNN_fr hW g0 ((wfr.rf (l := [(42, 0)])).put' e1099 g0 rfl) rfl hKNN_r0)
  refine wp_of e272 c272_11 (xc_V (pc' := 14) (r := r0) (as := [vI z1111]) (st := []) (lm_9_433) rfl rfl (Nat.le_of_ble_eq_true rfl) w1100 g0 sh_42 (by decide) rfl (by decide) (u_241 (e := e) (d := d) w1100 g0 ⟨by omega, by omega⟩ (by omega) (by omega) (by assumption) (by assumption) (by assumption) (by assumption) h1115 h1116) (fun R1117 T1118 H1119 p1120 => ?_))
  obtain ⟨e1121, w1123, f1124, z1125, e1122, b1126, p1127⟩ := p1120
  subst e1121
  subst e1122
  rcases p1127 with ⟨a1128, a1129, a1130, a1131, a1132, a1133, a1134, a1135, a1136⟩ | ⟨a1137, a1138, a1139, a1140, a1141, a1142, a1143⟩
  · have f1144 := f1101.tr f1124 rfl
    show wp _ _ 272 14 [(0, .ref r0), (1, vI a1)] [vI z1125] _ H1119 _
    refine wp_of e272 c272_14 (rw_istore_n (pc' := 15) (z := z1125) (L' := [(2, vI z1125), (0, .ref r0), (1, vI a1)]) rfl rfl rfl ?_)
    refine wp_of e272 c272_15 (rw_iload_n (pc' := 16) (z := z1125) rfl rfl ?_)
    refine wp_of e272 c272_16 (rw_if_le (p1 := 27) (p2 := 19) (by decide) rfl ⟨by omega, by omega⟩ (fun c1145 => ?_) (fun c1145 => ?_))
    · refine wp_of e272 c272_27 (rw_aload_n (pc' := 28) (v := .ref r0) rfl rfl rfl ?_)
      refine wp_of e272 c272_28 (rw_aload_n (pc' := 29) (v := .ref r0) rfl rfl rfl ?_)
      refine wp_of e272 c272_29 (rw_iload_n (pc' := 30) (z := a1) rfl rfl ?_)
      have k1146 : H1119 r0 3 = H1098 r0 3 := (f1124 r0 3 _ g0 rfl)
      obtain ⟨r1147, q1148, g1149⟩ := (w1123.opt g0 (t' := 54) (n := 33) (j := 3) (p := 0) (q := 0) rfl (by decide) rfl).resolve_left (by omega)
      refine wp_of e272 c272_30 (xc_V (pc' := 33) (r := r0) (as := [vI a1]) (st := [.ref r0]) (lm_9_476) rfl rfl (Nat.le_of_ble_eq_true rfl) w1123 g0 sh_42 (by decide) rfl (by decide) (s_274 w1123 g0 ⟨by omega, by omega⟩ q1148 g1149 (by omega)) (fun R1150 T1151 H1152 p1153 => ?_))
      obtain ⟨e1154, w1156, f1157, z1158, e1155, b1159⟩ := p1153
      subst e1154
      subst e1155
      have f1160 := f1144.tr f1157 rfl
      show wp _ _ 272 33 [(2, vI z1125), (0, .ref r0), (1, vI a1)] [vI z1158, .ref r0] _ H1152 _
      refine wp_of e272 c272_33 (rw_bipush (pc' := 35) (z := 24) rfl (by decide) ?_)
      refine wp_of e272 c272_35 (rw_icmp_ne (p1 := 42) (p2 := 38) (by decide) rfl ⟨by omega, by omega⟩ ⟨by omega, by omega⟩ (fun c1161 => ?_) (fun c1161 => ?_))
      · refine wp_of e272 c272_42 (rw_iconst (pc' := 43) rfl ?_)
        refine wp_of e272 c272_43 (xc_V (pc' := 46) (r := r0) (as := [vI 1]) (st := []) (lm_9_58) rfl rfl (Nat.le_of_ble_eq_true rfl) w1156 g0 sh_42 (by decide) rfl (by decide) (s_209 w1156 g0 ⟨by omega, by omega⟩) (fun R1162 T1163 H1164 p1165 => ?_))
        obtain ⟨e1166, w1168, f1169, z1170, e1167, b1171⟩ := p1165
        subst e1166
        subst e1167
        have f1172 := f1160.tr f1169 rfl
        show wp _ _ 272 46 [(2, vI z1125), (0, .ref r0), (1, vI a1)] [vI z1170] _ H1164 _
        have k1173 : wKI H1164 r0 = wKI H1119 r0 := ((wKI_fr w1156 g0 f1169 rfl).trans (wKI_fr w1123 g0 f1157 rfl))
        have h1174 : KNN T H1164 r0 e d := (KNN_fr w1156 g0 f1169 rfl (KNN_fr w1123 g0 f1157 rfl a1135))
        exact wp_ireturn e272 c272_46 rfl ⟨rfl, w1168, f1172, z1170, rfl, ⟨by omega, by omega⟩, ⟨by omega, h1174⟩⟩
      · refine wp_of e272 c272_38 (rw_iconst (pc' := 39) rfl ?_)
        refine wp_of e272 c272_39 (rw_goto (p1 := 43) (by decide) ?_)
        refine wp_of e272 c272_43 (xc_V (pc' := 46) (r := r0) (as := [vI 0]) (st := []) (lm_9_58) rfl rfl (Nat.le_of_ble_eq_true rfl) w1156 g0 sh_42 (by decide) rfl (by decide) (s_209 w1156 g0 ⟨by omega, by omega⟩) (fun R1175 T1176 H1177 p1178 => ?_))
        obtain ⟨e1179, w1181, f1182, z1183, e1180, b1184⟩ := p1178
        subst e1179
        subst e1180
        have f1185 := f1160.tr f1182 rfl
        show wp _ _ 272 46 [(2, vI z1125), (0, .ref r0), (1, vI a1)] [vI z1183] _ H1177 _
        have k1186 : wKI H1177 r0 = wKI H1119 r0 := ((wKI_fr w1156 g0 f1182 rfl).trans (wKI_fr w1123 g0 f1157 rfl))
        have h1187 : KNN T H1177 r0 e d := (KNN_fr w1156 g0 f1182 rfl (KNN_fr w1123 g0 f1157 rfl a1135))
        exact wp_ireturn e272 c272_46 rfl ⟨rfl, w1181, f1185, z1183, rfl, ⟨by omega, by omega⟩, ⟨by omega, h1187⟩⟩
    · exfalso
      omega
  · have f1188 := f1101.tr f1124 rfl
    show wp _ _ 272 14 [(0, .ref r0), (1, vI a1)] [vI z1125] _ H1119 _
    refine wp_of e272 c272_14 (rw_istore_n (pc' := 15) (z := z1125) (L' := [(2, vI z1125), (0, .ref r0), (1, vI a1)]) rfl rfl rfl ?_)
    refine wp_of e272 c272_15 (rw_iload_n (pc' := 16) (z := z1125) rfl rfl ?_)
    refine wp_of e272 c272_16 (rw_if_le (p1 := 27) (p2 := 19) (by decide) rfl ⟨by omega, by omega⟩ (fun c1189 => ?_) (fun c1189 => ?_))
    · exfalso
      omega
    · refine wp_of e272 c272_19 (rw_aload_n (pc' := 20) (v := .ref r0) rfl rfl rfl ?_)
      refine wp_of e272 c272_20 (rw_iload_n (pc' := 21) (z := z1125) rfl rfl ?_)
      refine wp_of e272 c272_21 (xc_V (pc' := 24) (r := r0) (as := [vI z1125]) (st := []) (lm_9_54) rfl rfl (Nat.le_of_ble_eq_true rfl) w1123 g0 sh_42 (by decide) rfl (by decide) (s_170 w1123 g0 ⟨by omega, by omega⟩) (fun R1190 T1191 H1192 p1193 => ?_))
      obtain ⟨e1194, w1196, f1197, z1198, e1195, b1199⟩ := p1193
      subst e1194
      subst e1195
      have f1200 := f1188.tr f1197 rfl
      show wp _ _ 272 24 [(2, vI z1125), (0, .ref r0), (1, vI a1)] [vI z1198] _ H1192 _
      refine wp_of e272 c272_24 (rw_goto (p1 := 46) (by decide) ?_)
      have k1201 : wKI H1192 r0 = wKI H1119 r0 := (wKI_fr w1123 g0 f1197 rfl)
      have h1202 : KNN T H1192 r0 e d := (KNN_fr w1123 g0 f1197 rfl a1143)
      exact wp_ireturn e272 c272_46 rfl ⟨rfl, w1196, f1200, z1198, rfl, ⟨by omega, by omega⟩, ⟨by omega, h1202⟩⟩
/-! StrikeAwakeModel.bars(I)I  -/
abbrev uq_275 (r0 : Nat) (a1 : Int) (e : xD) (d : xD) (T : wq_T) (H : wq_H) : Option Value → wq_T → wq_H → Prop := fun r T' H' => T = T' ∧ WT T H' ∧ wfr [(42, 0), (42, 1), (42, 2), (42, 28), (42, 29), (51, 999), (52, 999)] T H H' ∧ ∃ z : Int, some (vI z) = r ∧ ((-2147483648) ≤ z ∧ z ≤ 2147483647) ∧ (((wKI H' r0 = 1) ∧ KNN T H' r0 e d))
set_option maxHeartbeats 4000000 in
theorem u_275 {kt : Nat → Option mc_E} {T : wq_T} {H : wq_H} {r0 : Nat} {a1 : Int} {e : xD} {d : xD} (hW : WT T H) (g0 : T.2.2.2 r0 = some 42) (i1 : (-2147483648) ≤ a1 ∧ a1 ≤ 2147483647) (p0 : wKI H r0 = 1) (p1 : XW d) (p2 : ∀ h : Nat, d 0 0 ≤ (h : Int) → h < 24 → e 13 h = 0) (p3 : XN d) (p4 : ∀ h : Nat, h < 24 → 0 ≤ e 13 h ∧ e 13 h ≤ 100) (hRB_r0 : RB T H r0 e d) (hKNN_r0 : KNN T H r0 e d) : wpc kt 8 275 [.ref r0, vI a1] T H (uq_275 r0 a1 e d T H) := by
  refine wp_enter e275 (Nat.le_of_ble_eq_true rfl) rfl ?_
  have f0 : wfr [(42, 0), (42, 1), (42, 2), (42, 28), (42, 29), (51, 999), (52, 999)] T H H := wfr.rf
  show wp _ _ 275 0 [(0, .ref r0), (1, vI a1)] [] _ H _
  have _b := RB_b hW hRB_r0
  have _nu := RB_n3 hRB_r0
  have _lm := RB_lm hRB_r0
  refine wp_of e275 c275_0 (rw_aload_n (pc' := 1) (v := .ref r0) rfl rfl rfl ?_)
  refine wp_of e275 c275_1 (rw_iconst (pc' := 2) rfl ?_)
  refine wp_of e275 c275_2 (xp_I (pc' := 5) lf_9_48 hW g0 sh_42 (by decide) (by decide) ty_42_0 rfl rfl (by omega) (by omega) ⟨by omega, by omega⟩ rfl (fun H1098 e1099 w1100 => ?_))
  have f1101 := f0.put' e1099 g0 rfl
  have k1102 : H1098 r0 0 = 0 := wq_u_s e1099
  refine wp_of e275 c275_5 (rw_aload_n (pc' := 6) (v := .ref r0) rfl rfl rfl ?_)
  refine wp_of e275 c275_6 (rw_aload_n (pc' := 7) (v := .ref r0) rfl rfl rfl ?_)
  refine wp_of e275 c275_7 (rw_iload_n (pc' := 8) (z := a1) rfl rfl ?_)
  refine wp_of e275 c275_8 (xc_V (pc' := 11) (r := r0) (as := [vI a1]) (st := [.ref r0]) (lm_9_473) rfl rfl (Nat.le_of_ble_eq_true rfl) w1100 g0 sh_42 (by decide) rfl (by decide) (s_273 w1100 g0 ⟨by omega, by omega⟩) (fun R1103 T1104 H1105 p1106 => ?_))
  obtain ⟨e1107, e1109, z1111, e1108, b1112, p1110⟩ := p1106
  subst e1107
  subst e1108
  subst e1109
  show wp _ _ 275 11 [(0, .ref r0), (1, vI a1)] [vI z1111, .ref r0] _ H1098 _
  have k1113 : H1098 r0 3 = H r0 3 := (wq_u_j e1099 rfl)
  have k1114 : wKI H1098 r0 = wKI H r0 := (wKI_fr hW g0 ((wfr.rf (l := [(42, 0)])).put' e1099 g0 rfl) rfl)
  have h1115 : RB T H1098 r0 e d := (RB_fr hW g0 ((wfr.rf (l := [(42, 0)])).put' e1099 g0 rfl) rfl hRB_r0)
  have h1116 : KNN T H1098 r0 e d := (KNN_fr hW g0 ((wfr.rf (l := [(42, 0)])).put' e1099 g0 rfl) rfl hKNN_r0)
  refine wp_of e275 c275_11 (xc_V (pc' := 14) (r := r0) (as := [vI z1111]) (st := []) (lm_9_433) rfl rfl (Nat.le_of_ble_eq_true rfl) w1100 g0 sh_42 (by decide) rfl (by decide) (u_241 (e := e) (d := d) w1100 g0 ⟨by omega, by omega⟩ (by omega) (by omega) (by assumption) (by assumption) (by assumption) (by assumption) h1115 h1116) (fun R1117 T1118 H1119 p1120 => ?_))
  obtain ⟨e1121, w1123, f1124, z1125, e1122, b1126, p1127⟩ := p1120
  subst e1121
  subst e1122
  rcases p1127 with ⟨a1128, a1129, a1130, a1131, a1132, a1133, a1134, a1135, a1136⟩ | ⟨a1137, a1138, a1139, a1140, a1141, a1142, a1143⟩
  · have f1144 := f1101.tr f1124 rfl
    show wp _ _ 275 14 [(0, .ref r0), (1, vI a1)] [vI z1125] _ H1119 _
    refine wp_of e275 c275_14 (rw_istore_n (pc' := 15) (z := z1125) (L' := [(2, vI z1125), (0, .ref r0), (1, vI a1)]) rfl rfl rfl ?_)
    refine wp_of e275 c275_15 (rw_iload_n (pc' := 16) (z := z1125) rfl rfl ?_)
    refine wp_of e275 c275_16 (rw_if_le (p1 := 25) (p2 := 19) (by decide) rfl ⟨by omega, by omega⟩ (fun c1145 => ?_) (fun c1145 => ?_))
    · refine wp_of e275 c275_25 (rw_aload_n (pc' := 26) (v := .ref r0) rfl rfl rfl ?_)
      refine wp_of e275 c275_26 (rw_iload_n (pc' := 27) (z := a1) rfl rfl ?_)
      have k1146 : H1119 r0 3 = H1098 r0 3 := (f1124 r0 3 _ g0 rfl)
      obtain ⟨r1147, q1148, g1149⟩ := (w1123.opt g0 (t' := 54) (n := 33) (j := 3) (p := 0) (q := 0) rfl (by decide) rfl).resolve_left (by omega)
      refine wp_of e275 c275_27 (xc_V (pc' := 30) (r := r0) (as := [vI a1]) (st := []) (lm_9_476) rfl rfl (Nat.le_of_ble_eq_true rfl) w1123 g0 sh_42 (by decide) rfl (by decide) (s_274 w1123 g0 ⟨by omega, by omega⟩ q1148 g1149 (by omega)) (fun R1150 T1151 H1152 p1153 => ?_))
      obtain ⟨e1154, w1156, f1157, z1158, e1155, b1159⟩ := p1153
      subst e1154
      subst e1155
      have f1160 := f1144.tr f1157 rfl
      show wp _ _ 275 30 [(2, vI z1125), (0, .ref r0), (1, vI a1)] [vI z1158] _ H1152 _
      refine wp_of e275 c275_30 (rw_istore_n (pc' := 31) (z := z1158) (L' := [(3, vI z1158), (2, vI z1125), (0, .ref r0), (1, vI a1)]) rfl rfl rfl ?_)
      refine wp_of e275 c275_31 (rw_aload_n (pc' := 32) (v := .ref r0) rfl rfl rfl ?_)
      refine wp_of e275 c275_32 (rw_iload_n (pc' := 33) (z := z1158) rfl rfl ?_)
      refine wp_of e275 c275_33 (rw_bipush (pc' := 35) (z := 24) rfl (by decide) ?_)
      refine wp_of e275 c275_35 (rw_icmp_ne (p1 := 43) (p2 := 38) (by decide) rfl ⟨by omega, by omega⟩ ⟨by omega, by omega⟩ (fun c1161 => ?_) (fun c1161 => ?_))
      · refine wp_of e275 c275_43 (rw_iload_n (pc' := 44) (z := z1158) rfl rfl ?_)
        refine wp_of e275 c275_44 (xc_V (pc' := 47) (r := r0) (as := [vI z1158]) (st := []) (lm_9_58) rfl rfl (Nat.le_of_ble_eq_true rfl) w1156 g0 sh_42 (by decide) rfl (by decide) (s_209 w1156 g0 ⟨by omega, by omega⟩) (fun R1162 T1163 H1164 p1165 => ?_))
        obtain ⟨e1166, w1168, f1169, z1170, e1167, b1171⟩ := p1165
        subst e1166
        subst e1167
        have f1172 := f1160.tr f1169 rfl
        show wp _ _ 275 47 [(3, vI z1158), (2, vI z1125), (0, .ref r0), (1, vI a1)] [vI z1170] _ H1164 _
        have k1173 : wKI H1164 r0 = wKI H1119 r0 := ((wKI_fr w1156 g0 f1169 rfl).trans (wKI_fr w1123 g0 f1157 rfl))
        have h1174 : KNN T H1164 r0 e d := (KNN_fr w1156 g0 f1169 rfl (KNN_fr w1123 g0 f1157 rfl a1135))
        exact wp_ireturn e275 c275_47 rfl ⟨rfl, w1168, f1172, z1170, rfl, ⟨by omega, by omega⟩, ⟨by omega, h1174⟩⟩
      · refine wp_of e275 c275_38 (rw_bipush (pc' := 40) (z := -2) rfl (by decide) ?_)
        refine wp_of e275 c275_40 (rw_goto (p1 := 44) (by decide) ?_)
        refine wp_of e275 c275_44 (xc_V (pc' := 47) (r := r0) (as := [vI (-2)]) (st := []) (lm_9_58) rfl rfl (Nat.le_of_ble_eq_true rfl) w1156 g0 sh_42 (by decide) rfl (by decide) (s_209 w1156 g0 ⟨by omega, by omega⟩) (fun R1175 T1176 H1177 p1178 => ?_))
        obtain ⟨e1179, w1181, f1182, z1183, e1180, b1184⟩ := p1178
        subst e1179
        subst e1180
        have f1185 := f1160.tr f1182 rfl
        show wp _ _ 275 47 [(3, vI z1158), (2, vI z1125), (0, .ref r0), (1, vI a1)] [vI z1183] _ H1177 _
        have k1186 : wKI H1177 r0 = wKI H1119 r0 := ((wKI_fr w1156 g0 f1182 rfl).trans (wKI_fr w1123 g0 f1157 rfl))
        have h1187 : KNN T H1177 r0 e d := (KNN_fr w1156 g0 f1182 rfl (KNN_fr w1123 g0 f1157 rfl a1135))
        exact wp_ireturn e275 c275_47 rfl ⟨rfl, w1181, f1185, z1183, rfl, ⟨by omega, by omega⟩, ⟨by omega, h1187⟩⟩
    · exfalso
      omega
  · have f1188 := f1101.tr f1124 rfl
    show wp _ _ 275 14 [(0, .ref r0), (1, vI a1)] [vI z1125] _ H1119 _
    refine wp_of e275 c275_14 (rw_istore_n (pc' := 15) (z := z1125) (L' := [(2, vI z1125), (0, .ref r0), (1, vI a1)]) rfl rfl rfl ?_)
    refine wp_of e275 c275_15 (rw_iload_n (pc' := 16) (z := z1125) rfl rfl ?_)
    refine wp_of e275 c275_16 (rw_if_le (p1 := 25) (p2 := 19) (by decide) rfl ⟨by omega, by omega⟩ (fun c1189 => ?_) (fun c1189 => ?_))
    · exfalso
      omega
    · refine wp_of e275 c275_19 (rw_aload_n (pc' := 20) (v := .ref r0) rfl rfl rfl ?_)
      refine wp_of e275 c275_20 (rw_iload_n (pc' := 21) (z := z1125) rfl rfl ?_)
      refine wp_of e275 c275_21 (xc_V (pc' := 24) (r := r0) (as := [vI z1125]) (st := []) (lm_9_54) rfl rfl (Nat.le_of_ble_eq_true rfl) w1123 g0 sh_42 (by decide) rfl (by decide) (s_170 w1123 g0 ⟨by omega, by omega⟩) (fun R1190 T1191 H1192 p1193 => ?_))
      obtain ⟨e1194, w1196, f1197, z1198, e1195, b1199⟩ := p1193
      subst e1194
      subst e1195
      have f1200 := f1188.tr f1197 rfl
      show wp _ _ 275 24 [(2, vI z1125), (0, .ref r0), (1, vI a1)] [vI z1198] _ H1192 _
      have k1201 : wKI H1192 r0 = wKI H1119 r0 := (wKI_fr w1123 g0 f1197 rfl)
      have h1202 : KNN T H1192 r0 e d := (KNN_fr w1123 g0 f1197 rfl a1143)
      exact wp_ireturn e275 c275_24 rfl ⟨rfl, w1196, f1200, z1198, rfl, ⟨by omega, by omega⟩, ⟨by omega, h1202⟩⟩
