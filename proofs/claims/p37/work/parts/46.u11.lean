/-! what methods do (own work, written by wip/gen3/sx3.py) -/
/-! StrikeAwakeModel.hiding(II)I  -/
abbrev uq_261 (r0 : Nat) (a1 : Int) (a2 : Int) (e : xD) (d : xD) (T : wq_T) (H : wq_H) : Option Value → wq_T → wq_H → Prop := fun r T' H' => T = T' ∧ WT T H' ∧ wfr [(42, 0), (42, 1), (42, 2), (42, 28), (42, 29), (51, 999), (52, 999)] T H H' ∧ ∃ z : Int, some (vI z) = r ∧ ((-2147483648) ≤ z ∧ z ≤ 2147483647) ∧ (((wKI H' r0 = 1) ∧ KNN T H' r0 e d))
set_option maxHeartbeats 4000000 in
theorem u_261 {kt : Nat → Option mc_E} {T : wq_T} {H : wq_H} {r0 : Nat} {a1 : Int} {a2 : Int} {e : xD} {d : xD} (hW : WT T H) (g0 : T.2.2.2 r0 = some 42) (i1 : (-2147483648) ≤ a1 ∧ a1 ≤ 2147483647) (i2 : (-2147483648) ≤ a2 ∧ a2 ≤ 2147483647) (p0 : wKI H r0 = 1) (p1 : XW d) (p2 : ∀ h : Nat, d 0 0 ≤ (h : Int) → h < 24 → e 13 h = 0) (p3 : XN d) (p4 : ∀ h : Nat, h < 24 → 0 ≤ e 13 h ∧ e 13 h ≤ 100) (hRB_r0 : RB T H r0 e d) (hKNN_r0 : KNN T H r0 e d) : wpc kt 8 261 [.ref r0, vI a1, vI a2] T H (uq_261 r0 a1 a2 e d T H) := by
  refine wp_enter e261 (Nat.le_of_ble_eq_true rfl) rfl ?_
  have f0 : wfr [(42, 0), (42, 1), (42, 2), (42, 28), (42, 29), (51, 999), (52, 999)] T H H := wfr.rf
  show wp _ _ 261 0 [(0, .ref r0), (1, vI a1), (2, vI a2)] [] _ H _
  have _b := RB_b hW hRB_r0
  have _nu := RB_n3 hRB_r0
  have _lm := RB_lm hRB_r0
  refine wp_of e261 c261_0 (rw_aload_n (pc' := 1) (v := .ref r0) rfl rfl rfl ?_)
  refine wp_of e261 c261_1 (rw_iconst (pc' := 2) rfl ?_)
  refine wp_of e261 c261_2 (xp_I (pc' := 5) lf_9_48 hW g0 sh_42 (by decide) (by decide) ty_42_0 rfl rfl (by decide) (by decide) ⟨by decide, by decide⟩ rfl (fun H2750 e2751 w2752 => ?_))
  have f2753 := f0.put' e2751 g0 rfl
  have k2754 : H2750 r0 0 = 0 := wq_u_s e2751
  refine wp_of e261 c261_5 (rw_aload_n (pc' := 6) (v := .ref r0) rfl rfl rfl ?_)
  refine wp_of e261 c261_6 (rw_aload_n (pc' := 7) (v := .ref r0) rfl rfl rfl ?_)
  refine wp_of e261 c261_7 (rw_iload_n (pc' := 8) (z := a1) rfl rfl ?_)
  refine wp_of e261 c261_8 (xc_V (pc' := 11) (r := r0) (as := [vI a1]) (st := [.ref r0]) (lm_9_364) rfl rfl (Nat.le_of_ble_eq_true rfl) w2752 g0 sh_42 (by decide) rfl (by decide) (s_213 w2752 g0 ⟨i1.1, i1.2⟩) (fun R2755 T2756 H2757 p2758 => ?_))
  obtain ⟨e2759, e2761, z2763, e2760, b2764, p2762⟩ := p2758
  subst e2759
  subst e2760
  subst e2761
  show wp _ _ 261 11 [(0, .ref r0), (1, vI a1), (2, vI a2)] [vI z2763, .ref r0] _ H2750 _
  refine wp_of e261 c261_11 (rw_if_eq (p1 := 26) (p2 := 14) (by decide) rfl ⟨Int.le_trans (by decide) b2764.1, Int.le_trans b2764.2 (by decide)⟩ (fun c2765 => ?_) (fun c2765 => ?_))
  · refine wp_of e261 c261_26 (rw_iconst (pc' := 27) rfl ?_)
    have k2766 : H2750 r0 3 = H r0 3 := (wq_u_j e2751 rfl)
    have k2767 : wKI H2750 r0 = wKI H r0 := (wKI_fr hW g0 ((wfr.rf (l := [(42, 0)])).put' e2751 g0 rfl) rfl)
    have h2768 : RB T H2750 r0 e d := (RB_fr hW g0 ((wfr.rf (l := [(42, 0)])).put' e2751 g0 rfl) rfl hRB_r0)
    have h2769 : KNN T H2750 r0 e d := (KNN_fr hW g0 ((wfr.rf (l := [(42, 0)])).put' e2751 g0 rfl) rfl hKNN_r0)
    refine wp_of e261 c261_27 (xc_V (pc' := 30) (r := r0) (as := [vI 0]) (st := []) (lm_9_433) rfl rfl (Nat.le_of_ble_eq_true rfl) w2752 g0 sh_42 (by decide) rfl (by decide) (u_241 (e := e) (d := d) w2752 g0 ⟨by decide, by decide⟩ (by omega) (by omega) (by assumption) (by assumption) (by assumption) (by assumption) h2768 h2769) (fun R2770 T2771 H2772 p2773 => ?_))
    obtain ⟨e2774, w2776, f2777, z2778, e2775, b2779, p2780⟩ := p2773
    subst e2774
    subst e2775
    rcases p2780 with ⟨a2781, a2782, a2783, a2784, a2785, a2786, a2787, a2788, a2789⟩ | ⟨a2790, a2791, a2792, a2793, a2794, a2795, a2796⟩
    · exfalso
      omega
    · have f2797 := f2753.tr f2777 rfl
      show wp _ _ 261 30 [(0, .ref r0), (1, vI a1), (2, vI a2)] [vI z2778] _ H2772 _
      have k2798 : wLM H2772 r0 = wLM H r0 := ((wLM_fr w2752 g0 f2777 rfl).trans (wLM_fr hW g0 ((wfr.rf (l := [(42, 0)])).put' e2751 g0 rfl) rfl))
      refine wp_of e261 c261_30 (rw_istore_n (pc' := 31) (z := z2778) (L' := [(3, vI z2778), (0, .ref r0), (1, vI a1), (2, vI a2)]) rfl rfl rfl ?_)
      refine wp_of e261 c261_31 (rw_iload_n (pc' := 32) (z := z2778) rfl rfl ?_)
      refine wp_of e261 c261_32 (rw_if_le (p1 := 41) (p2 := 35) (by decide) rfl ⟨Int.le_trans (by decide) b2779.1, Int.le_trans b2779.2 (by decide)⟩ (fun c2799 => ?_) (fun c2799 => ?_))
      · exfalso
        omega
      · refine wp_of e261 c261_35 (rw_aload_n (pc' := 36) (v := .ref r0) rfl rfl rfl ?_)
        refine wp_of e261 c261_36 (rw_iload_n (pc' := 37) (z := z2778) rfl rfl ?_)
        refine wp_of e261 c261_37 (xc_V (pc' := 40) (r := r0) (as := [vI z2778]) (st := []) (lm_9_54) rfl rfl (Nat.le_of_ble_eq_true rfl) w2776 g0 sh_42 (by decide) rfl (by decide) (s_170 w2776 g0 ⟨Int.le_trans (by decide) b2779.1, Int.le_trans b2779.2 (by decide)⟩) (fun R2800 T2801 H2802 p2803 => ?_))
        obtain ⟨e2804, w2806, f2807, z2808, e2805, b2809⟩ := p2803
        subst e2804
        subst e2805
        have f2810 := f2797.tr f2807 rfl
        show wp _ _ 261 40 [(3, vI z2778), (0, .ref r0), (1, vI a1), (2, vI a2)] [vI z2808] _ H2802 _
        have k2811 : wKI H2802 r0 = wKI H2772 r0 := (wKI_fr w2776 g0 f2807 rfl)
        have h2812 : KNN T H2802 r0 e d := (KNN_fr w2776 g0 f2807 rfl a2796)
        exact wp_ireturn e261 c261_40 rfl ⟨rfl, w2806, f2810, z2808, rfl, ⟨b2809.1, b2809.2⟩, ⟨by omega, h2812⟩⟩
  · refine wp_of e261 c261_14 (rw_aload_n (pc' := 15) (v := .ref r0) rfl rfl rfl ?_)
    refine wp_of e261 c261_15 (rw_iload_n (pc' := 16) (z := a2) rfl rfl ?_)
    refine wp_of e261 c261_16 (xc_V (pc' := 19) (r := r0) (as := [vI a2]) (st := [.ref r0]) (lm_9_373) rfl rfl (Nat.le_of_ble_eq_true rfl) w2752 g0 sh_42 (by decide) rfl (by decide) (s_218 w2752 g0 ⟨i2.1, i2.2⟩) (fun R2813 T2814 H2815 p2816 => ?_))
    obtain ⟨e2817, e2819, z2821, e2818, b2822, p2820⟩ := p2816
    subst e2817
    subst e2818
    subst e2819
    show wp _ _ 261 19 [(0, .ref r0), (1, vI a1), (2, vI a2)] [vI z2821, .ref r0] _ H2750 _
    refine wp_of e261 c261_19 (rw_if_eq (p1 := 26) (p2 := 22) (by decide) rfl ⟨Int.le_trans (by decide) b2822.1, Int.le_trans b2822.2 (by decide)⟩ (fun c2823 => ?_) (fun c2823 => ?_))
    · refine wp_of e261 c261_26 (rw_iconst (pc' := 27) rfl ?_)
      have k2824 : H2750 r0 3 = H r0 3 := (wq_u_j e2751 rfl)
      have k2825 : wKI H2750 r0 = wKI H r0 := (wKI_fr hW g0 ((wfr.rf (l := [(42, 0)])).put' e2751 g0 rfl) rfl)
      have h2826 : RB T H2750 r0 e d := (RB_fr hW g0 ((wfr.rf (l := [(42, 0)])).put' e2751 g0 rfl) rfl hRB_r0)
      have h2827 : KNN T H2750 r0 e d := (KNN_fr hW g0 ((wfr.rf (l := [(42, 0)])).put' e2751 g0 rfl) rfl hKNN_r0)
      refine wp_of e261 c261_27 (xc_V (pc' := 30) (r := r0) (as := [vI 0]) (st := []) (lm_9_433) rfl rfl (Nat.le_of_ble_eq_true rfl) w2752 g0 sh_42 (by decide) rfl (by decide) (u_241 (e := e) (d := d) w2752 g0 ⟨by decide, by decide⟩ (by omega) (by omega) (by assumption) (by assumption) (by assumption) (by assumption) h2826 h2827) (fun R2828 T2829 H2830 p2831 => ?_))
      obtain ⟨e2832, w2834, f2835, z2836, e2833, b2837, p2838⟩ := p2831
      subst e2832
      subst e2833
      rcases p2838 with ⟨a2839, a2840, a2841, a2842, a2843, a2844, a2845, a2846, a2847⟩ | ⟨a2848, a2849, a2850, a2851, a2852, a2853, a2854⟩
      · exfalso
        omega
      · have f2855 := f2753.tr f2835 rfl
        show wp _ _ 261 30 [(0, .ref r0), (1, vI a1), (2, vI a2)] [vI z2836] _ H2830 _
        have k2856 : wLM H2830 r0 = wLM H r0 := ((wLM_fr w2752 g0 f2835 rfl).trans (wLM_fr hW g0 ((wfr.rf (l := [(42, 0)])).put' e2751 g0 rfl) rfl))
        refine wp_of e261 c261_30 (rw_istore_n (pc' := 31) (z := z2836) (L' := [(3, vI z2836), (0, .ref r0), (1, vI a1), (2, vI a2)]) rfl rfl rfl ?_)
        refine wp_of e261 c261_31 (rw_iload_n (pc' := 32) (z := z2836) rfl rfl ?_)
        refine wp_of e261 c261_32 (rw_if_le (p1 := 41) (p2 := 35) (by decide) rfl ⟨Int.le_trans (by decide) b2837.1, Int.le_trans b2837.2 (by decide)⟩ (fun c2857 => ?_) (fun c2857 => ?_))
        · exfalso
          omega
        · refine wp_of e261 c261_35 (rw_aload_n (pc' := 36) (v := .ref r0) rfl rfl rfl ?_)
          refine wp_of e261 c261_36 (rw_iload_n (pc' := 37) (z := z2836) rfl rfl ?_)
          refine wp_of e261 c261_37 (xc_V (pc' := 40) (r := r0) (as := [vI z2836]) (st := []) (lm_9_54) rfl rfl (Nat.le_of_ble_eq_true rfl) w2834 g0 sh_42 (by decide) rfl (by decide) (s_170 w2834 g0 ⟨Int.le_trans (by decide) b2837.1, Int.le_trans b2837.2 (by decide)⟩) (fun R2858 T2859 H2860 p2861 => ?_))
          obtain ⟨e2862, w2864, f2865, z2866, e2863, b2867⟩ := p2861
          subst e2862
          subst e2863
          have f2868 := f2855.tr f2865 rfl
          show wp _ _ 261 40 [(3, vI z2836), (0, .ref r0), (1, vI a1), (2, vI a2)] [vI z2866] _ H2860 _
          have k2869 : wKI H2860 r0 = wKI H2830 r0 := (wKI_fr w2834 g0 f2865 rfl)
          have h2870 : KNN T H2860 r0 e d := (KNN_fr w2834 g0 f2865 rfl a2854)
          exact wp_ireturn e261 c261_40 rfl ⟨rfl, w2864, f2868, z2866, rfl, ⟨b2867.1, b2867.2⟩, ⟨by omega, h2870⟩⟩
    · refine wp_of e261 c261_22 (rw_iconst (pc' := 23) rfl ?_)
      refine wp_of e261 c261_23 (rw_goto (p1 := 27) (by decide) ?_)
      have k2871 : H2750 r0 3 = H r0 3 := (wq_u_j e2751 rfl)
      have k2872 : wKI H2750 r0 = wKI H r0 := (wKI_fr hW g0 ((wfr.rf (l := [(42, 0)])).put' e2751 g0 rfl) rfl)
      have h2873 : RB T H2750 r0 e d := (RB_fr hW g0 ((wfr.rf (l := [(42, 0)])).put' e2751 g0 rfl) rfl hRB_r0)
      have h2874 : KNN T H2750 r0 e d := (KNN_fr hW g0 ((wfr.rf (l := [(42, 0)])).put' e2751 g0 rfl) rfl hKNN_r0)
      refine wp_of e261 c261_27 (xc_V (pc' := 30) (r := r0) (as := [vI 1]) (st := []) (lm_9_433) rfl rfl (Nat.le_of_ble_eq_true rfl) w2752 g0 sh_42 (by decide) rfl (by decide) (u_241 (e := e) (d := d) w2752 g0 ⟨by decide, by decide⟩ (by omega) (by omega) (by assumption) (by assumption) (by assumption) (by assumption) h2873 h2874) (fun R2875 T2876 H2877 p2878 => ?_))
      obtain ⟨e2879, w2881, f2882, z2883, e2880, b2884, p2885⟩ := p2878
      subst e2879
      subst e2880
      rcases p2885 with ⟨a2886, a2887, a2888, a2889, a2890, a2891, a2892, a2893, a2894⟩ | ⟨a2895, a2896, a2897, a2898, a2899, a2900, a2901⟩
      · have f2902 := f2753.tr f2882 rfl
        show wp _ _ 261 30 [(0, .ref r0), (1, vI a1), (2, vI a2)] [vI z2883] _ H2877 _
        have k2903 : wLM H2877 r0 = wLM H r0 := ((wLM_fr w2752 g0 f2882 rfl).trans (wLM_fr hW g0 ((wfr.rf (l := [(42, 0)])).put' e2751 g0 rfl) rfl))
        refine wp_of e261 c261_30 (rw_istore_n (pc' := 31) (z := z2883) (L' := [(3, vI z2883), (0, .ref r0), (1, vI a1), (2, vI a2)]) rfl rfl rfl ?_)
        refine wp_of e261 c261_31 (rw_iload_n (pc' := 32) (z := z2883) rfl rfl ?_)
        refine wp_of e261 c261_32 (rw_if_le (p1 := 41) (p2 := 35) (by decide) rfl ⟨Int.le_trans (by decide) b2884.1, Int.le_trans b2884.2 (by decide)⟩ (fun c2904 => ?_) (fun c2904 => ?_))
        · refine wp_of e261 c261_41 (rw_iconst (pc' := 42) rfl ?_)
          refine wp_of e261 c261_42 (rw_istore (pc' := 44) (z := 0) (L' := [(4, vI 0), (3, vI z2883), (0, .ref r0), (1, vI a1), (2, vI a2)]) rfl rfl rfl ?_)
          refine wp_of e261 c261_44 (rw_iconst (pc' := 45) rfl ?_)
          refine wp_of e261 c261_45 (rw_istore (pc' := 47) (z := 0) (L' := [(5, vI 0), (4, vI 0), (3, vI z2883), (0, .ref r0), (1, vI a1), (2, vI a2)]) rfl rfl rfl ?_)
          have lp3353 : ∀ (n3354 : Nat) (v3356 : Int) (v3357 : Int) (H3358 : wq_H), WT T H3358 → wfr [(51, 999)] T H2877 H3358 → (0 ≤ v3356 ∧ v3356 ≤ 20000) → ((-2147483648) ≤ v3357 ∧ v3357 ≤ 2147483647) → (20000 - v3356).toNat = n3354 → wp kt 7 261 47 [(5, vI v3356), (4, vI v3357), (0, .ref r0), (1, vI a1), (2, vI a2)] [] T H3358 (uq_261 r0 a1 a2 e d T H) := by
            intro n3354
            induction n3354 using Nat.strongRecOn with
            | _ n3354 ih3355 =>
              intro v3356 v3357 H3358 w3359 f3360 b3361 b3362 m3363
              have f3364 := f2902.tr f3360 rfl
              refine wp_of e261 c261_47 (rw_iload (pc' := 49) (z := v3356) rfl rfl ?_)
              refine wp_of e261 c261_49 (rw_aload_n (pc' := 50) (v := .ref r0) rfl rfl rfl ?_)
              have k3365 : H3358 r0 29 = H2877 r0 29 := (f3360 r0 29 _ g0 rfl)
              refine wp_of e261 c261_50 (xg_I (pc' := 53) lf_9_422 w3359 g0 sh_42 (by decide) (by decide) ty_42_29 rfl rfl (fun b3366 b3367 => ?_))
              refine wp_of e261 c261_53 (rw_icmp_ge (p1 := 110) (p2 := 56) (by decide) rfl ⟨Int.le_trans (by decide) b3361.1, Int.le_trans b3361.2 (by decide)⟩ ⟨Int.le_trans (by decide) b3366, Int.le_trans b3367 (by decide)⟩ (fun c3368 => ?_) (fun c3368 => ?_))
              · refine wp_of e261 c261_110 (rw_aload_n (pc' := 111) (v := .ref r0) rfl rfl rfl ?_)
                refine wp_of e261 c261_111 (rw_iload (pc' := 113) (z := v3357) rfl rfl ?_)
                refine wp_of e261 c261_113 (xc_V (pc' := 116) (r := r0) (as := [vI v3357]) (st := []) (lm_9_58) rfl rfl (Nat.le_of_ble_eq_true rfl) w3359 g0 sh_42 (by decide) rfl (by decide) (s_209 w3359 g0 ⟨b3362.1, b3362.2⟩) (fun R3369 T3370 H3371 p3372 => ?_))
                obtain ⟨e3373, w3375, f3376, z3377, e3374, b3378⟩ := p3372
                subst e3373
                subst e3374
                have f3379 := f3364.tr f3376 rfl
                show wp _ _ 261 116 [(5, vI v3356), (4, vI v3357), (0, .ref r0), (1, vI a1), (2, vI a2)] [vI z3377] _ H3371 _
                have k3380 : wKI H3371 r0 = wKI H2877 r0 := ((wKI_fr w3359 g0 f3376 rfl).trans (wKI_fr w2881 g0 f3360 rfl))
                have h3381 : KNN T H3371 r0 e d := (KNN_fr w3359 g0 f3376 rfl (KNN_fr w2881 g0 f3360 rfl a2893))
                exact wp_ireturn e261 c261_116 rfl ⟨rfl, w3375, f3379, z3377, rfl, ⟨b3378.1, b3378.2⟩, ⟨by omega, h3381⟩⟩
              · refine wp_of e261 c261_56 (rw_aload_n (pc' := 57) (v := .ref r0) rfl rfl rfl ?_)
                refine wp_of e261 c261_57 (rw_aload_n (pc' := 58) (v := .ref r0) rfl rfl rfl ?_)
                refine wp_of e261 c261_58 (xg_R (pc' := 61) lf_9_42 w3359 g0 sh_42 (by decide) (by decide) ty_42_30 rfl rfl (fun r3382 q3383 g3384 => ?_))
                refine wp_of e261 c261_61 (rw_iload (pc' := 63) (z := v3356) rfl rfl ?_)
                refine wp_of e261 c261_63 (xa_I (so := 0) (pc' := 64) w3359 g3384 sh_52 (by decide) (ty_52 _) (b3361.1) (by omega) rfl (fun b3385 b3386 => ?_))
                have k3387 : wLM H3358 r0 = wLM H2877 r0 := (wLM_fr w2881 g0 f3360 rfl)
                have k3388 : H3358 r0 3 = H2750 r0 3 := ((f3360 r0 3 _ g0 rfl).trans (f2882 r0 3 _ g0 rfl))
                obtain ⟨r3389, q3390, g3391⟩ := (w3359.opt g0 (t' := 54) (n := 33) (j := 3) (p := 0) (q := 0) rfl (by decide) rfl).resolve_left (by omega)
                refine wp_of e261 c261_64 (xc_V (pc' := 67) (r := r0) (as := [vI (H3358 r3382 (v3356.toNat))]) (st := []) (lm_9_425) rfl rfl (Nat.le_of_ble_eq_true rfl) w3359 g0 sh_42 (by decide) rfl (by decide) (s_243 w3359 g0 ⟨b3385, Int.le_trans b3386 (by decide)⟩ q3390 g3391 (by omega)) (fun R3392 T3393 H3394 p3395 => ?_))
                obtain ⟨e3396, w3398, f3399, e3397⟩ := p3395
                subst e3396
                subst e3397
                have f3400 := f3364.tr f3399 rfl
                have f3401 := f3360.tr f3399 rfl
                show wp _ _ 261 67 [(5, vI v3356), (4, vI v3357), (0, .ref r0), (1, vI a1), (2, vI a2)] [] _ H3394 _
                refine wp_of e261 c261_67 (rw_aload_n (pc' := 68) (v := .ref r0) rfl rfl rfl ?_)
                refine wp_of e261 c261_68 (xg_R (pc' := 71) lf_9_30 w3398 g0 sh_42 (by decide) (by decide) ty_42_24 rfl rfl (fun r3402 q3403 g3404 => ?_))
                refine wp_of e261 c261_71 (rw_bipush (pc' := 73) (z := 40) rfl (by decide) ?_)
                refine wp_of e261 c261_73 (rw_iload_n (pc' := 74) (z := a1) rfl rfl ?_)
                refine wp_of e261 c261_74 (rw_imul (pc' := 75) rfl ?_)
                refine wp_of e261 c261_75 (rw_aload_n (pc' := 76) (v := .ref r0) rfl rfl rfl ?_)
                refine wp_of e261 c261_76 (xg_R (pc' := 79) lf_9_39 w3398 g0 sh_42 (by decide) (by decide) ty_42_27 rfl rfl (fun r3405 q3406 g3407 => ?_))
                refine wp_of e261 c261_79 (rw_iload_n (pc' := 80) (z := a1) rfl rfl ?_)
                refine wp_of e261 c261_80 (xa_I (so := 0) (pc' := 81) w3398 g3407 sh_51 (by decide) (ty_51 _) (by omega) (by omega) rfl (fun b3408 b3409 => ?_))
                refine wp_of e261 c261_81 (rw_iadd (pc' := 82) rfl ?_)
                refine wp_of e261 c261_82 (xa_I (so := 0) (pc' := 83) w3398 g3404 sh_48 (by decide) (ty_48 _) (by omega) (by omega) rfl (fun b3410 b3411 => ?_))
                refine wp_of e261 c261_83 (rw_iload_n (pc' := 84) (z := a2) rfl rfl ?_)
                refine wp_of e261 c261_84 (xc_S (pc' := 87) (as := [vI (H3394 r3402 (((40 * a1) + (H3394 r3405 (a1.toNat))).toNat)), vI a2]) (st := []) (lm_9_346) rfl rfl (Nat.le_of_ble_eq_true rfl) rfl (by decide) (s_205 w3398 ⟨b3410, b3411⟩ ⟨i2.1, i2.2⟩) (fun R3412 T3413 H3414 p3415 => ?_))
                obtain ⟨e3416, e3418, z3419, e3417, b3420⟩ := p3415
                subst e3416
                subst e3417
                subst e3418
                show wp _ _ 261 87 [(5, vI v3356), (4, vI v3357), (0, .ref r0), (1, vI a1), (2, vI a2)] [vI z3419] _ H3394 _
                refine wp_of e261 c261_87 (rw_if_eq (p1 := 104) (p2 := 90) (by decide) rfl ⟨Int.le_trans (by decide) b3420.1, Int.le_trans b3420.2 (by decide)⟩ (fun c3421 => ?_) (fun c3421 => ?_))
                · refine wp_of e261 c261_104 (rw_iinc (pc' := 107) (z := v3356) (L' := [(5, vI (v3356 + 1)), (4, vI v3357), (0, .ref r0), (1, vI a1), (2, vI a2)]) rfl rfl rfl rfl ?_)
                  refine wp_of e261 c261_107 (rw_goto (p1 := 47) (by decide) ?_)
                  exact wp_lc (ks := [5, 4, 0, 1, 2]) (wl_c rfl (wl_c rfl (wl_c rfl (wl_c rfl (wl_c rfl wl_n))))) rfl (by decide) (ih3355 _ (by omega) (v3356 + 1) v3357 H3394 w3398 f3401 ⟨by omega, by omega⟩ ⟨b3362.1, b3362.2⟩ rfl)
                · refine wp_of e261 c261_90 (rw_iload (pc' := 92) (z := v3357) rfl rfl ?_)
                  refine wp_of e261 c261_92 (rw_aload_n (pc' := 93) (v := .ref r0) rfl rfl rfl ?_)
                  refine wp_of e261 c261_93 (rw_aload_n (pc' := 94) (v := .ref r0) rfl rfl rfl ?_)
                  refine wp_of e261 c261_94 (xg_K (pc' := 97) lf_9_39 w3398 g0 sh_42 (by decide) (by decide) rfl q3406 rfl ?_)
                  refine wp_of e261 c261_97 (rw_iload_n (pc' := 98) (z := a2) rfl rfl ?_)
                  have k3422 : H3394 r0 3 = H3358 r0 3 := (f3399 r0 3 _ g0 rfl)
                  have q3423 : H3394 r0 3 = (r3389 : Int) := k3422.trans q3390
                  refine wp_of e261 c261_98 (xc_V (pc' := 101) (r := r0) (as := [.ref r3405, vI a2]) (st := [vI v3357]) (lm_9_455) rfl rfl (Nat.le_of_ble_eq_true rfl) w3398 g0 sh_42 (by decide) rfl (by decide) (s_262_m_lot w3398 g0 g3407 ⟨i2.1, i2.2⟩ q3423 g3391) (fun R3424 T3425 H3426 p3427 => ?_))
                  obtain ⟨e3428, e3430, z3431, e3429, b3432⟩ := p3427
                  subst e3428
                  subst e3429
                  subst e3430
                  show wp _ _ 261 101 [(5, vI v3356), (4, vI v3357), (0, .ref r0), (1, vI a1), (2, vI a2)] [vI z3431, vI v3357] _ H3394 _
                  refine wp_of e261 c261_101 (rw_ior (pc' := 102) rfl ?_)
                  obtain ⟨v3433, e3434⟩ : ∃ x : Int, x = wq_or v3357 z3431 := ⟨_, rfl⟩
                  rw [← e3434]
                  have b3435 : -2147483648 ≤ v3433 ∧ v3433 ≤ 2147483647 := by
                    rw [e3434]
                    exact wI_or _ _
                  refine wp_of e261 c261_102 (rw_istore (pc' := 104) (z := v3433) (L' := [(4, vI v3433), (5, vI v3356), (0, .ref r0), (1, vI a1), (2, vI a2)]) rfl rfl rfl ?_)
                  refine wp_of e261 c261_104 (rw_iinc (pc' := 107) (z := v3356) (L' := [(5, vI (v3356 + 1)), (4, vI v3433), (0, .ref r0), (1, vI a1), (2, vI a2)]) rfl rfl rfl rfl ?_)
                  refine wp_of e261 c261_107 (rw_goto (p1 := 47) (by decide) ?_)
                  exact wp_lc (ks := [5, 4, 0, 1, 2]) (wl_c rfl (wl_c rfl (wl_c rfl (wl_c rfl (wl_c rfl wl_n))))) rfl (by decide) (ih3355 _ (by omega) (v3356 + 1) v3433 H3394 w3398 f3401 ⟨by omega, by omega⟩ ⟨b3435.1, b3435.2⟩ rfl)
          exact wp_lc (ks := [5, 4, 3, 0, 1, 2]) (wl_c rfl (wl_c rfl (wl_c rfl (wl_c rfl (wl_c rfl wl_n))))) rfl (by decide) (lp3353 _ 0 0 H2877 w2881 wfr.rf ⟨by decide, by decide⟩ ⟨by decide, by decide⟩ rfl)
        · exfalso
          omega
      · have f3436 := f2753.tr f2882 rfl
        show wp _ _ 261 30 [(0, .ref r0), (1, vI a1), (2, vI a2)] [vI z2883] _ H2877 _
        have k3437 : wLM H2877 r0 = wLM H r0 := ((wLM_fr w2752 g0 f2882 rfl).trans (wLM_fr hW g0 ((wfr.rf (l := [(42, 0)])).put' e2751 g0 rfl) rfl))
        refine wp_of e261 c261_30 (rw_istore_n (pc' := 31) (z := z2883) (L' := [(3, vI z2883), (0, .ref r0), (1, vI a1), (2, vI a2)]) rfl rfl rfl ?_)
        refine wp_of e261 c261_31 (rw_iload_n (pc' := 32) (z := z2883) rfl rfl ?_)
        refine wp_of e261 c261_32 (rw_if_le (p1 := 41) (p2 := 35) (by decide) rfl ⟨Int.le_trans (by decide) b2884.1, Int.le_trans b2884.2 (by decide)⟩ (fun c3438 => ?_) (fun c3438 => ?_))
        · exfalso
          omega
        · refine wp_of e261 c261_35 (rw_aload_n (pc' := 36) (v := .ref r0) rfl rfl rfl ?_)
          refine wp_of e261 c261_36 (rw_iload_n (pc' := 37) (z := z2883) rfl rfl ?_)
          refine wp_of e261 c261_37 (xc_V (pc' := 40) (r := r0) (as := [vI z2883]) (st := []) (lm_9_54) rfl rfl (Nat.le_of_ble_eq_true rfl) w2881 g0 sh_42 (by decide) rfl (by decide) (s_170 w2881 g0 ⟨Int.le_trans (by decide) b2884.1, Int.le_trans b2884.2 (by decide)⟩) (fun R3439 T3440 H3441 p3442 => ?_))
          obtain ⟨e3443, w3445, f3446, z3447, e3444, b3448⟩ := p3442
          subst e3443
          subst e3444
          have f3449 := f3436.tr f3446 rfl
          show wp _ _ 261 40 [(3, vI z2883), (0, .ref r0), (1, vI a1), (2, vI a2)] [vI z3447] _ H3441 _
          have k3450 : wKI H3441 r0 = wKI H2877 r0 := (wKI_fr w2881 g0 f3446 rfl)
          have h3451 : KNN T H3441 r0 e d := (KNN_fr w2881 g0 f3446 rfl a2901)
          exact wp_ireturn e261 c261_40 rfl ⟨rfl, w3445, f3449, z3447, rfl, ⟨b3448.1, b3448.2⟩, ⟨by omega, h3451⟩⟩
/-! StrikeAwakeModel.bed(IZ)I  -/
abbrev uq_263 (r0 : Nat) (a1 : Int) (a2 : Int) (e : xD) (d : xD) (T : wq_T) (H : wq_H) : Option Value → wq_T → wq_H → Prop := fun r T' H' => T = T' ∧ WT T H' ∧ wfr [(42, 0), (42, 1), (42, 2), (42, 28), (42, 29), (51, 999), (52, 999)] T H H' ∧ ∃ z : Int, some (vI z) = r ∧ ((-2147483648) ≤ z ∧ z ≤ 2147483647) ∧ (((wKI H' r0 = 1) ∧ KNN T H' r0 e d))
set_option maxHeartbeats 4000000 in
theorem u_263 {kt : Nat → Option mc_E} {T : wq_T} {H : wq_H} {r0 : Nat} {a1 : Int} {a2 : Int} {e : xD} {d : xD} (hW : WT T H) (g0 : T.2.2.2 r0 = some 42) (i1 : (-2147483648) ≤ a1 ∧ a1 ≤ 2147483647) (i2 : 0 ≤ a2 ∧ a2 ≤ 1) (p0 : wKI H r0 = 1) (p1 : XW d) (p2 : ∀ h : Nat, d 0 0 ≤ (h : Int) → h < 24 → e 13 h = 0) (p3 : XN d) (p4 : ∀ h : Nat, h < 24 → 0 ≤ e 13 h ∧ e 13 h ≤ 100) (hRB_r0 : RB T H r0 e d) (hKNN_r0 : KNN T H r0 e d) : wpc kt 9 263 [.ref r0, vI a1, vI a2] T H (uq_263 r0 a1 a2 e d T H) := by
  refine wp_enter e263 (Nat.le_of_ble_eq_true rfl) rfl ?_
  have f0 : wfr [(42, 0), (42, 1), (42, 2), (42, 28), (42, 29), (51, 999), (52, 999)] T H H := wfr.rf
  show wp _ _ 263 0 [(0, .ref r0), (1, vI a1), (2, vI a2)] [] _ H _
  have _b := RB_b hW hRB_r0
  have _nu := RB_n3 hRB_r0
  have _lm := RB_lm hRB_r0
  refine wp_of e263 c263_0 (rw_aload_n (pc' := 1) (v := .ref r0) rfl rfl rfl ?_)
  refine wp_of e263 c263_1 (rw_iconst (pc' := 2) rfl ?_)
  refine wp_of e263 c263_2 (xp_I (pc' := 5) lf_9_48 hW g0 sh_42 (by decide) (by decide) ty_42_0 rfl rfl (by decide) (by decide) ⟨by decide, by decide⟩ rfl (fun H1092 e1093 w1094 => ?_))
  have f1095 := f0.put' e1093 g0 rfl
  have k1096 : H1092 r0 0 = 0 := wq_u_s e1093
  refine wp_of e263 c263_5 (rw_aload_n (pc' := 6) (v := .ref r0) rfl rfl rfl ?_)
  refine wp_of e263 c263_6 (rw_aload_n (pc' := 7) (v := .ref r0) rfl rfl rfl ?_)
  refine wp_of e263 c263_7 (rw_iload_n (pc' := 8) (z := a1) rfl rfl ?_)
  refine wp_of e263 c263_8 (xc_V (pc' := 11) (r := r0) (as := [vI a1]) (st := [.ref r0]) (lm_9_364) rfl rfl (Nat.le_of_ble_eq_true rfl) w1094 g0 sh_42 (by decide) rfl (by decide) (s_213 w1094 g0 ⟨i1.1, i1.2⟩) (fun R1097 T1098 H1099 p1100 => ?_))
  obtain ⟨e1101, e1103, z1105, e1102, b1106, p1104⟩ := p1100
  subst e1101
  subst e1102
  subst e1103
  show wp _ _ 263 11 [(0, .ref r0), (1, vI a1), (2, vI a2)] [vI z1105, .ref r0] _ H1092 _
  have k1107 : H1092 r0 3 = H r0 3 := (wq_u_j e1093 rfl)
  have k1108 : wKI H1092 r0 = wKI H r0 := (wKI_fr hW g0 ((wfr.rf (l := [(42, 0)])).put' e1093 g0 rfl) rfl)
  have h1109 : RB T H1092 r0 e d := (RB_fr hW g0 ((wfr.rf (l := [(42, 0)])).put' e1093 g0 rfl) rfl hRB_r0)
  have h1110 : KNN T H1092 r0 e d := (KNN_fr hW g0 ((wfr.rf (l := [(42, 0)])).put' e1093 g0 rfl) rfl hKNN_r0)
  refine wp_of e263 c263_11 (xc_V (pc' := 14) (r := r0) (as := [vI z1105]) (st := []) (lm_9_447) rfl rfl (Nat.le_of_ble_eq_true rfl) w1094 g0 sh_42 (by decide) rfl (by decide) (u_253 (e := e) (d := d) w1094 g0 ⟨b1106.1, b1106.2⟩ (by omega) (by omega) (by assumption) (by assumption) (by assumption) (by assumption) h1109 h1110) (fun R1111 T1112 H1113 p1114 => ?_))
  obtain ⟨e1115, w1117, f1118, z1119, e1116, b1120, p1121⟩ := p1114
  subst e1115
  subst e1116
  rcases p1121 with ⟨a1122, a1123, a1124, a1125, a1126, a1127, a1128, a1129, a1130, a1131⟩ | ⟨a1132, a1133, a1134, a1135, a1136, a1137, a1138⟩
  · have f1139 := f1095.tr f1118 rfl
    show wp _ _ 263 14 [(0, .ref r0), (1, vI a1), (2, vI a2)] [vI z1119] _ H1113 _
    have k1140 : wLM H1113 r0 = wLM H r0 := ((wLM_fr w1094 g0 f1118 rfl).trans (wLM_fr hW g0 ((wfr.rf (l := [(42, 0)])).put' e1093 g0 rfl) rfl))
    refine wp_of e263 c263_14 (rw_istore_n (pc' := 15) (z := z1119) (L' := [(3, vI z1119), (0, .ref r0), (1, vI a1), (2, vI a2)]) rfl rfl rfl ?_)
    refine wp_of e263 c263_15 (rw_iload_n (pc' := 16) (z := z1119) rfl rfl ?_)
    refine wp_of e263 c263_16 (rw_if_le (p1 := 27) (p2 := 19) (by decide) rfl ⟨Int.le_trans (by decide) b1120.1, Int.le_trans b1120.2 (by decide)⟩ (fun c1141 => ?_) (fun c1141 => ?_))
    · refine wp_of e263 c263_27 (rw_aload_n (pc' := 28) (v := .ref r0) rfl rfl rfl ?_)
      refine wp_of e263 c263_28 (rw_aload_n (pc' := 29) (v := .ref r0) rfl rfl rfl ?_)
      refine wp_of e263 c263_29 (rw_iload_n (pc' := 30) (z := a1) rfl rfl ?_)
      refine wp_of e263 c263_30 (rw_aload_n (pc' := 31) (v := .ref r0) rfl rfl rfl ?_)
      refine wp_of e263 c263_31 (xg_R (pc' := 34) lf_9_24 w1117 g0 sh_42 (by decide) (by decide) ty_42_22 rfl rfl (fun r1142 q1143 g1144 => ?_))
      refine wp_of e263 c263_34 (rw_iload_n (pc' := 35) (z := a2) rfl rfl ?_)
      have k1145 : H1113 r0 3 = H1092 r0 3 := (f1118 r0 3 _ g0 rfl)
      obtain ⟨r1146, q1147, g1148⟩ := (w1117.opt g0 (t' := 54) (n := 33) (j := 3) (p := 0) (q := 0) rfl (by decide) rfl).resolve_left (by omega)
      refine wp_of e263 c263_35 (xc_V (pc' := 38) (r := r0) (as := [vI a1, .ref r1142, vI a2]) (st := [.ref r0]) (lm_9_458) rfl rfl (Nat.le_of_ble_eq_true rfl) w1117 g0 sh_42 (by decide) rfl (by decide) (s_264_m_bed w1117 g0 ⟨by omega, by omega⟩ g1144 ⟨i2.1, i2.2⟩ q1147 g1148 (by omega)) (fun R1149 T1150 H1151 p1152 => ?_))
      obtain ⟨e1153, w1155, f1156, z1157, e1154, b1158⟩ := p1152
      subst e1153
      subst e1154
      have f1159 := f1139.tr f1156 rfl
      show wp _ _ 263 38 [(3, vI z1119), (0, .ref r0), (1, vI a1), (2, vI a2)] [vI z1157, .ref r0] _ H1151 _
      refine wp_of e263 c263_38 (xc_V (pc' := 41) (r := r0) (as := [vI z1157]) (st := []) (lm_9_58) rfl rfl (Nat.le_of_ble_eq_true rfl) w1155 g0 sh_42 (by decide) rfl (by decide) (s_209 w1155 g0 ⟨b1158.1, b1158.2⟩) (fun R1160 T1161 H1162 p1163 => ?_))
      obtain ⟨e1164, w1166, f1167, z1168, e1165, b1169⟩ := p1163
      subst e1164
      subst e1165
      have f1170 := f1159.tr f1167 rfl
      show wp _ _ 263 41 [(3, vI z1119), (0, .ref r0), (1, vI a1), (2, vI a2)] [vI z1168] _ H1162 _
      have k1171 : wKI H1162 r0 = wKI H1113 r0 := ((wKI_fr w1155 g0 f1167 rfl).trans (wKI_fr w1117 g0 f1156 rfl))
      have h1172 : KNN T H1162 r0 e d := (KNN_fr w1155 g0 f1167 rfl (KNN_fr w1117 g0 f1156 rfl a1130))
      exact wp_ireturn e263 c263_41 rfl ⟨rfl, w1166, f1170, z1168, rfl, ⟨b1169.1, b1169.2⟩, ⟨by omega, h1172⟩⟩
    · exfalso
      omega
  · have f1173 := f1095.tr f1118 rfl
    show wp _ _ 263 14 [(0, .ref r0), (1, vI a1), (2, vI a2)] [vI z1119] _ H1113 _
    have k1174 : wLM H1113 r0 = wLM H r0 := ((wLM_fr w1094 g0 f1118 rfl).trans (wLM_fr hW g0 ((wfr.rf (l := [(42, 0)])).put' e1093 g0 rfl) rfl))
    refine wp_of e263 c263_14 (rw_istore_n (pc' := 15) (z := z1119) (L' := [(3, vI z1119), (0, .ref r0), (1, vI a1), (2, vI a2)]) rfl rfl rfl ?_)
    refine wp_of e263 c263_15 (rw_iload_n (pc' := 16) (z := z1119) rfl rfl ?_)
    refine wp_of e263 c263_16 (rw_if_le (p1 := 27) (p2 := 19) (by decide) rfl ⟨Int.le_trans (by decide) b1120.1, Int.le_trans b1120.2 (by decide)⟩ (fun c1175 => ?_) (fun c1175 => ?_))
    · exfalso
      omega
    · refine wp_of e263 c263_19 (rw_aload_n (pc' := 20) (v := .ref r0) rfl rfl rfl ?_)
      refine wp_of e263 c263_20 (rw_iload_n (pc' := 21) (z := z1119) rfl rfl ?_)
      refine wp_of e263 c263_21 (xc_V (pc' := 24) (r := r0) (as := [vI z1119]) (st := []) (lm_9_54) rfl rfl (Nat.le_of_ble_eq_true rfl) w1117 g0 sh_42 (by decide) rfl (by decide) (s_170 w1117 g0 ⟨Int.le_trans (by decide) b1120.1, Int.le_trans b1120.2 (by decide)⟩) (fun R1176 T1177 H1178 p1179 => ?_))
      obtain ⟨e1180, w1182, f1183, z1184, e1181, b1185⟩ := p1179
      subst e1180
      subst e1181
      have f1186 := f1173.tr f1183 rfl
      show wp _ _ 263 24 [(3, vI z1119), (0, .ref r0), (1, vI a1), (2, vI a2)] [vI z1184] _ H1178 _
      refine wp_of e263 c263_24 (rw_goto (p1 := 41) (by decide) ?_)
      have k1187 : wKI H1178 r0 = wKI H1113 r0 := (wKI_fr w1117 g0 f1183 rfl)
      have h1188 : KNN T H1178 r0 e d := (KNN_fr w1117 g0 f1183 rfl a1138)
      exact wp_ireturn e263 c263_41 rfl ⟨rfl, w1182, f1186, z1184, rfl, ⟨b1185.1, b1185.2⟩, ⟨by omega, h1188⟩⟩
/-! StrikeAwakeModel.sleeps(IZ)I  -/
abbrev uq_265 (r0 : Nat) (a1 : Int) (a2 : Int) (e : xD) (d : xD) (T : wq_T) (H : wq_H) : Option Value → wq_T → wq_H → Prop := fun r T' H' => T = T' ∧ WT T H' ∧ wfr [(42, 0), (42, 1), (42, 2), (42, 28), (42, 29), (51, 999), (52, 999)] T H H' ∧ ∃ z : Int, some (vI z) = r ∧ ((-2147483648) ≤ z ∧ z ≤ 2147483647) ∧ (((wKI H' r0 = 1) ∧ KNN T H' r0 e d))
set_option maxHeartbeats 4000000 in
theorem u_265 {kt : Nat → Option mc_E} {T : wq_T} {H : wq_H} {r0 : Nat} {a1 : Int} {a2 : Int} {e : xD} {d : xD} (hW : WT T H) (g0 : T.2.2.2 r0 = some 42) (i1 : (-2147483648) ≤ a1 ∧ a1 ≤ 2147483647) (i2 : 0 ≤ a2 ∧ a2 ≤ 1) (p0 : wKI H r0 = 1) (p1 : XW d) (p2 : ∀ h : Nat, d 0 0 ≤ (h : Int) → h < 24 → e 13 h = 0) (p3 : XN d) (p4 : ∀ h : Nat, h < 24 → 0 ≤ e 13 h ∧ e 13 h ≤ 100) (hRB_r0 : RB T H r0 e d) (hKNN_r0 : KNN T H r0 e d) : wpc kt 9 265 [.ref r0, vI a1, vI a2] T H (uq_265 r0 a1 a2 e d T H) := by
  refine wp_enter e265 (Nat.le_of_ble_eq_true rfl) rfl ?_
  have f0 : wfr [(42, 0), (42, 1), (42, 2), (42, 28), (42, 29), (51, 999), (52, 999)] T H H := wfr.rf
  show wp _ _ 265 0 [(0, .ref r0), (1, vI a1), (2, vI a2)] [] _ H _
  have _b := RB_b hW hRB_r0
  have _nu := RB_n3 hRB_r0
  have _lm := RB_lm hRB_r0
  refine wp_of e265 c265_0 (rw_aload_n (pc' := 1) (v := .ref r0) rfl rfl rfl ?_)
  refine wp_of e265 c265_1 (rw_iconst (pc' := 2) rfl ?_)
  refine wp_of e265 c265_2 (xp_I (pc' := 5) lf_9_48 hW g0 sh_42 (by decide) (by decide) ty_42_0 rfl rfl (by decide) (by decide) ⟨by decide, by decide⟩ rfl (fun H1092 e1093 w1094 => ?_))
  have f1095 := f0.put' e1093 g0 rfl
  have k1096 : H1092 r0 0 = 0 := wq_u_s e1093
  refine wp_of e265 c265_5 (rw_aload_n (pc' := 6) (v := .ref r0) rfl rfl rfl ?_)
  refine wp_of e265 c265_6 (rw_aload_n (pc' := 7) (v := .ref r0) rfl rfl rfl ?_)
  refine wp_of e265 c265_7 (rw_iload_n (pc' := 8) (z := a1) rfl rfl ?_)
  refine wp_of e265 c265_8 (xc_V (pc' := 11) (r := r0) (as := [vI a1]) (st := [.ref r0]) (lm_9_364) rfl rfl (Nat.le_of_ble_eq_true rfl) w1094 g0 sh_42 (by decide) rfl (by decide) (s_213 w1094 g0 ⟨i1.1, i1.2⟩) (fun R1097 T1098 H1099 p1100 => ?_))
  obtain ⟨e1101, e1103, z1105, e1102, b1106, p1104⟩ := p1100
  subst e1101
  subst e1102
  subst e1103
  show wp _ _ 265 11 [(0, .ref r0), (1, vI a1), (2, vI a2)] [vI z1105, .ref r0] _ H1092 _
  have k1107 : H1092 r0 3 = H r0 3 := (wq_u_j e1093 rfl)
  have k1108 : wKI H1092 r0 = wKI H r0 := (wKI_fr hW g0 ((wfr.rf (l := [(42, 0)])).put' e1093 g0 rfl) rfl)
  have h1109 : RB T H1092 r0 e d := (RB_fr hW g0 ((wfr.rf (l := [(42, 0)])).put' e1093 g0 rfl) rfl hRB_r0)
  have h1110 : KNN T H1092 r0 e d := (KNN_fr hW g0 ((wfr.rf (l := [(42, 0)])).put' e1093 g0 rfl) rfl hKNN_r0)
  refine wp_of e265 c265_11 (xc_V (pc' := 14) (r := r0) (as := [vI z1105]) (st := []) (lm_9_447) rfl rfl (Nat.le_of_ble_eq_true rfl) w1094 g0 sh_42 (by decide) rfl (by decide) (u_253 (e := e) (d := d) w1094 g0 ⟨b1106.1, b1106.2⟩ (by omega) (by omega) (by assumption) (by assumption) (by assumption) (by assumption) h1109 h1110) (fun R1111 T1112 H1113 p1114 => ?_))
  obtain ⟨e1115, w1117, f1118, z1119, e1116, b1120, p1121⟩ := p1114
  subst e1115
  subst e1116
  rcases p1121 with ⟨a1122, a1123, a1124, a1125, a1126, a1127, a1128, a1129, a1130, a1131⟩ | ⟨a1132, a1133, a1134, a1135, a1136, a1137, a1138⟩
  · have f1139 := f1095.tr f1118 rfl
    show wp _ _ 265 14 [(0, .ref r0), (1, vI a1), (2, vI a2)] [vI z1119] _ H1113 _
    have k1140 : wLM H1113 r0 = wLM H r0 := ((wLM_fr w1094 g0 f1118 rfl).trans (wLM_fr hW g0 ((wfr.rf (l := [(42, 0)])).put' e1093 g0 rfl) rfl))
    refine wp_of e265 c265_14 (rw_istore_n (pc' := 15) (z := z1119) (L' := [(3, vI z1119), (0, .ref r0), (1, vI a1), (2, vI a2)]) rfl rfl rfl ?_)
    refine wp_of e265 c265_15 (rw_iload_n (pc' := 16) (z := z1119) rfl rfl ?_)
    refine wp_of e265 c265_16 (rw_if_le (p1 := 27) (p2 := 19) (by decide) rfl ⟨Int.le_trans (by decide) b1120.1, Int.le_trans b1120.2 (by decide)⟩ (fun c1141 => ?_) (fun c1141 => ?_))
    · refine wp_of e265 c265_27 (rw_aload_n (pc' := 28) (v := .ref r0) rfl rfl rfl ?_)
      refine wp_of e265 c265_28 (rw_aload_n (pc' := 29) (v := .ref r0) rfl rfl rfl ?_)
      refine wp_of e265 c265_29 (rw_iload_n (pc' := 30) (z := a1) rfl rfl ?_)
      refine wp_of e265 c265_30 (rw_aload_n (pc' := 31) (v := .ref r0) rfl rfl rfl ?_)
      refine wp_of e265 c265_31 (xg_R (pc' := 34) lf_9_27 w1117 g0 sh_42 (by decide) (by decide) ty_42_23 rfl rfl (fun r1142 q1143 g1144 => ?_))
      refine wp_of e265 c265_34 (rw_iload_n (pc' := 35) (z := a2) rfl rfl ?_)
      have k1145 : H1113 r0 3 = H1092 r0 3 := (f1118 r0 3 _ g0 rfl)
      obtain ⟨r1146, q1147, g1148⟩ := (w1117.opt g0 (t' := 54) (n := 33) (j := 3) (p := 0) (q := 0) rfl (by decide) rfl).resolve_left (by omega)
      refine wp_of e265 c265_35 (xc_V (pc' := 38) (r := r0) (as := [vI a1, .ref r1142, vI a2]) (st := [.ref r0]) (lm_9_458) rfl rfl (Nat.le_of_ble_eq_true rfl) w1117 g0 sh_42 (by decide) rfl (by decide) (s_264_m_length w1117 g0 ⟨by omega, by omega⟩ g1144 ⟨i2.1, i2.2⟩ q1147 g1148 (by omega)) (fun R1149 T1150 H1151 p1152 => ?_))
      obtain ⟨e1153, w1155, f1156, z1157, e1154, b1158⟩ := p1152
      subst e1153
      subst e1154
      have f1159 := f1139.tr f1156 rfl
      show wp _ _ 265 38 [(3, vI z1119), (0, .ref r0), (1, vI a1), (2, vI a2)] [vI z1157, .ref r0] _ H1151 _
      refine wp_of e265 c265_38 (xc_V (pc' := 41) (r := r0) (as := [vI z1157]) (st := []) (lm_9_58) rfl rfl (Nat.le_of_ble_eq_true rfl) w1155 g0 sh_42 (by decide) rfl (by decide) (s_209 w1155 g0 ⟨b1158.1, b1158.2⟩) (fun R1160 T1161 H1162 p1163 => ?_))
      obtain ⟨e1164, w1166, f1167, z1168, e1165, b1169⟩ := p1163
      subst e1164
      subst e1165
      have f1170 := f1159.tr f1167 rfl
      show wp _ _ 265 41 [(3, vI z1119), (0, .ref r0), (1, vI a1), (2, vI a2)] [vI z1168] _ H1162 _
      have k1171 : wKI H1162 r0 = wKI H1113 r0 := ((wKI_fr w1155 g0 f1167 rfl).trans (wKI_fr w1117 g0 f1156 rfl))
      have h1172 : KNN T H1162 r0 e d := (KNN_fr w1155 g0 f1167 rfl (KNN_fr w1117 g0 f1156 rfl a1130))
      exact wp_ireturn e265 c265_41 rfl ⟨rfl, w1166, f1170, z1168, rfl, ⟨b1169.1, b1169.2⟩, ⟨by omega, h1172⟩⟩
    · exfalso
      omega
  · have f1173 := f1095.tr f1118 rfl
    show wp _ _ 265 14 [(0, .ref r0), (1, vI a1), (2, vI a2)] [vI z1119] _ H1113 _
    have k1174 : wLM H1113 r0 = wLM H r0 := ((wLM_fr w1094 g0 f1118 rfl).trans (wLM_fr hW g0 ((wfr.rf (l := [(42, 0)])).put' e1093 g0 rfl) rfl))
    refine wp_of e265 c265_14 (rw_istore_n (pc' := 15) (z := z1119) (L' := [(3, vI z1119), (0, .ref r0), (1, vI a1), (2, vI a2)]) rfl rfl rfl ?_)
    refine wp_of e265 c265_15 (rw_iload_n (pc' := 16) (z := z1119) rfl rfl ?_)
    refine wp_of e265 c265_16 (rw_if_le (p1 := 27) (p2 := 19) (by decide) rfl ⟨Int.le_trans (by decide) b1120.1, Int.le_trans b1120.2 (by decide)⟩ (fun c1175 => ?_) (fun c1175 => ?_))
    · exfalso
      omega
    · refine wp_of e265 c265_19 (rw_aload_n (pc' := 20) (v := .ref r0) rfl rfl rfl ?_)
      refine wp_of e265 c265_20 (rw_iload_n (pc' := 21) (z := z1119) rfl rfl ?_)
      refine wp_of e265 c265_21 (xc_V (pc' := 24) (r := r0) (as := [vI z1119]) (st := []) (lm_9_54) rfl rfl (Nat.le_of_ble_eq_true rfl) w1117 g0 sh_42 (by decide) rfl (by decide) (s_170 w1117 g0 ⟨Int.le_trans (by decide) b1120.1, Int.le_trans b1120.2 (by decide)⟩) (fun R1176 T1177 H1178 p1179 => ?_))
      obtain ⟨e1180, w1182, f1183, z1184, e1181, b1185⟩ := p1179
      subst e1180
      subst e1181
      have f1186 := f1173.tr f1183 rfl
      show wp _ _ 265 24 [(3, vI z1119), (0, .ref r0), (1, vI a1), (2, vI a2)] [vI z1184] _ H1178 _
      refine wp_of e265 c265_24 (rw_goto (p1 := 41) (by decide) ?_)
      have k1187 : wKI H1178 r0 = wKI H1113 r0 := (wKI_fr w1117 g0 f1183 rfl)
      have h1188 : KNN T H1178 r0 e d := (KNN_fr w1117 g0 f1183 rfl a1138)
      exact wp_ireturn e265 c265_41 rfl ⟨rfl, w1182, f1186, z1184, rfl, ⟨b1185.1, b1185.2⟩, ⟨by omega, h1188⟩⟩
/-! StrikeAwakeModel.ask()I  -/
abbrev uq_266 (r0 : Nat) (e : xD) (d : xD) (T : wq_T) (H : wq_H) : Option Value → wq_T → wq_H → Prop := fun r T' H' => T = T' ∧ WT T H' ∧ wfr [(42, 0), (42, 1), (42, 2), (42, 28), (42, 29), (51, 999), (53, 999), (52, 999)] T H H' ∧ ∃ z : Int, some (vI z) = r ∧ ((-2147483648) ≤ z ∧ z ≤ 2147483647) ∧ (((wKI H' r0 = 1) ∧ KNN T H' r0 e d))
set_option maxHeartbeats 4000000 in
theorem u_266 {kt : Nat → Option mc_E} {T : wq_T} {H : wq_H} {r0 : Nat} {e : xD} {d : xD} (hW : WT T H) (g0 : T.2.2.2 r0 = some 42) (p0 : wKI H r0 = 1) (p1 : XW d) (p2 : ∀ h : Nat, d 0 0 ≤ (h : Int) → h < 24 → e 13 h = 0) (p3 : XN d) (p4 : ∀ h : Nat, h < 24 → 0 ≤ e 13 h ∧ e 13 h ≤ 100) (hRB_r0 : RB T H r0 e d) (hKNN_r0 : KNN T H r0 e d) : wpc kt 10 266 [.ref r0] T H (uq_266 r0 e d T H) := by
  refine wp_enter e266 (Nat.le_of_ble_eq_true rfl) rfl ?_
  have f0 : wfr [(42, 0), (42, 1), (42, 2), (42, 28), (42, 29), (51, 999), (53, 999), (52, 999)] T H H := wfr.rf
  show wp _ _ 266 0 [(0, .ref r0)] [] _ H _
  have _b := RB_b hW hRB_r0
  have _nu := RB_n3 hRB_r0
  have _lm := RB_lm hRB_r0
  refine wp_of e266 c266_0 (rw_aload_n (pc' := 1) (v := .ref r0) rfl rfl rfl ?_)
  refine wp_of e266 c266_1 (rw_iconst (pc' := 2) rfl ?_)
  refine wp_of e266 c266_2 (xp_I (pc' := 5) lf_9_48 hW g0 sh_42 (by decide) (by decide) ty_42_0 rfl rfl (by decide) (by decide) ⟨by decide, by decide⟩ rfl (fun H1123 e1124 w1125 => ?_))
  have f1126 := f0.put' e1124 g0 rfl
  have k1127 : H1123 r0 0 = 0 := wq_u_s e1124
  refine wp_of e266 c266_5 (rw_aload_n (pc' := 6) (v := .ref r0) rfl rfl rfl ?_)
  refine wp_of e266 c266_6 (rw_aload_n (pc' := 7) (v := .ref r0) rfl rfl rfl ?_)
  have k1128 : H1123 r0 3 = H r0 3 := (wq_u_j e1124 rfl)
  refine wp_of e266 c266_7 (xg_O (pc' := 10) lf_9_337 w1125 g0 sh_42 (by decide) (by decide) ty_42_3 rfl rfl (fun q1130 => ?_) (fun r1129 q1130 g1131 => ?_))
  · refine wp_of e266 c266_10 (rw_ifnull_n (p1 := 17) (p2 := 13) (by decide) rfl ?_)
    refine wp_of e266 c266_17 (rw_iconst (pc' := 18) rfl ?_)
    have k1132 : wKI H1123 r0 = wKI H r0 := (wKI_fr hW g0 ((wfr.rf (l := [(42, 0)])).put' e1124 g0 rfl) rfl)
    have h1133 : RB T H1123 r0 e d := (RB_fr hW g0 ((wfr.rf (l := [(42, 0)])).put' e1124 g0 rfl) rfl hRB_r0)
    have h1134 : KNN T H1123 r0 e d := (KNN_fr hW g0 ((wfr.rf (l := [(42, 0)])).put' e1124 g0 rfl) rfl hKNN_r0)
    refine wp_of e266 c266_18 (xc_V (pc' := 21) (r := r0) (as := [vI 0]) (st := []) (lm_9_467) rfl rfl (Nat.le_of_ble_eq_true rfl) w1125 g0 sh_42 (by decide) rfl (by decide) (u_267 (e := e) (d := d) w1125 g0 ⟨by decide, by decide⟩ (by omega) (by omega) (by assumption) (by assumption) (by assumption) (by assumption) h1133 h1134) (fun R1135 T1136 H1137 p1138 => ?_))
    obtain ⟨e1139, w1141, f1142, z1143, e1140, b1144, p1145⟩ := p1138
    subst e1139
    subst e1140
    obtain ⟨a1146, a1147, a1148, a1149, a1150⟩ := p1145
    have f1151 := f1126.tr f1142 rfl
    show wp _ _ 266 21 [(0, .ref r0)] [vI z1143] _ H1137 _
    have k1152 : wLM H1137 r0 = wLM H r0 := ((wLM_fr w1125 g0 f1142 rfl).trans (wLM_fr hW g0 ((wfr.rf (l := [(42, 0)])).put' e1124 g0 rfl) rfl))
    refine wp_of e266 c266_21 (rw_istore_n (pc' := 22) (z := z1143) (L' := [(1, vI z1143), (0, .ref r0)]) rfl rfl rfl ?_)
    refine wp_of e266 c266_22 (rw_iload_n (pc' := 23) (z := z1143) rfl rfl ?_)
    refine wp_of e266 c266_23 (rw_if_le (p1 := 34) (p2 := 26) (by decide) rfl ⟨Int.le_trans (by decide) b1144.1, Int.le_trans b1144.2 (by decide)⟩ (fun c1153 => ?_) (fun c1153 => ?_))
    · refine wp_of e266 c266_34 (rw_aload_n (pc' := 35) (v := .ref r0) rfl rfl rfl ?_)
      refine wp_of e266 c266_35 (rw_aload_n (pc' := 36) (v := .ref r0) rfl rfl rfl ?_)
      refine wp_of e266 c266_36 (rw_iconst (pc' := 37) rfl ?_)
      have k1154 : H1137 r0 3 = H1123 r0 3 := (f1142 r0 3 _ g0 rfl)
      have q1155 : H1137 r0 3 = -1 := k1154.trans q1130
      obtain ⟨r1156, q1157, g1158⟩ := (w1141.opt g0 (t' := 54) (n := 33) (j := 3) (p := 0) (q := 0) rfl (by decide) rfl).resolve_left (by omega)
      refine wp_of e266 c266_37 (xc_V (pc' := 40) (r := r0) (as := [vI (-1)]) (st := [.ref r0]) (lm_9_470) rfl rfl (Nat.le_of_ble_eq_true rfl) w1141 g0 sh_42 (by decide) rfl (by decide) (s_268 w1141 g0 ⟨by decide, by decide⟩ q1157 g1158 (by omega)) (fun R1159 T1160 H1161 p1162 => ?_))
      obtain ⟨e1163, w1165, f1166, z1167, e1164, b1168⟩ := p1162
      subst e1163
      subst e1164
      have f1169 := f1151.tr f1166 rfl
      show wp _ _ 266 40 [(1, vI z1143), (0, .ref r0)] [vI z1167, .ref r0] _ H1161 _
      refine wp_of e266 c266_40 (xc_V (pc' := 43) (r := r0) (as := [vI z1167]) (st := []) (lm_9_58) rfl rfl (Nat.le_of_ble_eq_true rfl) w1165 g0 sh_42 (by decide) rfl (by decide) (s_209 w1165 g0 ⟨b1168.1, b1168.2⟩) (fun R1170 T1171 H1172 p1173 => ?_))
      obtain ⟨e1174, w1176, f1177, z1178, e1175, b1179⟩ := p1173
      subst e1174
      subst e1175
      have f1180 := f1169.tr f1177 rfl
      show wp _ _ 266 43 [(1, vI z1143), (0, .ref r0)] [vI z1178] _ H1172 _
      have k1181 : wKI H1172 r0 = wKI H1137 r0 := ((wKI_fr w1165 g0 f1177 rfl).trans (wKI_fr w1141 g0 f1166 rfl))
      have h1182 : KNN T H1172 r0 e d := (KNN_fr w1165 g0 f1177 rfl (KNN_fr w1141 g0 f1166 rfl a1150))
      exact wp_ireturn e266 c266_43 rfl ⟨rfl, w1176, f1180, z1178, rfl, ⟨b1179.1, b1179.2⟩, ⟨by omega, h1182⟩⟩
    · refine wp_of e266 c266_26 (rw_aload_n (pc' := 27) (v := .ref r0) rfl rfl rfl ?_)
      refine wp_of e266 c266_27 (rw_iload_n (pc' := 28) (z := z1143) rfl rfl ?_)
      refine wp_of e266 c266_28 (xc_V (pc' := 31) (r := r0) (as := [vI z1143]) (st := []) (lm_9_54) rfl rfl (Nat.le_of_ble_eq_true rfl) w1141 g0 sh_42 (by decide) rfl (by decide) (s_170 w1141 g0 ⟨Int.le_trans (by decide) b1144.1, Int.le_trans b1144.2 (by decide)⟩) (fun R1183 T1184 H1185 p1186 => ?_))
      obtain ⟨e1187, w1189, f1190, z1191, e1188, b1192⟩ := p1186
      subst e1187
      subst e1188
      have f1193 := f1151.tr f1190 rfl
      show wp _ _ 266 31 [(1, vI z1143), (0, .ref r0)] [vI z1191] _ H1185 _
      refine wp_of e266 c266_31 (rw_goto (p1 := 43) (by decide) ?_)
      have k1194 : wKI H1185 r0 = wKI H1137 r0 := (wKI_fr w1141 g0 f1190 rfl)
      have h1195 : KNN T H1185 r0 e d := (KNN_fr w1141 g0 f1190 rfl a1150)
      exact wp_ireturn e266 c266_43 rfl ⟨rfl, w1189, f1193, z1191, rfl, ⟨b1192.1, b1192.2⟩, ⟨by omega, h1195⟩⟩
  · refine wp_of e266 c266_10 (rw_ifnull_r (p1 := 17) (p2 := 13) (by decide) rfl ?_)
    refine wp_of e266 c266_13 (rw_iconst (pc' := 14) rfl ?_)
    refine wp_of e266 c266_14 (rw_goto (p1 := 18) (by decide) ?_)
    have k1196 : wKI H1123 r0 = wKI H r0 := (wKI_fr hW g0 ((wfr.rf (l := [(42, 0)])).put' e1124 g0 rfl) rfl)
    have h1197 : RB T H1123 r0 e d := (RB_fr hW g0 ((wfr.rf (l := [(42, 0)])).put' e1124 g0 rfl) rfl hRB_r0)
    have h1198 : KNN T H1123 r0 e d := (KNN_fr hW g0 ((wfr.rf (l := [(42, 0)])).put' e1124 g0 rfl) rfl hKNN_r0)
    refine wp_of e266 c266_18 (xc_V (pc' := 21) (r := r0) (as := [vI 1]) (st := []) (lm_9_467) rfl rfl (Nat.le_of_ble_eq_true rfl) w1125 g0 sh_42 (by decide) rfl (by decide) (u_267 (e := e) (d := d) w1125 g0 ⟨by decide, by decide⟩ (by omega) (by omega) (by assumption) (by assumption) (by assumption) (by assumption) h1197 h1198) (fun R1199 T1200 H1201 p1202 => ?_))
    obtain ⟨e1203, w1205, f1206, z1207, e1204, b1208, p1209⟩ := p1202
    subst e1203
    subst e1204
    obtain ⟨a1210, a1211, a1212, a1213, a1214⟩ := p1209
    have f1215 := f1126.tr f1206 rfl
    show wp _ _ 266 21 [(0, .ref r0)] [vI z1207] _ H1201 _
    have k1216 : wLM H1201 r0 = wLM H r0 := ((wLM_fr w1125 g0 f1206 rfl).trans (wLM_fr hW g0 ((wfr.rf (l := [(42, 0)])).put' e1124 g0 rfl) rfl))
    refine wp_of e266 c266_21 (rw_istore_n (pc' := 22) (z := z1207) (L' := [(1, vI z1207), (0, .ref r0)]) rfl rfl rfl ?_)
    refine wp_of e266 c266_22 (rw_iload_n (pc' := 23) (z := z1207) rfl rfl ?_)
    refine wp_of e266 c266_23 (rw_if_le (p1 := 34) (p2 := 26) (by decide) rfl ⟨Int.le_trans (by decide) b1208.1, Int.le_trans b1208.2 (by decide)⟩ (fun c1217 => ?_) (fun c1217 => ?_))
    · refine wp_of e266 c266_34 (rw_aload_n (pc' := 35) (v := .ref r0) rfl rfl rfl ?_)
      refine wp_of e266 c266_35 (rw_aload_n (pc' := 36) (v := .ref r0) rfl rfl rfl ?_)
      refine wp_of e266 c266_36 (rw_iconst (pc' := 37) rfl ?_)
      have k1218 : H1201 r0 3 = H1123 r0 3 := (f1206 r0 3 _ g0 rfl)
      have q1219 : H1201 r0 3 = (r1129 : Int) := k1218.trans q1130
      refine wp_of e266 c266_37 (xc_V (pc' := 40) (r := r0) (as := [vI (-1)]) (st := [.ref r0]) (lm_9_470) rfl rfl (Nat.le_of_ble_eq_true rfl) w1205 g0 sh_42 (by decide) rfl (by decide) (s_268 w1205 g0 ⟨by decide, by decide⟩ q1219 g1131 (by omega)) (fun R1220 T1221 H1222 p1223 => ?_))
      obtain ⟨e1224, w1226, f1227, z1228, e1225, b1229⟩ := p1223
      subst e1224
      subst e1225
      have f1230 := f1215.tr f1227 rfl
      show wp _ _ 266 40 [(1, vI z1207), (0, .ref r0)] [vI z1228, .ref r0] _ H1222 _
      refine wp_of e266 c266_40 (xc_V (pc' := 43) (r := r0) (as := [vI z1228]) (st := []) (lm_9_58) rfl rfl (Nat.le_of_ble_eq_true rfl) w1226 g0 sh_42 (by decide) rfl (by decide) (s_209 w1226 g0 ⟨b1229.1, b1229.2⟩) (fun R1231 T1232 H1233 p1234 => ?_))
      obtain ⟨e1235, w1237, f1238, z1239, e1236, b1240⟩ := p1234
      subst e1235
      subst e1236
      have f1241 := f1230.tr f1238 rfl
      show wp _ _ 266 43 [(1, vI z1207), (0, .ref r0)] [vI z1239] _ H1233 _
      have k1242 : wKI H1233 r0 = wKI H1201 r0 := ((wKI_fr w1226 g0 f1238 rfl).trans (wKI_fr w1205 g0 f1227 rfl))
      have h1243 : KNN T H1233 r0 e d := (KNN_fr w1226 g0 f1238 rfl (KNN_fr w1205 g0 f1227 rfl a1214))
      exact wp_ireturn e266 c266_43 rfl ⟨rfl, w1237, f1241, z1239, rfl, ⟨b1240.1, b1240.2⟩, ⟨by omega, h1243⟩⟩
    · refine wp_of e266 c266_26 (rw_aload_n (pc' := 27) (v := .ref r0) rfl rfl rfl ?_)
      refine wp_of e266 c266_27 (rw_iload_n (pc' := 28) (z := z1207) rfl rfl ?_)
      refine wp_of e266 c266_28 (xc_V (pc' := 31) (r := r0) (as := [vI z1207]) (st := []) (lm_9_54) rfl rfl (Nat.le_of_ble_eq_true rfl) w1205 g0 sh_42 (by decide) rfl (by decide) (s_170 w1205 g0 ⟨Int.le_trans (by decide) b1208.1, Int.le_trans b1208.2 (by decide)⟩) (fun R1244 T1245 H1246 p1247 => ?_))
      obtain ⟨e1248, w1250, f1251, z1252, e1249, b1253⟩ := p1247
      subst e1248
      subst e1249
      have f1254 := f1215.tr f1251 rfl
      show wp _ _ 266 31 [(1, vI z1207), (0, .ref r0)] [vI z1252] _ H1246 _
      refine wp_of e266 c266_31 (rw_goto (p1 := 43) (by decide) ?_)
      have k1255 : wKI H1246 r0 = wKI H1201 r0 := (wKI_fr w1205 g0 f1251 rfl)
      have h1256 : KNN T H1246 r0 e d := (KNN_fr w1205 g0 f1251 rfl a1214)
      exact wp_ireturn e266 c266_43 rfl ⟨rfl, w1250, f1254, z1252, rfl, ⟨b1253.1, b1253.2⟩, ⟨by omega, h1256⟩⟩
/-! StrikeAwakeModel.askFor(I)I  -/
abbrev uq_271 (r0 : Nat) (a1 : Int) (e : xD) (d : xD) (T : wq_T) (H : wq_H) : Option Value → wq_T → wq_H → Prop := fun r T' H' => T = T' ∧ WT T H' ∧ wfr [(42, 0), (42, 1), (42, 2), (42, 28), (42, 29), (51, 999), (53, 999), (52, 999)] T H H' ∧ ∃ z : Int, some (vI z) = r ∧ ((-2147483648) ≤ z ∧ z ≤ 2147483647) ∧ (((wKI H' r0 = 1) ∧ KNN T H' r0 e d))
set_option maxHeartbeats 4000000 in
theorem u_271 {kt : Nat → Option mc_E} {T : wq_T} {H : wq_H} {r0 : Nat} {a1 : Int} {e : xD} {d : xD} (hW : WT T H) (g0 : T.2.2.2 r0 = some 42) (i1 : (-2147483648) ≤ a1 ∧ a1 ≤ 2147483647) (p0 : wKI H r0 = 1) (p1 : XW d) (p2 : ∀ h : Nat, d 0 0 ≤ (h : Int) → h < 24 → e 13 h = 0) (p3 : XN d) (p4 : ∀ h : Nat, h < 24 → 0 ≤ e 13 h ∧ e 13 h ≤ 100) (hRB_r0 : RB T H r0 e d) (hKNN_r0 : KNN T H r0 e d) : wpc kt 10 271 [.ref r0, vI a1] T H (uq_271 r0 a1 e d T H) := by
  refine wp_enter e271 (Nat.le_of_ble_eq_true rfl) rfl ?_
  have f0 : wfr [(42, 0), (42, 1), (42, 2), (42, 28), (42, 29), (51, 999), (53, 999), (52, 999)] T H H := wfr.rf
  show wp _ _ 271 0 [(0, .ref r0), (1, vI a1)] [] _ H _
  have _b := RB_b hW hRB_r0
  have _nu := RB_n3 hRB_r0
  have _lm := RB_lm hRB_r0
  refine wp_of e271 c271_0 (rw_aload_n (pc' := 1) (v := .ref r0) rfl rfl rfl ?_)
  refine wp_of e271 c271_1 (rw_iconst (pc' := 2) rfl ?_)
  refine wp_of e271 c271_2 (xp_I (pc' := 5) lf_9_48 hW g0 sh_42 (by decide) (by decide) ty_42_0 rfl rfl (by decide) (by decide) ⟨by decide, by decide⟩ rfl (fun H1074 e1075 w1076 => ?_))
  have f1077 := f0.put' e1075 g0 rfl
  have k1078 : H1074 r0 0 = 0 := wq_u_s e1075
  refine wp_of e271 c271_5 (rw_aload_n (pc' := 6) (v := .ref r0) rfl rfl rfl ?_)
  refine wp_of e271 c271_6 (rw_aload_n (pc' := 7) (v := .ref r0) rfl rfl rfl ?_)
  refine wp_of e271 c271_7 (rw_iload_n (pc' := 8) (z := a1) rfl rfl ?_)
  refine wp_of e271 c271_8 (xc_V (pc' := 11) (r := r0) (as := [vI a1]) (st := [.ref r0]) (lm_9_373) rfl rfl (Nat.le_of_ble_eq_true rfl) w1076 g0 sh_42 (by decide) rfl (by decide) (s_218 w1076 g0 ⟨i1.1, i1.2⟩) (fun R1079 T1080 H1081 p1082 => ?_))
  obtain ⟨e1083, e1085, z1087, e1084, b1088, p1086⟩ := p1082
  subst e1083
  subst e1084
  subst e1085
  show wp _ _ 271 11 [(0, .ref r0), (1, vI a1)] [vI z1087, .ref r0] _ H1074 _
  have k1089 : H1074 r0 3 = H r0 3 := (wq_u_j e1075 rfl)
  have k1090 : wKI H1074 r0 = wKI H r0 := (wKI_fr hW g0 ((wfr.rf (l := [(42, 0)])).put' e1075 g0 rfl) rfl)
  have h1091 : RB T H1074 r0 e d := (RB_fr hW g0 ((wfr.rf (l := [(42, 0)])).put' e1075 g0 rfl) rfl hRB_r0)
  have h1092 : KNN T H1074 r0 e d := (KNN_fr hW g0 ((wfr.rf (l := [(42, 0)])).put' e1075 g0 rfl) rfl hKNN_r0)
  refine wp_of e271 c271_11 (xc_V (pc' := 14) (r := r0) (as := [vI z1087]) (st := []) (lm_9_467) rfl rfl (Nat.le_of_ble_eq_true rfl) w1076 g0 sh_42 (by decide) rfl (by decide) (u_267 (e := e) (d := d) w1076 g0 ⟨b1088.1, b1088.2⟩ (by omega) (by omega) (by assumption) (by assumption) (by assumption) (by assumption) h1091 h1092) (fun R1093 T1094 H1095 p1096 => ?_))
  obtain ⟨e1097, w1099, f1100, z1101, e1098, b1102, p1103⟩ := p1096
  subst e1097
  subst e1098
  obtain ⟨a1104, a1105, a1106, a1107, a1108⟩ := p1103
  have f1109 := f1077.tr f1100 rfl
  show wp _ _ 271 14 [(0, .ref r0), (1, vI a1)] [vI z1101] _ H1095 _
  have k1110 : wLM H1095 r0 = wLM H r0 := ((wLM_fr w1076 g0 f1100 rfl).trans (wLM_fr hW g0 ((wfr.rf (l := [(42, 0)])).put' e1075 g0 rfl) rfl))
  refine wp_of e271 c271_14 (rw_istore_n (pc' := 15) (z := z1101) (L' := [(2, vI z1101), (0, .ref r0), (1, vI a1)]) rfl rfl rfl ?_)
  refine wp_of e271 c271_15 (rw_iload_n (pc' := 16) (z := z1101) rfl rfl ?_)
  refine wp_of e271 c271_16 (rw_if_le (p1 := 27) (p2 := 19) (by decide) rfl ⟨Int.le_trans (by decide) b1102.1, Int.le_trans b1102.2 (by decide)⟩ (fun c1111 => ?_) (fun c1111 => ?_))
  · refine wp_of e271 c271_27 (rw_aload_n (pc' := 28) (v := .ref r0) rfl rfl rfl ?_)
    refine wp_of e271 c271_28 (rw_aload_n (pc' := 29) (v := .ref r0) rfl rfl rfl ?_)
    refine wp_of e271 c271_29 (rw_iload_n (pc' := 30) (z := a1) rfl rfl ?_)
    have k1112 : H1095 r0 3 = H1074 r0 3 := (f1100 r0 3 _ g0 rfl)
    obtain ⟨r1113, q1114, g1115⟩ := (w1099.opt g0 (t' := 54) (n := 33) (j := 3) (p := 0) (q := 0) rfl (by decide) rfl).resolve_left (by omega)
    refine wp_of e271 c271_30 (xc_V (pc' := 33) (r := r0) (as := [vI a1]) (st := [.ref r0]) (lm_9_470) rfl rfl (Nat.le_of_ble_eq_true rfl) w1099 g0 sh_42 (by decide) rfl (by decide) (s_268 w1099 g0 ⟨i1.1, i1.2⟩ q1114 g1115 (by omega)) (fun R1116 T1117 H1118 p1119 => ?_))
    obtain ⟨e1120, w1122, f1123, z1124, e1121, b1125⟩ := p1119
    subst e1120
    subst e1121
    have f1126 := f1109.tr f1123 rfl
    show wp _ _ 271 33 [(2, vI z1101), (0, .ref r0), (1, vI a1)] [vI z1124, .ref r0] _ H1118 _
    refine wp_of e271 c271_33 (xc_V (pc' := 36) (r := r0) (as := [vI z1124]) (st := []) (lm_9_58) rfl rfl (Nat.le_of_ble_eq_true rfl) w1122 g0 sh_42 (by decide) rfl (by decide) (s_209 w1122 g0 ⟨b1125.1, b1125.2⟩) (fun R1127 T1128 H1129 p1130 => ?_))
    obtain ⟨e1131, w1133, f1134, z1135, e1132, b1136⟩ := p1130
    subst e1131
    subst e1132
    have f1137 := f1126.tr f1134 rfl
    show wp _ _ 271 36 [(2, vI z1101), (0, .ref r0), (1, vI a1)] [vI z1135] _ H1129 _
    have k1138 : wKI H1129 r0 = wKI H1095 r0 := ((wKI_fr w1122 g0 f1134 rfl).trans (wKI_fr w1099 g0 f1123 rfl))
    have h1139 : KNN T H1129 r0 e d := (KNN_fr w1122 g0 f1134 rfl (KNN_fr w1099 g0 f1123 rfl a1108))
    exact wp_ireturn e271 c271_36 rfl ⟨rfl, w1133, f1137, z1135, rfl, ⟨b1136.1, b1136.2⟩, ⟨by omega, h1139⟩⟩
  · refine wp_of e271 c271_19 (rw_aload_n (pc' := 20) (v := .ref r0) rfl rfl rfl ?_)
    refine wp_of e271 c271_20 (rw_iload_n (pc' := 21) (z := z1101) rfl rfl ?_)
    refine wp_of e271 c271_21 (xc_V (pc' := 24) (r := r0) (as := [vI z1101]) (st := []) (lm_9_54) rfl rfl (Nat.le_of_ble_eq_true rfl) w1099 g0 sh_42 (by decide) rfl (by decide) (s_170 w1099 g0 ⟨Int.le_trans (by decide) b1102.1, Int.le_trans b1102.2 (by decide)⟩) (fun R1140 T1141 H1142 p1143 => ?_))
    obtain ⟨e1144, w1146, f1147, z1148, e1145, b1149⟩ := p1143
    subst e1144
    subst e1145
    have f1150 := f1109.tr f1147 rfl
    show wp _ _ 271 24 [(2, vI z1101), (0, .ref r0), (1, vI a1)] [vI z1148] _ H1142 _
    refine wp_of e271 c271_24 (rw_goto (p1 := 36) (by decide) ?_)
    have k1151 : wKI H1142 r0 = wKI H1095 r0 := (wKI_fr w1099 g0 f1147 rfl)
    have h1152 : KNN T H1142 r0 e d := (KNN_fr w1099 g0 f1147 rfl a1108)
    exact wp_ireturn e271 c271_36 rfl ⟨rfl, w1146, f1150, z1148, rfl, ⟨b1149.1, b1149.2⟩, ⟨by omega, h1152⟩⟩
/-! StrikeAwakeModel.lie(I)I  -/
abbrev uq_272 (r0 : Nat) (a1 : Int) (e : xD) (d : xD) (T : wq_T) (H : wq_H) : Option Value → wq_T → wq_H → Prop := fun r T' H' => T = T' ∧ WT T H' ∧ wfr [(42, 0), (42, 1), (42, 2), (42, 28), (42, 29), (51, 999), (52, 999)] T H H' ∧ ∃ z : Int, some (vI z) = r ∧ ((-2147483648) ≤ z ∧ z ≤ 2147483647) ∧ (((wKI H' r0 = 1) ∧ KNN T H' r0 e d))
set_option maxHeartbeats 4000000 in
theorem u_272 {kt : Nat → Option mc_E} {T : wq_T} {H : wq_H} {r0 : Nat} {a1 : Int} {e : xD} {d : xD} (hW : WT T H) (g0 : T.2.2.2 r0 = some 42) (i1 : (-2147483648) ≤ a1 ∧ a1 ≤ 2147483647) (p0 : wKI H r0 = 1) (p1 : XW d) (p2 : ∀ h : Nat, d 0 0 ≤ (h : Int) → h < 24 → e 13 h = 0) (p3 : XN d) (p4 : ∀ h : Nat, h < 24 → 0 ≤ e 13 h ∧ e 13 h ≤ 100) (hRB_r0 : RB T H r0 e d) (hKNN_r0 : KNN T H r0 e d) : wpc kt 8 272 [.ref r0, vI a1] T H (uq_272 r0 a1 e d T H) := by
  refine wp_enter e272 (Nat.le_of_ble_eq_true rfl) rfl ?_
  have f0 : wfr [(42, 0), (42, 1), (42, 2), (42, 28), (42, 29), (51, 999), (52, 999)] T H H := wfr.rf
  show wp _ _ 272 0 [(0, .ref r0), (1, vI a1)] [] _ H _
  have _b := RB_b hW hRB_r0
  have _nu := RB_n3 hRB_r0
  have _lm := RB_lm hRB_r0
  refine wp_of e272 c272_0 (rw_aload_n (pc' := 1) (v := .ref r0) rfl rfl rfl ?_)
  refine wp_of e272 c272_1 (rw_iconst (pc' := 2) rfl ?_)
  refine wp_of e272 c272_2 (xp_I (pc' := 5) lf_9_48 hW g0 sh_42 (by decide) (by decide) ty_42_0 rfl rfl (by decide) (by decide) ⟨by decide, by decide⟩ rfl (fun H1100 e1101 w1102 => ?_))
  have f1103 := f0.put' e1101 g0 rfl
  have k1104 : H1100 r0 0 = 0 := wq_u_s e1101
  refine wp_of e272 c272_5 (rw_aload_n (pc' := 6) (v := .ref r0) rfl rfl rfl ?_)
  refine wp_of e272 c272_6 (rw_aload_n (pc' := 7) (v := .ref r0) rfl rfl rfl ?_)
  refine wp_of e272 c272_7 (rw_iload_n (pc' := 8) (z := a1) rfl rfl ?_)
  refine wp_of e272 c272_8 (xc_V (pc' := 11) (r := r0) (as := [vI a1]) (st := [.ref r0]) (lm_9_473) rfl rfl (Nat.le_of_ble_eq_true rfl) w1102 g0 sh_42 (by decide) rfl (by decide) (s_273 w1102 g0 ⟨i1.1, i1.2⟩) (fun R1105 T1106 H1107 p1108 => ?_))
  obtain ⟨e1109, e1111, z1113, e1110, b1114, p1112⟩ := p1108
  subst e1109
  subst e1110
  subst e1111
  show wp _ _ 272 11 [(0, .ref r0), (1, vI a1)] [vI z1113, .ref r0] _ H1100 _
  have k1115 : H1100 r0 3 = H r0 3 := (wq_u_j e1101 rfl)
  have k1116 : wKI H1100 r0 = wKI H r0 := (wKI_fr hW g0 ((wfr.rf (l := [(42, 0)])).put' e1101 g0 rfl) rfl)
  have h1117 : RB T H1100 r0 e d := (RB_fr hW g0 ((wfr.rf (l := [(42, 0)])).put' e1101 g0 rfl) rfl hRB_r0)
  have h1118 : KNN T H1100 r0 e d := (KNN_fr hW g0 ((wfr.rf (l := [(42, 0)])).put' e1101 g0 rfl) rfl hKNN_r0)
  refine wp_of e272 c272_11 (xc_V (pc' := 14) (r := r0) (as := [vI z1113]) (st := []) (lm_9_433) rfl rfl (Nat.le_of_ble_eq_true rfl) w1102 g0 sh_42 (by decide) rfl (by decide) (u_241 (e := e) (d := d) w1102 g0 ⟨b1114.1, b1114.2⟩ (by omega) (by omega) (by assumption) (by assumption) (by assumption) (by assumption) h1117 h1118) (fun R1119 T1120 H1121 p1122 => ?_))
  obtain ⟨e1123, w1125, f1126, z1127, e1124, b1128, p1129⟩ := p1122
  subst e1123
  subst e1124
  rcases p1129 with ⟨a1130, a1131, a1132, a1133, a1134, a1135, a1136, a1137, a1138⟩ | ⟨a1139, a1140, a1141, a1142, a1143, a1144, a1145⟩
  · have f1146 := f1103.tr f1126 rfl
    show wp _ _ 272 14 [(0, .ref r0), (1, vI a1)] [vI z1127] _ H1121 _
    have k1147 : wLM H1121 r0 = wLM H r0 := ((wLM_fr w1102 g0 f1126 rfl).trans (wLM_fr hW g0 ((wfr.rf (l := [(42, 0)])).put' e1101 g0 rfl) rfl))
    refine wp_of e272 c272_14 (rw_istore_n (pc' := 15) (z := z1127) (L' := [(2, vI z1127), (0, .ref r0), (1, vI a1)]) rfl rfl rfl ?_)
    refine wp_of e272 c272_15 (rw_iload_n (pc' := 16) (z := z1127) rfl rfl ?_)
    refine wp_of e272 c272_16 (rw_if_le (p1 := 27) (p2 := 19) (by decide) rfl ⟨Int.le_trans (by decide) b1128.1, Int.le_trans b1128.2 (by decide)⟩ (fun c1148 => ?_) (fun c1148 => ?_))
    · refine wp_of e272 c272_27 (rw_aload_n (pc' := 28) (v := .ref r0) rfl rfl rfl ?_)
      refine wp_of e272 c272_28 (rw_aload_n (pc' := 29) (v := .ref r0) rfl rfl rfl ?_)
      refine wp_of e272 c272_29 (rw_iload_n (pc' := 30) (z := a1) rfl rfl ?_)
      have k1149 : H1121 r0 3 = H1100 r0 3 := (f1126 r0 3 _ g0 rfl)
      obtain ⟨r1150, q1151, g1152⟩ := (w1125.opt g0 (t' := 54) (n := 33) (j := 3) (p := 0) (q := 0) rfl (by decide) rfl).resolve_left (by omega)
      refine wp_of e272 c272_30 (xc_V (pc' := 33) (r := r0) (as := [vI a1]) (st := [.ref r0]) (lm_9_476) rfl rfl (Nat.le_of_ble_eq_true rfl) w1125 g0 sh_42 (by decide) rfl (by decide) (s_274 w1125 g0 ⟨by omega, by omega⟩ q1151 g1152 (by omega)) (fun R1153 T1154 H1155 p1156 => ?_))
      obtain ⟨e1157, w1159, f1160, z1161, e1158, b1162⟩ := p1156
      subst e1157
      subst e1158
      have f1163 := f1146.tr f1160 rfl
      show wp _ _ 272 33 [(2, vI z1127), (0, .ref r0), (1, vI a1)] [vI z1161, .ref r0] _ H1155 _
      refine wp_of e272 c272_33 (rw_bipush (pc' := 35) (z := 24) rfl (by decide) ?_)
      refine wp_of e272 c272_35 (rw_icmp_ne (p1 := 42) (p2 := 38) (by decide) rfl ⟨b1162.1, b1162.2⟩ ⟨by decide, by decide⟩ (fun c1164 => ?_) (fun c1164 => ?_))
      · refine wp_of e272 c272_42 (rw_iconst (pc' := 43) rfl ?_)
        refine wp_of e272 c272_43 (xc_V (pc' := 46) (r := r0) (as := [vI 1]) (st := []) (lm_9_58) rfl rfl (Nat.le_of_ble_eq_true rfl) w1159 g0 sh_42 (by decide) rfl (by decide) (s_209 w1159 g0 ⟨by decide, by decide⟩) (fun R1165 T1166 H1167 p1168 => ?_))
        obtain ⟨e1169, w1171, f1172, z1173, e1170, b1174⟩ := p1168
        subst e1169
        subst e1170
        have f1175 := f1163.tr f1172 rfl
        show wp _ _ 272 46 [(2, vI z1127), (0, .ref r0), (1, vI a1)] [vI z1173] _ H1167 _
        have k1176 : wKI H1167 r0 = wKI H1121 r0 := ((wKI_fr w1159 g0 f1172 rfl).trans (wKI_fr w1125 g0 f1160 rfl))
        have h1177 : KNN T H1167 r0 e d := (KNN_fr w1159 g0 f1172 rfl (KNN_fr w1125 g0 f1160 rfl a1137))
        exact wp_ireturn e272 c272_46 rfl ⟨rfl, w1171, f1175, z1173, rfl, ⟨b1174.1, b1174.2⟩, ⟨by omega, h1177⟩⟩
      · refine wp_of e272 c272_38 (rw_iconst (pc' := 39) rfl ?_)
        refine wp_of e272 c272_39 (rw_goto (p1 := 43) (by decide) ?_)
        refine wp_of e272 c272_43 (xc_V (pc' := 46) (r := r0) (as := [vI 0]) (st := []) (lm_9_58) rfl rfl (Nat.le_of_ble_eq_true rfl) w1159 g0 sh_42 (by decide) rfl (by decide) (s_209 w1159 g0 ⟨by decide, by decide⟩) (fun R1178 T1179 H1180 p1181 => ?_))
        obtain ⟨e1182, w1184, f1185, z1186, e1183, b1187⟩ := p1181
        subst e1182
        subst e1183
        have f1188 := f1163.tr f1185 rfl
        show wp _ _ 272 46 [(2, vI z1127), (0, .ref r0), (1, vI a1)] [vI z1186] _ H1180 _
        have k1189 : wKI H1180 r0 = wKI H1121 r0 := ((wKI_fr w1159 g0 f1185 rfl).trans (wKI_fr w1125 g0 f1160 rfl))
        have h1190 : KNN T H1180 r0 e d := (KNN_fr w1159 g0 f1185 rfl (KNN_fr w1125 g0 f1160 rfl a1137))
        exact wp_ireturn e272 c272_46 rfl ⟨rfl, w1184, f1188, z1186, rfl, ⟨b1187.1, b1187.2⟩, ⟨by omega, h1190⟩⟩
    · exfalso
      omega
  · have f1191 := f1103.tr f1126 rfl
    show wp _ _ 272 14 [(0, .ref r0), (1, vI a1)] [vI z1127] _ H1121 _
    have k1192 : wLM H1121 r0 = wLM H r0 := ((wLM_fr w1102 g0 f1126 rfl).trans (wLM_fr hW g0 ((wfr.rf (l := [(42, 0)])).put' e1101 g0 rfl) rfl))
    refine wp_of e272 c272_14 (rw_istore_n (pc' := 15) (z := z1127) (L' := [(2, vI z1127), (0, .ref r0), (1, vI a1)]) rfl rfl rfl ?_)
    refine wp_of e272 c272_15 (rw_iload_n (pc' := 16) (z := z1127) rfl rfl ?_)
    refine wp_of e272 c272_16 (rw_if_le (p1 := 27) (p2 := 19) (by decide) rfl ⟨Int.le_trans (by decide) b1128.1, Int.le_trans b1128.2 (by decide)⟩ (fun c1193 => ?_) (fun c1193 => ?_))
    · exfalso
      omega
    · refine wp_of e272 c272_19 (rw_aload_n (pc' := 20) (v := .ref r0) rfl rfl rfl ?_)
      refine wp_of e272 c272_20 (rw_iload_n (pc' := 21) (z := z1127) rfl rfl ?_)
      refine wp_of e272 c272_21 (xc_V (pc' := 24) (r := r0) (as := [vI z1127]) (st := []) (lm_9_54) rfl rfl (Nat.le_of_ble_eq_true rfl) w1125 g0 sh_42 (by decide) rfl (by decide) (s_170 w1125 g0 ⟨Int.le_trans (by decide) b1128.1, Int.le_trans b1128.2 (by decide)⟩) (fun R1194 T1195 H1196 p1197 => ?_))
      obtain ⟨e1198, w1200, f1201, z1202, e1199, b1203⟩ := p1197
      subst e1198
      subst e1199
      have f1204 := f1191.tr f1201 rfl
      show wp _ _ 272 24 [(2, vI z1127), (0, .ref r0), (1, vI a1)] [vI z1202] _ H1196 _
      refine wp_of e272 c272_24 (rw_goto (p1 := 46) (by decide) ?_)
      have k1205 : wKI H1196 r0 = wKI H1121 r0 := (wKI_fr w1125 g0 f1201 rfl)
      have h1206 : KNN T H1196 r0 e d := (KNN_fr w1125 g0 f1201 rfl a1145)
      exact wp_ireturn e272 c272_46 rfl ⟨rfl, w1200, f1204, z1202, rfl, ⟨b1203.1, b1203.2⟩, ⟨by omega, h1206⟩⟩
/-! StrikeAwakeModel.bars(I)I  -/
abbrev uq_275 (r0 : Nat) (a1 : Int) (e : xD) (d : xD) (T : wq_T) (H : wq_H) : Option Value → wq_T → wq_H → Prop := fun r T' H' => T = T' ∧ WT T H' ∧ wfr [(42, 0), (42, 1), (42, 2), (42, 28), (42, 29), (51, 999), (52, 999)] T H H' ∧ ∃ z : Int, some (vI z) = r ∧ ((-2147483648) ≤ z ∧ z ≤ 2147483647) ∧ (((wKI H' r0 = 1) ∧ KNN T H' r0 e d))
set_option maxHeartbeats 4000000 in
theorem u_275 {kt : Nat → Option mc_E} {T : wq_T} {H : wq_H} {r0 : Nat} {a1 : Int} {e : xD} {d : xD} (hW : WT T H) (g0 : T.2.2.2 r0 = some 42) (i1 : (-2147483648) ≤ a1 ∧ a1 ≤ 2147483647) (p0 : wKI H r0 = 1) (p1 : XW d) (p2 : ∀ h : Nat, d 0 0 ≤ (h : Int) → h < 24 → e 13 h = 0) (p3 : XN d) (p4 : ∀ h : Nat, h < 24 → 0 ≤ e 13 h ∧ e 13 h ≤ 100) (hRB_r0 : RB T H r0 e d) (hKNN_r0 : KNN T H r0 e d) : wpc kt 8 275 [.ref r0, vI a1] T H (uq_275 r0 a1 e d T H) := by
  refine wp_enter e275 (Nat.le_of_ble_eq_true rfl) rfl ?_
  have f0 : wfr [(42, 0), (42, 1), (42, 2), (42, 28), (42, 29), (51, 999), (52, 999)] T H H := wfr.rf
  show wp _ _ 275 0 [(0, .ref r0), (1, vI a1)] [] _ H _
  have _b := RB_b hW hRB_r0
  have _nu := RB_n3 hRB_r0
  have _lm := RB_lm hRB_r0
  refine wp_of e275 c275_0 (rw_aload_n (pc' := 1) (v := .ref r0) rfl rfl rfl ?_)
  refine wp_of e275 c275_1 (rw_iconst (pc' := 2) rfl ?_)
  refine wp_of e275 c275_2 (xp_I (pc' := 5) lf_9_48 hW g0 sh_42 (by decide) (by decide) ty_42_0 rfl rfl (by decide) (by decide) ⟨by decide, by decide⟩ rfl (fun H1100 e1101 w1102 => ?_))
  have f1103 := f0.put' e1101 g0 rfl
  have k1104 : H1100 r0 0 = 0 := wq_u_s e1101
  refine wp_of e275 c275_5 (rw_aload_n (pc' := 6) (v := .ref r0) rfl rfl rfl ?_)
  refine wp_of e275 c275_6 (rw_aload_n (pc' := 7) (v := .ref r0) rfl rfl rfl ?_)
  refine wp_of e275 c275_7 (rw_iload_n (pc' := 8) (z := a1) rfl rfl ?_)
  refine wp_of e275 c275_8 (xc_V (pc' := 11) (r := r0) (as := [vI a1]) (st := [.ref r0]) (lm_9_473) rfl rfl (Nat.le_of_ble_eq_true rfl) w1102 g0 sh_42 (by decide) rfl (by decide) (s_273 w1102 g0 ⟨i1.1, i1.2⟩) (fun R1105 T1106 H1107 p1108 => ?_))
  obtain ⟨e1109, e1111, z1113, e1110, b1114, p1112⟩ := p1108
  subst e1109
  subst e1110
  subst e1111
  show wp _ _ 275 11 [(0, .ref r0), (1, vI a1)] [vI z1113, .ref r0] _ H1100 _
  have k1115 : H1100 r0 3 = H r0 3 := (wq_u_j e1101 rfl)
  have k1116 : wKI H1100 r0 = wKI H r0 := (wKI_fr hW g0 ((wfr.rf (l := [(42, 0)])).put' e1101 g0 rfl) rfl)
  have h1117 : RB T H1100 r0 e d := (RB_fr hW g0 ((wfr.rf (l := [(42, 0)])).put' e1101 g0 rfl) rfl hRB_r0)
  have h1118 : KNN T H1100 r0 e d := (KNN_fr hW g0 ((wfr.rf (l := [(42, 0)])).put' e1101 g0 rfl) rfl hKNN_r0)
  refine wp_of e275 c275_11 (xc_V (pc' := 14) (r := r0) (as := [vI z1113]) (st := []) (lm_9_433) rfl rfl (Nat.le_of_ble_eq_true rfl) w1102 g0 sh_42 (by decide) rfl (by decide) (u_241 (e := e) (d := d) w1102 g0 ⟨b1114.1, b1114.2⟩ (by omega) (by omega) (by assumption) (by assumption) (by assumption) (by assumption) h1117 h1118) (fun R1119 T1120 H1121 p1122 => ?_))
  obtain ⟨e1123, w1125, f1126, z1127, e1124, b1128, p1129⟩ := p1122
  subst e1123
  subst e1124
  rcases p1129 with ⟨a1130, a1131, a1132, a1133, a1134, a1135, a1136, a1137, a1138⟩ | ⟨a1139, a1140, a1141, a1142, a1143, a1144, a1145⟩
  · have f1146 := f1103.tr f1126 rfl
    show wp _ _ 275 14 [(0, .ref r0), (1, vI a1)] [vI z1127] _ H1121 _
    have k1147 : wLM H1121 r0 = wLM H r0 := ((wLM_fr w1102 g0 f1126 rfl).trans (wLM_fr hW g0 ((wfr.rf (l := [(42, 0)])).put' e1101 g0 rfl) rfl))
    refine wp_of e275 c275_14 (rw_istore_n (pc' := 15) (z := z1127) (L' := [(2, vI z1127), (0, .ref r0), (1, vI a1)]) rfl rfl rfl ?_)
    refine wp_of e275 c275_15 (rw_iload_n (pc' := 16) (z := z1127) rfl rfl ?_)
    refine wp_of e275 c275_16 (rw_if_le (p1 := 25) (p2 := 19) (by decide) rfl ⟨Int.le_trans (by decide) b1128.1, Int.le_trans b1128.2 (by decide)⟩ (fun c1148 => ?_) (fun c1148 => ?_))
    · refine wp_of e275 c275_25 (rw_aload_n (pc' := 26) (v := .ref r0) rfl rfl rfl ?_)
      refine wp_of e275 c275_26 (rw_iload_n (pc' := 27) (z := a1) rfl rfl ?_)
      have k1149 : H1121 r0 3 = H1100 r0 3 := (f1126 r0 3 _ g0 rfl)
      obtain ⟨r1150, q1151, g1152⟩ := (w1125.opt g0 (t' := 54) (n := 33) (j := 3) (p := 0) (q := 0) rfl (by decide) rfl).resolve_left (by omega)
      refine wp_of e275 c275_27 (xc_V (pc' := 30) (r := r0) (as := [vI a1]) (st := []) (lm_9_476) rfl rfl (Nat.le_of_ble_eq_true rfl) w1125 g0 sh_42 (by decide) rfl (by decide) (s_274 w1125 g0 ⟨by omega, by omega⟩ q1151 g1152 (by omega)) (fun R1153 T1154 H1155 p1156 => ?_))
      obtain ⟨e1157, w1159, f1160, z1161, e1158, b1162⟩ := p1156
      subst e1157
      subst e1158
      have f1163 := f1146.tr f1160 rfl
      show wp _ _ 275 30 [(2, vI z1127), (0, .ref r0), (1, vI a1)] [vI z1161] _ H1155 _
      refine wp_of e275 c275_30 (rw_istore_n (pc' := 31) (z := z1161) (L' := [(3, vI z1161), (2, vI z1127), (0, .ref r0), (1, vI a1)]) rfl rfl rfl ?_)
      refine wp_of e275 c275_31 (rw_aload_n (pc' := 32) (v := .ref r0) rfl rfl rfl ?_)
      refine wp_of e275 c275_32 (rw_iload_n (pc' := 33) (z := z1161) rfl rfl ?_)
      refine wp_of e275 c275_33 (rw_bipush (pc' := 35) (z := 24) rfl (by decide) ?_)
      refine wp_of e275 c275_35 (rw_icmp_ne (p1 := 43) (p2 := 38) (by decide) rfl ⟨b1162.1, b1162.2⟩ ⟨by decide, by decide⟩ (fun c1164 => ?_) (fun c1164 => ?_))
      · refine wp_of e275 c275_43 (rw_iload_n (pc' := 44) (z := z1161) rfl rfl ?_)
        refine wp_of e275 c275_44 (xc_V (pc' := 47) (r := r0) (as := [vI z1161]) (st := []) (lm_9_58) rfl rfl (Nat.le_of_ble_eq_true rfl) w1159 g0 sh_42 (by decide) rfl (by decide) (s_209 w1159 g0 ⟨b1162.1, b1162.2⟩) (fun R1165 T1166 H1167 p1168 => ?_))
        obtain ⟨e1169, w1171, f1172, z1173, e1170, b1174⟩ := p1168
        subst e1169
        subst e1170
        have f1175 := f1163.tr f1172 rfl
        show wp _ _ 275 47 [(3, vI z1161), (2, vI z1127), (0, .ref r0), (1, vI a1)] [vI z1173] _ H1167 _
        have k1176 : wKI H1167 r0 = wKI H1121 r0 := ((wKI_fr w1159 g0 f1172 rfl).trans (wKI_fr w1125 g0 f1160 rfl))
        have h1177 : KNN T H1167 r0 e d := (KNN_fr w1159 g0 f1172 rfl (KNN_fr w1125 g0 f1160 rfl a1137))
        exact wp_ireturn e275 c275_47 rfl ⟨rfl, w1171, f1175, z1173, rfl, ⟨b1174.1, b1174.2⟩, ⟨by omega, h1177⟩⟩
      · refine wp_of e275 c275_38 (rw_bipush (pc' := 40) (z := -2) rfl (by decide) ?_)
        refine wp_of e275 c275_40 (rw_goto (p1 := 44) (by decide) ?_)
        refine wp_of e275 c275_44 (xc_V (pc' := 47) (r := r0) (as := [vI (-2)]) (st := []) (lm_9_58) rfl rfl (Nat.le_of_ble_eq_true rfl) w1159 g0 sh_42 (by decide) rfl (by decide) (s_209 w1159 g0 ⟨by decide, by decide⟩) (fun R1178 T1179 H1180 p1181 => ?_))
        obtain ⟨e1182, w1184, f1185, z1186, e1183, b1187⟩ := p1181
        subst e1182
        subst e1183
        have f1188 := f1163.tr f1185 rfl
        show wp _ _ 275 47 [(3, vI z1161), (2, vI z1127), (0, .ref r0), (1, vI a1)] [vI z1186] _ H1180 _
        have k1189 : wKI H1180 r0 = wKI H1121 r0 := ((wKI_fr w1159 g0 f1185 rfl).trans (wKI_fr w1125 g0 f1160 rfl))
        have h1190 : KNN T H1180 r0 e d := (KNN_fr w1159 g0 f1185 rfl (KNN_fr w1125 g0 f1160 rfl a1137))
        exact wp_ireturn e275 c275_47 rfl ⟨rfl, w1184, f1188, z1186, rfl, ⟨b1187.1, b1187.2⟩, ⟨by omega, h1190⟩⟩
    · exfalso
      omega
  · have f1191 := f1103.tr f1126 rfl
    show wp _ _ 275 14 [(0, .ref r0), (1, vI a1)] [vI z1127] _ H1121 _
    have k1192 : wLM H1121 r0 = wLM H r0 := ((wLM_fr w1102 g0 f1126 rfl).trans (wLM_fr hW g0 ((wfr.rf (l := [(42, 0)])).put' e1101 g0 rfl) rfl))
    refine wp_of e275 c275_14 (rw_istore_n (pc' := 15) (z := z1127) (L' := [(2, vI z1127), (0, .ref r0), (1, vI a1)]) rfl rfl rfl ?_)
    refine wp_of e275 c275_15 (rw_iload_n (pc' := 16) (z := z1127) rfl rfl ?_)
    refine wp_of e275 c275_16 (rw_if_le (p1 := 25) (p2 := 19) (by decide) rfl ⟨Int.le_trans (by decide) b1128.1, Int.le_trans b1128.2 (by decide)⟩ (fun c1193 => ?_) (fun c1193 => ?_))
    · exfalso
      omega
    · refine wp_of e275 c275_19 (rw_aload_n (pc' := 20) (v := .ref r0) rfl rfl rfl ?_)
      refine wp_of e275 c275_20 (rw_iload_n (pc' := 21) (z := z1127) rfl rfl ?_)
      refine wp_of e275 c275_21 (xc_V (pc' := 24) (r := r0) (as := [vI z1127]) (st := []) (lm_9_54) rfl rfl (Nat.le_of_ble_eq_true rfl) w1125 g0 sh_42 (by decide) rfl (by decide) (s_170 w1125 g0 ⟨Int.le_trans (by decide) b1128.1, Int.le_trans b1128.2 (by decide)⟩) (fun R1194 T1195 H1196 p1197 => ?_))
      obtain ⟨e1198, w1200, f1201, z1202, e1199, b1203⟩ := p1197
      subst e1198
      subst e1199
      have f1204 := f1191.tr f1201 rfl
      show wp _ _ 275 24 [(2, vI z1127), (0, .ref r0), (1, vI a1)] [vI z1202] _ H1196 _
      have k1205 : wKI H1196 r0 = wKI H1121 r0 := (wKI_fr w1125 g0 f1201 rfl)
      have h1206 : KNN T H1196 r0 e d := (KNN_fr w1125 g0 f1201 rfl a1145)
      exact wp_ireturn e275 c275_24 rfl ⟨rfl, w1200, f1204, z1202, rfl, ⟨b1203.1, b1203.2⟩, ⟨by omega, h1206⟩⟩
/-! StrikeAwakeModel.proof()I  -/
abbrev uq_276 (r0 : Nat) (e : xD) (d : xD) (T : wq_T) (H : wq_H) : Option Value → wq_T → wq_H → Prop := fun r T' H' => T = T' ∧ WT T H' ∧ wfr [(42, 0), (42, 1), (42, 2), (42, 28), (42, 29), (51, 999), (52, 999)] T H H' ∧ ∃ z : Int, some (vI z) = r ∧ ((-2147483648) ≤ z ∧ z ≤ 2147483647) ∧ (((wKI H' r0 = 1) ∧ KNN T H' r0 e d))
set_option maxHeartbeats 4000000 in
theorem u_276 {kt : Nat → Option mc_E} {T : wq_T} {H : wq_H} {r0 : Nat} {e : xD} {d : xD} (hW : WT T H) (g0 : T.2.2.2 r0 = some 42) (p0 : wKI H r0 = 1) (p1 : XW d) (p2 : ∀ h : Nat, d 0 0 ≤ (h : Int) → h < 24 → e 13 h = 0) (p3 : XN d) (p4 : ∀ h : Nat, h < 24 → 0 ≤ e 13 h ∧ e 13 h ≤ 100) (hRB_r0 : RB T H r0 e d) (hKNN_r0 : KNN T H r0 e d) : wpc kt 8 276 [.ref r0] T H (uq_276 r0 e d T H) := by
  refine wp_enter e276 (Nat.le_of_ble_eq_true rfl) rfl ?_
  have f0 : wfr [(42, 0), (42, 1), (42, 2), (42, 28), (42, 29), (51, 999), (52, 999)] T H H := wfr.rf
  show wp _ _ 276 0 [(0, .ref r0)] [] _ H _
  have _b := RB_b hW hRB_r0
  have _nu := RB_n3 hRB_r0
  have _lm := RB_lm hRB_r0
  refine wp_of e276 c276_0 (rw_aload_n (pc' := 1) (v := .ref r0) rfl rfl rfl ?_)
  refine wp_of e276 c276_1 (rw_iconst (pc' := 2) rfl ?_)
  refine wp_of e276 c276_2 (xp_I (pc' := 5) lf_9_48 hW g0 sh_42 (by decide) (by decide) ty_42_0 rfl rfl (by decide) (by decide) ⟨by decide, by decide⟩ rfl (fun H1451 e1452 w1453 => ?_))
  have f1454 := f0.put' e1452 g0 rfl
  have k1455 : H1451 r0 0 = 0 := wq_u_s e1452
  refine wp_of e276 c276_5 (rw_aload_n (pc' := 6) (v := .ref r0) rfl rfl rfl ?_)
  refine wp_of e276 c276_6 (rw_aload_n (pc' := 7) (v := .ref r0) rfl rfl rfl ?_)
  have k1456 : H1451 r0 3 = H r0 3 := (wq_u_j e1452 rfl)
  refine wp_of e276 c276_7 (xg_O (pc' := 10) lf_9_337 w1453 g0 sh_42 (by decide) (by decide) ty_42_3 rfl rfl (fun q1458 => ?_) (fun r1457 q1458 g1459 => ?_))
  · refine wp_of e276 c276_10 (rw_ifnull_n (p1 := 17) (p2 := 13) (by decide) rfl ?_)
    refine wp_of e276 c276_17 (rw_iconst (pc' := 18) rfl ?_)
    have k1460 : wKI H1451 r0 = wKI H r0 := (wKI_fr hW g0 ((wfr.rf (l := [(42, 0)])).put' e1452 g0 rfl) rfl)
    have h1461 : RB T H1451 r0 e d := (RB_fr hW g0 ((wfr.rf (l := [(42, 0)])).put' e1452 g0 rfl) rfl hRB_r0)
    have h1462 : KNN T H1451 r0 e d := (KNN_fr hW g0 ((wfr.rf (l := [(42, 0)])).put' e1452 g0 rfl) rfl hKNN_r0)
    refine wp_of e276 c276_18 (xc_V (pc' := 21) (r := r0) (as := [vI 0]) (st := []) (lm_9_433) rfl rfl (Nat.le_of_ble_eq_true rfl) w1453 g0 sh_42 (by decide) rfl (by decide) (u_241 (e := e) (d := d) w1453 g0 ⟨by decide, by decide⟩ (by omega) (by omega) (by assumption) (by assumption) (by assumption) (by assumption) h1461 h1462) (fun R1463 T1464 H1465 p1466 => ?_))
    obtain ⟨e1467, w1469, f1470, z1471, e1468, b1472, p1473⟩ := p1466
    subst e1467
    subst e1468
    rcases p1473 with ⟨a1474, a1475, a1476, a1477, a1478, a1479, a1480, a1481, a1482⟩ | ⟨a1483, a1484, a1485, a1486, a1487, a1488, a1489⟩
    · exfalso
      omega
    · have f1490 := f1454.tr f1470 rfl
      show wp _ _ 276 21 [(0, .ref r0)] [vI z1471] _ H1465 _
      have k1491 : wLM H1465 r0 = wLM H r0 := ((wLM_fr w1453 g0 f1470 rfl).trans (wLM_fr hW g0 ((wfr.rf (l := [(42, 0)])).put' e1452 g0 rfl) rfl))
      refine wp_of e276 c276_21 (rw_istore_n (pc' := 22) (z := z1471) (L' := [(1, vI z1471), (0, .ref r0)]) rfl rfl rfl ?_)
      refine wp_of e276 c276_22 (rw_iload_n (pc' := 23) (z := z1471) rfl rfl ?_)
      refine wp_of e276 c276_23 (rw_if_ne (p1 := 39) (p2 := 26) (by decide) rfl ⟨Int.le_trans (by decide) b1472.1, Int.le_trans b1472.2 (by decide)⟩ (fun c1492 => ?_) (fun c1492 => ?_))
      · refine wp_of e276 c276_39 (rw_iload_n (pc' := 40) (z := z1471) rfl rfl ?_)
        refine wp_of e276 c276_40 (rw_if_ne (p1 := 52) (p2 := 43) (by decide) rfl ⟨Int.le_trans (by decide) b1472.1, Int.le_trans b1472.2 (by decide)⟩ (fun c1493 => ?_) (fun c1493 => ?_))
        · refine wp_of e276 c276_52 (rw_iload_n (pc' := 53) (z := z1471) rfl rfl ?_)
          refine wp_of e276 c276_53 (rw_if_le (p1 := 62) (p2 := 56) (by decide) rfl ⟨Int.le_trans (by decide) b1472.1, Int.le_trans b1472.2 (by decide)⟩ (fun c1494 => ?_) (fun c1494 => ?_))
          · exfalso
            omega
          · refine wp_of e276 c276_56 (rw_aload_n (pc' := 57) (v := .ref r0) rfl rfl rfl ?_)
            refine wp_of e276 c276_57 (rw_iload_n (pc' := 58) (z := z1471) rfl rfl ?_)
            refine wp_of e276 c276_58 (xc_V (pc' := 61) (r := r0) (as := [vI z1471]) (st := []) (lm_9_54) rfl rfl (Nat.le_of_ble_eq_true rfl) w1469 g0 sh_42 (by decide) rfl (by decide) (s_170 w1469 g0 ⟨Int.le_trans (by decide) b1472.1, Int.le_trans b1472.2 (by decide)⟩) (fun R1495 T1496 H1497 p1498 => ?_))
            obtain ⟨e1499, w1501, f1502, z1503, e1500, b1504⟩ := p1498
            subst e1499
            subst e1500
            have f1505 := f1490.tr f1502 rfl
            show wp _ _ 276 61 [(1, vI z1471), (0, .ref r0)] [vI z1503] _ H1497 _
            have k1506 : wKI H1497 r0 = wKI H1465 r0 := (wKI_fr w1469 g0 f1502 rfl)
            have h1507 : KNN T H1497 r0 e d := (KNN_fr w1469 g0 f1502 rfl a1489)
            exact wp_ireturn e276 c276_61 rfl ⟨rfl, w1501, f1505, z1503, rfl, ⟨b1504.1, b1504.2⟩, ⟨by omega, h1507⟩⟩
        · exfalso
          omega
      · exfalso
        omega
  · refine wp_of e276 c276_10 (rw_ifnull_r (p1 := 17) (p2 := 13) (by decide) rfl ?_)
    refine wp_of e276 c276_13 (rw_iconst (pc' := 14) rfl ?_)
    refine wp_of e276 c276_14 (rw_goto (p1 := 18) (by decide) ?_)
    have k1508 : wKI H1451 r0 = wKI H r0 := (wKI_fr hW g0 ((wfr.rf (l := [(42, 0)])).put' e1452 g0 rfl) rfl)
    have h1509 : RB T H1451 r0 e d := (RB_fr hW g0 ((wfr.rf (l := [(42, 0)])).put' e1452 g0 rfl) rfl hRB_r0)
    have h1510 : KNN T H1451 r0 e d := (KNN_fr hW g0 ((wfr.rf (l := [(42, 0)])).put' e1452 g0 rfl) rfl hKNN_r0)
    refine wp_of e276 c276_18 (xc_V (pc' := 21) (r := r0) (as := [vI 1]) (st := []) (lm_9_433) rfl rfl (Nat.le_of_ble_eq_true rfl) w1453 g0 sh_42 (by decide) rfl (by decide) (u_241 (e := e) (d := d) w1453 g0 ⟨by decide, by decide⟩ (by omega) (by omega) (by assumption) (by assumption) (by assumption) (by assumption) h1509 h1510) (fun R1511 T1512 H1513 p1514 => ?_))
    obtain ⟨e1515, w1517, f1518, z1519, e1516, b1520, p1521⟩ := p1514
    subst e1515
    subst e1516
    rcases p1521 with ⟨a1522, a1523, a1524, a1525, a1526, a1527, a1528, a1529, a1530⟩ | ⟨a1531, a1532, a1533, a1534, a1535, a1536, a1537⟩
    · have f1538 := f1454.tr f1518 rfl
      show wp _ _ 276 21 [(0, .ref r0)] [vI z1519] _ H1513 _
      have k1539 : wLM H1513 r0 = wLM H r0 := ((wLM_fr w1453 g0 f1518 rfl).trans (wLM_fr hW g0 ((wfr.rf (l := [(42, 0)])).put' e1452 g0 rfl) rfl))
      refine wp_of e276 c276_21 (rw_istore_n (pc' := 22) (z := z1519) (L' := [(1, vI z1519), (0, .ref r0)]) rfl rfl rfl ?_)
      refine wp_of e276 c276_22 (rw_iload_n (pc' := 23) (z := z1519) rfl rfl ?_)
      refine wp_of e276 c276_23 (rw_if_ne (p1 := 39) (p2 := 26) (by decide) rfl ⟨Int.le_trans (by decide) b1520.1, Int.le_trans b1520.2 (by decide)⟩ (fun c1540 => ?_) (fun c1540 => ?_))
      · exfalso
        omega
      · refine wp_of e276 c276_26 (rw_aload_n (pc' := 27) (v := .ref r0) rfl rfl rfl ?_)
        have k1541 : H1513 r0 3 = H1451 r0 3 := (f1518 r0 3 _ g0 rfl)
        have q1542 : H1513 r0 3 = (r1457 : Int) := k1541.trans q1458
        refine wp_of e276 c276_27 (xc_V (pc' := 30) (r := r0) (as := []) (st := []) (lm_9_376) rfl rfl (Nat.le_of_ble_eq_true rfl) w1517 g0 sh_42 (by decide) rfl (by decide) (s_220 w1517 g0 q1542 g1459) (fun R1543 T1544 H1545 p1546 => ?_))
        obtain ⟨e1547, e1549, z1551, e1548, b1552, p1550⟩ := p1546
        subst e1547
        subst e1548
        subst e1549
        show wp _ _ 276 30 [(1, vI z1519), (0, .ref r0)] [vL z1551] _ H1513 _
        refine wp_of e276 c276_30 (rw_ldc2 (pc' := 33) (z := 5000) rfl rfl rfl ?_)
        refine wp_of e276 c276_33 (rw_lcmp (pc' := 34) rfl ⟨Int.le_trans (by decide) b1552.1, Int.le_trans b1552.2 (by decide)⟩ ⟨by decide, by decide⟩ ?_)
        have b1553 := wq_cmp_b z1551 5000
        refine wp_of e276 c276_34 (rw_if_le (p1 := 39) (p2 := 37) (by decide) rfl ⟨by omega, by omega⟩ (fun c1554 => ?_) (fun c1554 => ?_))
        · refine wp_of e276 c276_39 (rw_iload_n (pc' := 40) (z := z1519) rfl rfl ?_)
          refine wp_of e276 c276_40 (rw_if_ne (p1 := 52) (p2 := 43) (by decide) rfl ⟨Int.le_trans (by decide) b1520.1, Int.le_trans b1520.2 (by decide)⟩ (fun c1555 => ?_) (fun c1555 => ?_))
          · exfalso
            omega
          · refine wp_of e276 c276_43 (rw_aload_n (pc' := 44) (v := .ref r0) rfl rfl rfl ?_)
            refine wp_of e276 c276_44 (xg_I (pc' := 47) lf_9_422 w1517 g0 sh_42 (by decide) (by decide) ty_42_29 rfl rfl (fun b1556 b1557 => ?_))
            refine wp_of e276 c276_47 (rw_if_le (p1 := 52) (p2 := 50) (by decide) rfl ⟨Int.le_trans (by decide) b1556, Int.le_trans b1557 (by decide)⟩ (fun c1558 => ?_) (fun c1558 => ?_))
            · refine wp_of e276 c276_52 (rw_iload_n (pc' := 53) (z := z1519) rfl rfl ?_)
              refine wp_of e276 c276_53 (rw_if_le (p1 := 62) (p2 := 56) (by decide) rfl ⟨Int.le_trans (by decide) b1520.1, Int.le_trans b1520.2 (by decide)⟩ (fun c1559 => ?_) (fun c1559 => ?_))
              · refine wp_of e276 c276_62 (rw_aload_n (pc' := 63) (v := .ref r0) rfl rfl rfl ?_)
                refine wp_of e276 c276_63 (xc_V (pc' := 66) (r := r0) (as := []) (st := []) (lm_9_357) rfl rfl (Nat.le_of_ble_eq_true rfl) w1517 g0 sh_42 (by decide) rfl (by decide) (s_207 w1517 g0) (fun R1560 T1561 H1562 p1563 => ?_))
                obtain ⟨e1564, e1566, z1567, e1565, b1568⟩ := p1563
                subst e1564
                subst e1565
                subst e1566
                show wp _ _ 276 66 [(1, vI z1519), (0, .ref r0)] [vI z1567] _ H1513 _
                refine wp_of e276 c276_66 (rw_istore_n (pc' := 67) (z := z1567) (L' := [(2, vI z1567), (1, vI z1519), (0, .ref r0)]) rfl rfl rfl ?_)
                refine wp_of e276 c276_67 (rw_iconst (pc' := 68) rfl ?_)
                refine wp_of e276 c276_68 (rw_istore_n (pc' := 69) (z := 0) (L' := [(3, vI 0), (2, vI z1567), (1, vI z1519), (0, .ref r0)]) rfl rfl rfl ?_)
                have lp1649 : ∀ (n1650 : Nat) (v1652 : Int) (H1653 : wq_H), WT T H1653 → wfr [(51, 999)] T H1513 H1653 → (0 ≤ v1652 ∧ v1652 ≤ 4) → (4 - v1652).toNat = n1650 → wp kt 7 276 69 [(3, vI v1652), (2, vI z1567), (0, .ref r0)] [] T H1653 (uq_276 r0 e d T H) := by
                  intro n1650
                  induction n1650 using Nat.strongRecOn with
                  | _ n1650 ih1651 =>
                    intro v1652 H1653 w1654 f1655 b1656 m1657
                    have f1658 := f1538.tr f1655 rfl
                    refine wp_of e276 c276_69 (rw_iload_n (pc' := 70) (z := v1652) rfl rfl ?_)
                    refine wp_of e276 c276_70 (rw_iconst (pc' := 71) rfl ?_)
                    refine wp_of e276 c276_71 (rw_icmp_ge (p1 := 101) (p2 := 74) (by decide) rfl ⟨Int.le_trans (by decide) b1656.1, Int.le_trans b1656.2 (by decide)⟩ ⟨by decide, by decide⟩ (fun c1659 => ?_) (fun c1659 => ?_))
                    · refine wp_of e276 c276_101 (rw_aload_n (pc' := 102) (v := .ref r0) rfl rfl rfl ?_)
                      refine wp_of e276 c276_102 (rw_bipush (pc' := 104) (z := -2) rfl (by decide) ?_)
                      refine wp_of e276 c276_104 (xc_V (pc' := 107) (r := r0) (as := [vI (-2)]) (st := []) (lm_9_58) rfl rfl (Nat.le_of_ble_eq_true rfl) w1654 g0 sh_42 (by decide) rfl (by decide) (s_209 w1654 g0 ⟨by decide, by decide⟩) (fun R1660 T1661 H1662 p1663 => ?_))
                      obtain ⟨e1664, w1666, f1667, z1668, e1665, b1669⟩ := p1663
                      subst e1664
                      subst e1665
                      have f1670 := f1658.tr f1667 rfl
                      show wp _ _ 276 107 [(3, vI v1652), (2, vI z1567), (0, .ref r0)] [vI z1668] _ H1662 _
                      have k1671 : wKI H1662 r0 = wKI H1513 r0 := ((wKI_fr w1654 g0 f1667 rfl).trans (wKI_fr w1517 g0 f1655 rfl))
                      have h1672 : KNN T H1662 r0 e d := (KNN_fr w1654 g0 f1667 rfl (KNN_fr w1517 g0 f1655 rfl a1529))
                      exact wp_ireturn e276 c276_107 rfl ⟨rfl, w1666, f1670, z1668, rfl, ⟨b1669.1, b1669.2⟩, ⟨by omega, h1672⟩⟩
                    · refine wp_of e276 c276_74 (rw_aload_n (pc' := 75) (v := .ref r0) rfl rfl rfl ?_)
                      refine wp_of e276 c276_75 (rw_iload_n (pc' := 76) (z := z1567) rfl rfl ?_)
                      have k1673 : wLM H1653 r0 = wLM H1513 r0 := (wLM_fr w1517 g0 f1655 rfl)
                      refine wp_of e276 c276_76 (rw_iload_n (pc' := 77) (z := v1652) rfl rfl ?_)
                      have k1674 : H1653 r0 3 = H1513 r0 3 := (f1655 r0 3 _ g0 rfl)
                      have q1675 : H1653 r0 3 = (r1457 : Int) := k1674.trans q1542
                      refine wp_of e276 c276_77 (xc_V (pc' := 80) (r := r0) (as := [vI z1567, vI v1652]) (st := []) (lm_9_481) rfl rfl (Nat.le_of_ble_eq_true rfl) w1654 g0 sh_42 (by decide) rfl (by decide) (s_277 w1654 g0 ⟨Int.le_trans (by decide) b1568.1, Int.le_trans b1568.2 (by decide)⟩ ⟨b1656.1, by omega⟩ q1675 g1459 (by omega)) (fun R1676 T1677 H1678 p1679 => ?_))
                      obtain ⟨e1680, w1682, f1683, z1684, e1681, b1685⟩ := p1679
                      subst e1680
                      subst e1681
                      have f1686 := f1658.tr f1683 rfl
                      have f1687 := f1655.tr f1683 rfl
                      show wp _ _ 276 80 [(3, vI v1652), (2, vI z1567), (0, .ref r0)] [vI z1684] _ H1678 _
                      refine wp_of e276 c276_80 (rw_istore (pc' := 82) (z := z1684) (L' := [(4, vI z1684), (3, vI v1652), (2, vI z1567), (0, .ref r0)]) rfl rfl rfl ?_)
                      refine wp_of e276 c276_82 (rw_iload (pc' := 84) (z := z1684) rfl rfl ?_)
                      refine wp_of e276 c276_84 (rw_iconst (pc' := 85) rfl ?_)
                      refine wp_of e276 c276_85 (rw_icmp_eq (p1 := 95) (p2 := 88) (by decide) rfl ⟨b1685.1, b1685.2⟩ ⟨by decide, by decide⟩ (fun c1688 => ?_) (fun c1688 => ?_))
                      · refine wp_of e276 c276_95 (rw_iinc (pc' := 98) (z := v1652) (L' := [(3, vI (v1652 + 1)), (4, vI z1684), (2, vI z1567), (0, .ref r0)]) rfl rfl rfl rfl ?_)
                        refine wp_of e276 c276_98 (rw_goto (p1 := 69) (by decide) ?_)
                        exact wp_lc (ks := [3, 4, 2, 0]) (wl_c rfl (wl_c rfl (wl_c rfl wl_n))) rfl (by decide) (ih1651 _ (by omega) (v1652 + 1) H1678 w1682 f1687 ⟨by omega, by omega⟩ rfl)
                      · refine wp_of e276 c276_88 (rw_aload_n (pc' := 89) (v := .ref r0) rfl rfl rfl ?_)
                        refine wp_of e276 c276_89 (rw_iload (pc' := 91) (z := z1684) rfl rfl ?_)
                        refine wp_of e276 c276_91 (xc_V (pc' := 94) (r := r0) (as := [vI z1684]) (st := []) (lm_9_58) rfl rfl (Nat.le_of_ble_eq_true rfl) w1682 g0 sh_42 (by decide) rfl (by decide) (s_209 w1682 g0 ⟨b1685.1, b1685.2⟩) (fun R1689 T1690 H1691 p1692 => ?_))
                        obtain ⟨e1693, w1695, f1696, z1697, e1694, b1698⟩ := p1692
                        subst e1693
                        subst e1694
                        have f1699 := f1686.tr f1696 rfl
                        show wp _ _ 276 94 [(4, vI z1684), (3, vI v1652), (2, vI z1567), (0, .ref r0)] [vI z1697] _ H1691 _
                        have k1700 : wKI H1691 r0 = wKI H1513 r0 := ((wKI_fr w1682 g0 f1696 rfl).trans ((wKI_fr w1654 g0 f1683 rfl).trans (wKI_fr w1517 g0 f1655 rfl)))
                        have h1701 : KNN T H1691 r0 e d := (KNN_fr w1682 g0 f1696 rfl (KNN_fr w1654 g0 f1683 rfl (KNN_fr w1517 g0 f1655 rfl a1529)))
                        exact wp_ireturn e276 c276_94 rfl ⟨rfl, w1695, f1699, z1697, rfl, ⟨b1698.1, b1698.2⟩, ⟨by omega, h1701⟩⟩
                exact wp_lc (ks := [3, 2, 1, 0]) (wl_c rfl (wl_c rfl (wl_c rfl wl_n))) rfl (by decide) (lp1649 _ 0 H1513 w1517 wfr.rf ⟨by decide, by decide⟩ rfl)
              · exfalso
                omega
            · refine wp_of e276 c276_50 (rw_iconst (pc' := 51) rfl ?_)
              refine wp_of e276 c276_51 (rw_istore_n (pc' := 52) (z := 5) (L' := [(1, vI 5), (0, .ref r0)]) rfl rfl rfl ?_)
              refine wp_of e276 c276_52 (rw_iload_n (pc' := 53) (z := 5) rfl rfl ?_)
              refine wp_of e276 c276_53 (rw_if_le (p1 := 62) (p2 := 56) (by decide) rfl ⟨by decide, by decide⟩ (fun c1702 => ?_) (fun c1702 => ?_))
              · exfalso
                omega
              · refine wp_of e276 c276_56 (rw_aload_n (pc' := 57) (v := .ref r0) rfl rfl rfl ?_)
                refine wp_of e276 c276_57 (rw_iload_n (pc' := 58) (z := 5) rfl rfl ?_)
                refine wp_of e276 c276_58 (xc_V (pc' := 61) (r := r0) (as := [vI 5]) (st := []) (lm_9_54) rfl rfl (Nat.le_of_ble_eq_true rfl) w1517 g0 sh_42 (by decide) rfl (by decide) (s_170 w1517 g0 ⟨by decide, by decide⟩) (fun R1703 T1704 H1705 p1706 => ?_))
                obtain ⟨e1707, w1709, f1710, z1711, e1708, b1712⟩ := p1706
                subst e1707
                subst e1708
                have f1713 := f1538.tr f1710 rfl
                show wp _ _ 276 61 [(1, vI 5), (0, .ref r0)] [vI z1711] _ H1705 _
                have k1714 : wKI H1705 r0 = wKI H1513 r0 := (wKI_fr w1517 g0 f1710 rfl)
                have h1715 : KNN T H1705 r0 e d := (KNN_fr w1517 g0 f1710 rfl a1529)
                exact wp_ireturn e276 c276_61 rfl ⟨rfl, w1709, f1713, z1711, rfl, ⟨b1712.1, b1712.2⟩, ⟨by omega, h1715⟩⟩
        · refine wp_of e276 c276_37 (rw_iconst (pc' := 38) rfl ?_)
          refine wp_of e276 c276_38 (rw_istore_n (pc' := 39) (z := 3) (L' := [(1, vI 3), (0, .ref r0)]) rfl rfl rfl ?_)
          refine wp_of e276 c276_39 (rw_iload_n (pc' := 40) (z := 3) rfl rfl ?_)
          refine wp_of e276 c276_40 (rw_if_ne (p1 := 52) (p2 := 43) (by decide) rfl ⟨by decide, by decide⟩ (fun c1716 => ?_) (fun c1716 => ?_))
          · refine wp_of e276 c276_52 (rw_iload_n (pc' := 53) (z := 3) rfl rfl ?_)
            refine wp_of e276 c276_53 (rw_if_le (p1 := 62) (p2 := 56) (by decide) rfl ⟨by decide, by decide⟩ (fun c1717 => ?_) (fun c1717 => ?_))
            · exfalso
              omega
            · refine wp_of e276 c276_56 (rw_aload_n (pc' := 57) (v := .ref r0) rfl rfl rfl ?_)
              refine wp_of e276 c276_57 (rw_iload_n (pc' := 58) (z := 3) rfl rfl ?_)
              refine wp_of e276 c276_58 (xc_V (pc' := 61) (r := r0) (as := [vI 3]) (st := []) (lm_9_54) rfl rfl (Nat.le_of_ble_eq_true rfl) w1517 g0 sh_42 (by decide) rfl (by decide) (s_170 w1517 g0 ⟨by decide, by decide⟩) (fun R1718 T1719 H1720 p1721 => ?_))
              obtain ⟨e1722, w1724, f1725, z1726, e1723, b1727⟩ := p1721
              subst e1722
              subst e1723
              have f1728 := f1538.tr f1725 rfl
              show wp _ _ 276 61 [(1, vI 3), (0, .ref r0)] [vI z1726] _ H1720 _
              have k1729 : wKI H1720 r0 = wKI H1513 r0 := (wKI_fr w1517 g0 f1725 rfl)
              have h1730 : KNN T H1720 r0 e d := (KNN_fr w1517 g0 f1725 rfl a1529)
              exact wp_ireturn e276 c276_61 rfl ⟨rfl, w1724, f1728, z1726, rfl, ⟨b1727.1, b1727.2⟩, ⟨by omega, h1730⟩⟩
          · exfalso
            omega
    · have f1731 := f1454.tr f1518 rfl
      show wp _ _ 276 21 [(0, .ref r0)] [vI z1519] _ H1513 _
      have k1732 : wLM H1513 r0 = wLM H r0 := ((wLM_fr w1453 g0 f1518 rfl).trans (wLM_fr hW g0 ((wfr.rf (l := [(42, 0)])).put' e1452 g0 rfl) rfl))
      refine wp_of e276 c276_21 (rw_istore_n (pc' := 22) (z := z1519) (L' := [(1, vI z1519), (0, .ref r0)]) rfl rfl rfl ?_)
      refine wp_of e276 c276_22 (rw_iload_n (pc' := 23) (z := z1519) rfl rfl ?_)
      refine wp_of e276 c276_23 (rw_if_ne (p1 := 39) (p2 := 26) (by decide) rfl ⟨Int.le_trans (by decide) b1520.1, Int.le_trans b1520.2 (by decide)⟩ (fun c1733 => ?_) (fun c1733 => ?_))
      · refine wp_of e276 c276_39 (rw_iload_n (pc' := 40) (z := z1519) rfl rfl ?_)
        refine wp_of e276 c276_40 (rw_if_ne (p1 := 52) (p2 := 43) (by decide) rfl ⟨Int.le_trans (by decide) b1520.1, Int.le_trans b1520.2 (by decide)⟩ (fun c1734 => ?_) (fun c1734 => ?_))
        · refine wp_of e276 c276_52 (rw_iload_n (pc' := 53) (z := z1519) rfl rfl ?_)
          refine wp_of e276 c276_53 (rw_if_le (p1 := 62) (p2 := 56) (by decide) rfl ⟨Int.le_trans (by decide) b1520.1, Int.le_trans b1520.2 (by decide)⟩ (fun c1735 => ?_) (fun c1735 => ?_))
          · exfalso
            omega
          · refine wp_of e276 c276_56 (rw_aload_n (pc' := 57) (v := .ref r0) rfl rfl rfl ?_)
            refine wp_of e276 c276_57 (rw_iload_n (pc' := 58) (z := z1519) rfl rfl ?_)
            refine wp_of e276 c276_58 (xc_V (pc' := 61) (r := r0) (as := [vI z1519]) (st := []) (lm_9_54) rfl rfl (Nat.le_of_ble_eq_true rfl) w1517 g0 sh_42 (by decide) rfl (by decide) (s_170 w1517 g0 ⟨Int.le_trans (by decide) b1520.1, Int.le_trans b1520.2 (by decide)⟩) (fun R1736 T1737 H1738 p1739 => ?_))
            obtain ⟨e1740, w1742, f1743, z1744, e1741, b1745⟩ := p1739
            subst e1740
            subst e1741
            have f1746 := f1731.tr f1743 rfl
            show wp _ _ 276 61 [(1, vI z1519), (0, .ref r0)] [vI z1744] _ H1738 _
            have k1747 : wKI H1738 r0 = wKI H1513 r0 := (wKI_fr w1517 g0 f1743 rfl)
            have h1748 : KNN T H1738 r0 e d := (KNN_fr w1517 g0 f1743 rfl a1537)
            exact wp_ireturn e276 c276_61 rfl ⟨rfl, w1742, f1746, z1744, rfl, ⟨b1745.1, b1745.2⟩, ⟨by omega, h1748⟩⟩
        · exfalso
          omega
      · exfalso
        omega
/-! StrikeAwakeModel.lost(I)I  -/
abbrev uq_281 (r0 : Nat) (a1 : Int) (T : wq_T) (H : wq_H) : Option Value → wq_T → wq_H → Prop := fun r T' H' => T = T' ∧ WT T H' ∧ wfr [(42, 1), (42, 2)] T H H' ∧ ∃ z : Int, some (vI z) = r ∧ ((-2147483648) ≤ z ∧ z ≤ 2147483647) ∧ (((z = -1000) ∧ (H' r0 1 = a1) ∧ (H' r0 2 = -1)))
set_option maxHeartbeats 4000000 in
theorem u_281 {kt : Nat → Option mc_E} {T : wq_T} {H : wq_H} {r0 : Nat} {a1 : Int} (hW : WT T H) (g0 : T.2.2.2 r0 = some 42) (i1 : (-2147483648) ≤ a1 ∧ a1 ≤ 2147483647) : wpc kt 2 281 [.ref r0, vI a1] T H (uq_281 r0 a1 T H) := by
  refine wp_enter e281 (Nat.le_of_ble_eq_true rfl) rfl ?_
  have f0 : wfr [(42, 1), (42, 2)] T H H := wfr.rf
  show wp _ _ 281 0 [(0, .ref r0), (1, vI a1)] [] _ H _
  refine wp_of e281 c281_0 (rw_aload_n (pc' := 1) (v := .ref r0) rfl rfl rfl ?_)
  refine wp_of e281 c281_1 (rw_iload_n (pc' := 2) (z := a1) rfl rfl ?_)
  refine wp_of e281 c281_2 (xc_V (pc' := 5) (r := r0) (as := [vI a1]) (st := []) (lm_9_54) rfl rfl (Nat.le_of_ble_eq_true rfl) hW g0 sh_42 (by decide) rfl (by decide) (u_170  hW g0 ⟨i1.1, i1.2⟩) (fun R1016 T1017 H1018 p1019 => ?_))
  obtain ⟨e1020, w1022, f1023, z1024, e1021, b1025, p1026⟩ := p1019
  subst e1020
  subst e1021
  obtain ⟨a1027, a1028, a1029⟩ := p1026
  have f1030 := f0.tr f1023 rfl
  show wp _ _ 281 5 [(0, .ref r0), (1, vI a1)] [vI z1024] _ H1018 _
  refine wp_of e281 c281_5 (rw_pop (pc' := 6) rfl rfl ?_)
  refine wp_of e281 c281_6 (rw_sipush (pc' := 9) (z := -1000) rfl (by decide) ?_)
  exact wp_ireturn e281 c281_9 rfl ⟨rfl, w1022, f1030, -1000, rfl, ⟨by decide, by decide⟩, ⟨by omega, by omega, by omega⟩⟩
/-! StrikeAwakeModel.part(IZ)I  -/
abbrev uq_279 (r0 : Nat) (a1 : Int) (a2 : Int) (e : xD) (d : xD) (T : wq_T) (H : wq_H) : Option Value → wq_T → wq_H → Prop := fun r T' H' => T = T' ∧ WT T H' ∧ wfr [(42, 0), (42, 1), (42, 2), (42, 28), (42, 29), (51, 999), (52, 999)] T H H' ∧ ∃ z : Int, some (vI z) = r ∧ ((-2147483648) ≤ z ∧ z ≤ 2147483647) ∧ (((z = -1000) ∧ (wKI H' r0 = 1) ∧ (((a1 < 0 ∨ d 0 0 ≤ a1) ∨ e 13 (a1).toNat ≤ 0) ∨ 20000 < xlots d ∨ xcn (xwf e d) (xlots d).toNat ≤ 0) ∧ KNN T H' r0 e d) ∨ ((wKI H' r0 = 1) ∧ (((0 ≤ a1 ∧ a1 < d 0 0) ∧ e 13 (a1).toNat > 0) ∧ xlots d ≤ 20000 ∧ 0 < xcn (xwf e d) (xlots d).toNat) ∧ (XEX (decide (a2 ≠ 0)) (xwf e d) (fun n => e 13 (a1).toNat - 1 - ((xdue d (xlot d ((n : Nat) : Int)) (a1).toNat : Nat) : Int)) (xlots d).toNat z) ∧ KNN T H' r0 e d))
set_option maxHeartbeats 4000000 in
theorem u_279 {kt : Nat → Option mc_E} {T : wq_T} {H : wq_H} {r0 : Nat} {a1 : Int} {a2 : Int} {e : xD} {d : xD} (hW : WT T H) (g0 : T.2.2.2 r0 = some 42) (i1 : (-2147483648) ≤ a1 ∧ a1 ≤ 2147483647) (i2 : 0 ≤ a2 ∧ a2 ≤ 1) (p0 : wKI H r0 = 1) (p1 : XW d) (p2 : ∀ h : Nat, d 0 0 ≤ (h : Int) → h < 24 → e 13 h = 0) (p3 : XN d) (p4 : ∀ h : Nat, h < 24 → 0 ≤ e 13 h ∧ e 13 h ≤ 100) (hRB_r0 : RB T H r0 e d) (hKNN_r0 : KNN T H r0 e d) : wpc kt 9 279 [.ref r0, vI a1, vI a2] T H (uq_279 r0 a1 a2 e d T H) := by
  refine wp_enter e279 (Nat.le_of_ble_eq_true rfl) rfl ?_
  have f0 : wfr [(42, 0), (42, 1), (42, 2), (42, 28), (42, 29), (51, 999), (52, 999)] T H H := wfr.rf
  show wp _ _ 279 0 [(0, .ref r0), (1, vI a1), (2, vI a2)] [] _ H _
  have _b := RB_b hW hRB_r0
  have _nu := RB_n3 hRB_r0
  have _lm := RB_lm hRB_r0
  have _xw := (by assumption : XW d)
  have _e13 := (by assumption : ∀ h : Nat, h < 24 → 0 ≤ e 13 h ∧ e 13 h ≤ 100)
  refine wp_of e279 c279_0 (rw_aload_n (pc' := 1) (v := .ref r0) rfl rfl rfl ?_)
  refine wp_of e279 c279_1 (rw_iconst (pc' := 2) rfl ?_)
  refine wp_of e279 c279_2 (xp_I (pc' := 5) lf_9_48 hW g0 sh_42 (by decide) (by decide) ty_42_0 rfl rfl (by decide) (by decide) ⟨by decide, by decide⟩ rfl (fun H2053 e2054 w2055 => ?_))
  have f2056 := f0.put' e2054 g0 rfl
  have k2057 : H2053 r0 0 = 0 := wq_u_s e2054
  refine wp_of e279 c279_5 (rw_aload_n (pc' := 6) (v := .ref r0) rfl rfl rfl ?_)
  refine wp_of e279 c279_6 (rw_aload_n (pc' := 7) (v := .ref r0) rfl rfl rfl ?_)
  refine wp_of e279 c279_7 (rw_iload_n (pc' := 8) (z := a1) rfl rfl ?_)
  have h2058 : RB T H2053 r0 e d := (RB_fr hW g0 ((wfr.rf (l := [(42, 0)])).put' e2054 g0 rfl) rfl hRB_r0)
  refine wp_of e279 c279_8 (xc_V (pc' := 11) (r := r0) (as := [vI a1]) (st := [.ref r0]) (lm_9_487) rfl rfl (Nat.le_of_ble_eq_true rfl) w2055 g0 sh_42 (by decide) rfl (by decide) (u_280 (e := e) (d := d) w2055 g0 ⟨i1.1, i1.2⟩ h2058) (fun R2059 T2060 H2061 p2062 => ?_))
  obtain ⟨e2063, e2065, z2066, e2064, b2067, p2068⟩ := p2062
  subst e2063
  subst e2064
  subst e2065
  rcases p2068 with ⟨a2069, a2070, a2071⟩ | ⟨a2072, a2073⟩
  · show wp _ _ 279 11 [(0, .ref r0), (1, vI a1), (2, vI a2)] [vI z2066, .ref r0] _ H2053 _
    have k2074 : H2053 r0 3 = H r0 3 := (wq_u_j e2054 rfl)
    have k2075 : wKI H2053 r0 = wKI H r0 := (wKI_fr hW g0 ((wfr.rf (l := [(42, 0)])).put' e2054 g0 rfl) rfl)
    have h2076 : KNN T H2053 r0 e d := (KNN_fr hW g0 ((wfr.rf (l := [(42, 0)])).put' e2054 g0 rfl) rfl hKNN_r0)
    refine wp_of e279 c279_11 (xc_V (pc' := 14) (r := r0) (as := [vI z2066]) (st := []) (lm_9_447) rfl rfl (Nat.le_of_ble_eq_true rfl) w2055 g0 sh_42 (by decide) rfl (by decide) (u_253 (e := e) (d := d) w2055 g0 ⟨b2067.1, b2067.2⟩ (by omega) (by omega) (by assumption) (by assumption) (by assumption) (by assumption) h2058 h2076) (fun R2077 T2078 H2079 p2080 => ?_))
    obtain ⟨e2081, w2083, f2084, z2085, e2082, b2086, p2087⟩ := p2080
    subst e2081
    subst e2082
    rcases p2087 with ⟨a2088, a2089, a2090, a2091, a2092, a2093, a2094, a2095, a2096, a2097⟩ | ⟨a2098, a2099, a2100, a2101, a2102, a2103, a2104⟩
    · have f2105 := f2056.tr f2084 rfl
      show wp _ _ 279 14 [(0, .ref r0), (1, vI a1), (2, vI a2)] [vI z2085] _ H2079 _
      refine wp_of e279 c279_14 (rw_istore_n (pc' := 15) (z := z2085) (L' := [(3, vI z2085), (0, .ref r0), (1, vI a1), (2, vI a2)]) rfl rfl rfl ?_)
      refine wp_of e279 c279_15 (rw_iload_n (pc' := 16) (z := z2085) rfl rfl ?_)
      have k2106 : H2079 r0 3 = H2053 r0 3 := (f2084 r0 3 _ g0 rfl)
      obtain ⟨r2107, q2108, g2109⟩ := (w2083.opt g0 (t' := 54) (n := 33) (j := 3) (p := 0) (q := 0) rfl (by decide) rfl).resolve_left (by omega)
      have h2110 : RB T H2079 r0 e d := (RB_fr w2055 g0 f2084 rfl h2058)
      have _kbb := a2097
      have _kb := _kbb.1
      have _n3 : H2079 r0 3 ≠ -1 := by omega
      have _rp := RB_at h2110 q2108
      have _k := RP_k _rp
      have _nb := xcn_b (f := xwf e d) (xlots d).toNat
      have h2111 : KL T H2079 r0 (xwf e d) (xlots d).toNat := _kbb.2
      have _ar := RB_ar h2110 (by omega)
      have _pk := _ar.1
      have h2112 : MN20 T H2079 r0 24 (e 13) := _ar.2.2.1
      refine wp_of e279 c279_16 (rw_if_le (p1 := 25) (p2 := 19) (by decide) rfl ⟨Int.le_trans (by decide) b2086.1, Int.le_trans b2086.2 (by decide)⟩ (fun c2113 => ?_) (fun c2113 => ?_))
      · refine wp_of e279 c279_25 (rw_iconst (pc' := 26) rfl ?_)
        refine wp_of e279 c279_26 (rw_istore (pc' := 28) (z := 0) (L' := [(4, vI 0), (3, vI z2085), (0, .ref r0), (1, vI a1), (2, vI a2)]) rfl rfl rfl ?_)
        refine wp_of e279 c279_28 (rw_iconst (pc' := 29) rfl ?_)
        refine wp_of e279 c279_29 (rw_istore (pc' := 31) (z := 0) (L' := [(5, vI 0), (4, vI 0), (3, vI z2085), (0, .ref r0), (1, vI a1), (2, vI a2)]) rfl rfl rfl ?_)
        have b2518 : 0 ≤ H2079 r0 29 ∧ H2079 r0 29 ≤ 20000 := w2083.box g0 (n := 33) rfl (by decide) rfl
        have lp2511 : ∀ (n2512 : Nat) (v2514 : Int) (v2515 : Int) (H2516 : wq_H) (u2517 : Nat), WT T H2516 → wfr [(51, 999)] T H2079 H2516 → (0 ≤ v2514 ∧ v2514 ≤ 20000) → ((-200) ≤ v2515 ∧ v2515 ≤ 200) → KL T H2516 r0 (xwf e d) (xlots d).toNat → (v2514 ≤ H2516 r0 29) → (u2517 ≤ (xlots d).toNat) → (xcn (xwf e d) u2517 = v2514) → (v2515 = xtr (decide (a2 ≠ 0)) (xwf e d) (fun n => e 13 (a1).toNat - 1 - ((xdue d (xlot d ((n : Nat) : Int)) (a1).toNat : Nat) : Int)) u2517) → (20000 - v2514).toNat = n2512 → wp kt 8 279 31 [(5, vI v2514), (4, vI v2515), (0, .ref r0), (1, vI a1), (2, vI a2)] [] T H2516 (uq_279 r0 a1 a2 e d T H) := by
          intro n2512
          induction n2512 using Nat.strongRecOn with
          | _ n2512 ih2513 =>
            intro v2514 v2515 H2516 u2517 w2519 f2520 b2521 b2522 h2524 x2525 x2526 x2527 x2528 m2523
            have f2529 := f2105.tr f2520 rfl
            have k2530 : H2516 r0 29 = H2079 r0 29 := (f2520 r0 29 _ g0 rfl)
            refine wp_of e279 c279_31 (rw_iload (pc' := 33) (z := v2514) rfl rfl ?_)
            refine wp_of e279 c279_33 (rw_aload_n (pc' := 34) (v := .ref r0) rfl rfl rfl ?_)
            refine wp_of e279 c279_34 (xg_I (pc' := 37) lf_9_422 w2519 g0 sh_42 (by decide) (by decide) ty_42_29 rfl rfl (fun b2531 b2532 => ?_))
            refine wp_of e279 c279_37 (rw_icmp_ge (p1 := 112) (p2 := 40) (by decide) rfl ⟨Int.le_trans (by decide) b2521.1, Int.le_trans b2521.2 (by decide)⟩ ⟨Int.le_trans (by decide) b2531, Int.le_trans b2532 (by decide)⟩ (fun c2533 => ?_) (fun c2533 => ?_))
            · refine wp_of e279 c279_112 (rw_aload_n (pc' := 113) (v := .ref r0) rfl rfl rfl ?_)
              refine wp_of e279 c279_113 (rw_iload (pc' := 115) (z := v2515) rfl rfl ?_)
              refine wp_of e279 c279_115 (xc_V (pc' := 118) (r := r0) (as := [vI v2515]) (st := []) (lm_9_58) rfl rfl (Nat.le_of_ble_eq_true rfl) w2519 g0 sh_42 (by decide) rfl (by decide) (u_209  w2519 g0 ⟨Int.le_trans (by decide) b2522.1, Int.le_trans b2522.2 (by decide)⟩) (fun R2534 T2535 H2536 p2537 => ?_))
              obtain ⟨e2538, w2540, f2541, z2542, e2539, b2543, p2544⟩ := p2537
              subst e2538
              subst e2539
              obtain ⟨a2545, a2546, a2547⟩ := p2544
              have f2548 := f2529.tr f2541 rfl
              show wp _ _ 279 118 [(5, vI v2514), (4, vI v2515), (0, .ref r0), (1, vI a1), (2, vI a2)] [vI z2542] _ H2536 _
              have k2549 : wKI H2536 r0 = wKI H2079 r0 := ((wKI_fr w2519 g0 f2541 rfl).trans (wKI_fr w2083 g0 f2520 rfl))
              have h2550 : KNN T H2536 r0 e d := (KNN_fr w2519 g0 f2541 rfl (KNN_fr w2083 g0 f2520 rfl a2096))
              exact wp_ireturn e279 c279_118 rfl ⟨rfl, w2540, f2548, z2542, rfl, ⟨b2543.1, b2543.2⟩, (Or.inr ⟨by omega, by omega, by
                rw [show z2542 = xtr (decide (a2 ≠ 0)) (xwf e d) (fun n => e 13 (a1).toNat - 1 - ((xdue d (xlot d ((n : Nat) : Int)) (a1).toNat : Nat) : Int)) (xlots d).toNat by rw [xtr_end (u := u2517) (by omega) (by omega)]; first | assumption | omega]
                exact xtr_ex _ (by omega), h2550⟩)⟩
            · obtain ⟨h9, _a, _b, _c, _e, _f⟩ := xcn_nx (f := xwf e d) (u := u2517) (xlots d).toNat (by omega) (by omega)
              have _n9 : xcn (xwf e d) (h9 + 1) = xcn (xwf e d) h9 + 1 := by
                show xcn (xwf e d) h9 + (if xwf e d h9 > 0 then 1 else 0) = _
                rw [if_pos _c]
              refine wp_of e279 c279_40 (rw_aload_n (pc' := 41) (v := .ref r0) rfl rfl rfl ?_)
              refine wp_of e279 c279_41 (rw_aload_n (pc' := 42) (v := .ref r0) rfl rfl rfl ?_)
              refine wp_of e279 c279_42 (xg_R (pc' := 45) lf_9_42 w2519 g0 sh_42 (by decide) (by decide) ty_42_30 rfl rfl (fun r2551 q2552 g2553 => ?_))
              refine wp_of e279 c279_45 (rw_iload (pc' := 47) (z := v2514) rfl rfl ?_)
              refine wp_of e279 c279_47 (xa_I (so := 0) (pc' := 48) w2519 g2553 sh_52 (by decide) (ty_52 _) (b2521.1) (by omega) rfl (fun b2554 b2555 => ?_))
              have _kl := KL_at h2524 q2552 (n := h9) (s := (v2514).toNat) (by omega) _c (by omega)
              have _t9 : H2516 r2551 (v2514.toNat) = ((h9 : Nat) : Int) := by omega
              have _slw : SL d (xlot d ((h9 : Nat) : Int)) := SL_lot _xw.1 (by omega) (by omega)
              have k2556 : H2516 r0 3 = H2079 r0 3 := (f2520 r0 3 _ g0 rfl)
              have q2557 : H2516 r0 3 = (r2107 : Int) := k2556.trans q2108
              have h2558 : RB T H2516 r0 e d := (RB_fr w2083 g0 f2520 rfl h2110)
              refine wp_of e279 c279_48 (xc_V (pc' := 51) (r := r0) (as := [vI (H2516 r2551 (v2514.toNat))]) (st := []) (lm_9_425) rfl rfl (Nat.le_of_ble_eq_true rfl) w2519 g0 sh_42 (by decide) rfl (by decide) (u_243 (e := e) (d := d) w2519 g0 ⟨b2554, Int.le_trans b2555 (by decide)⟩ q2557 g2109 (by omega) h2558) (fun R2559 T2560 H2561 p2562 => ?_))
              obtain ⟨e2563, w2565, f2566, e2564, p2567⟩ := p2562
              subst e2563
              subst e2564
              have f2569 := f2529.tr f2566 rfl
              have f2570 := f2520.tr f2566 rfl
              show wp _ _ 279 51 [(5, vI v2514), (4, vI v2515), (0, .ref r0), (1, vI a1), (2, vI a2)] [] _ H2561 _
              have h2571 : LQ27 T H2561 r0 0 (d 0 3) (xlot d ((h9 : Nat) : Int)) := by rw [← _t9]; exact p2567
              refine wp_of e279 c279_51 (rw_aload_n (pc' := 52) (v := .ref r0) rfl rfl rfl ?_)
              refine wp_of e279 c279_52 (xg_R (pc' := 55) lf_9_17 w2565 g0 sh_42 (by decide) (by decide) ty_42_20 rfl rfl (fun r2572 q2573 g2574 => ?_))
              refine wp_of e279 c279_55 (rw_iload_n (pc' := 56) (z := a1) rfl rfl ?_)
              refine wp_of e279 c279_56 (xa_I (so := 0) (pc' := 57) w2565 g2574 sh_44 (by decide) (ty_44 _) (by omega) (by omega) rfl (fun b2575 b2576 => ?_))
              have h2577 : MN20 T H2561 r0 24 (e 13) := (MN20_fr w2519 g0 f2566 rfl (MN20_fr w2083 g0 f2520 rfl h2112))
              have := DA_at h2577 q2573 (k := (a1.toNat)) (by omega)
              refine wp_of e279 c279_57 (rw_iconst (pc' := 58) rfl ?_)
              refine wp_of e279 c279_58 (rw_isubw (pc' := 59) rfl ?_)
              obtain ⟨v2578, e2579⟩ : ∃ x : Int, x = wq_w ((H2561 r2572 (a1.toNat)) - 1) := ⟨_, rfl⟩
              rw [← e2579]
              have b2580 : -2147483648 ≤ v2578 ∧ v2578 ≤ 2147483647 := by
                rw [e2579]
                exact wI_w _
              have b2581 : (-2147483648 ≤ (H2561 r2572 (a1.toNat)) - 1 ∧ (H2561 r2572 (a1.toNat)) - 1 ≤ 2147483647) → v2578 = (H2561 r2572 (a1.toNat)) - 1 := fun h => by rw [e2579]; exact wq_w_id h
              refine wp_of e279 c279_59 (rw_aload_n (pc' := 60) (v := .ref r0) rfl rfl rfl ?_)
              refine wp_of e279 c279_60 (rw_aload_n (pc' := 61) (v := .ref r0) rfl rfl rfl ?_)
              refine wp_of e279 c279_61 (xg_R (pc' := 64) lf_9_39 w2565 g0 sh_42 (by decide) (by decide) ty_42_27 rfl rfl (fun r2582 q2583 g2584 => ?_))
              have h2585 : RR T H2561 r2582 (d 0 3) (xlot d ((h9 : Nat) : Int)) := RR_27 h2571 q2583 g2584 (by omega)
              refine wp_of e279 c279_64 (rw_iload_n (pc' := 65) (z := a1) rfl rfl ?_)
              have k2586 : H2561 r0 3 = H2516 r0 3 := (f2566 r0 3 _ g0 rfl)
              have q2587 : H2561 r0 3 = (r2107 : Int) := k2586.trans q2557
              have h2588 : RB T H2561 r0 e d := (RB_fr w2519 g0 f2566 rfl h2558)
              refine wp_of e279 c279_65 (xc_V (pc' := 68) (r := r0) (as := [.ref r2582, vI a1]) (st := [vI v2578]) (lm_9_386) rfl rfl (Nat.le_of_ble_eq_true rfl) w2565 g0 sh_42 (by decide) rfl (by decide) (u_228_l (e := e) (d := d) (g := ((xlot d ((h9 : Nat) : Int)))) w2565 g0 g2584 ⟨by omega, by omega⟩ q2587 g2109 (by assumption) (by assumption) h2588 h2585) (fun R2589 T2590 H2591 p2592 => ?_))
              obtain ⟨e2593, e2595, z2596, e2594, b2597, p2598⟩ := p2592
              subst e2593
              subst e2594
              subst e2595
              show wp _ _ 279 68 [(5, vI v2514), (4, vI v2515), (0, .ref r0), (1, vI a1), (2, vI a2)] [vI z2596, vI v2578] _ H2561 _
              refine wp_of e279 c279_68 (rw_isubw (pc' := 69) rfl ?_)
              obtain ⟨v2600, e2601⟩ : ∃ x : Int, x = wq_w (v2578 - z2596) := ⟨_, rfl⟩
              rw [← e2601]
              have b2602 : -2147483648 ≤ v2600 ∧ v2600 ≤ 2147483647 := by
                rw [e2601]
                exact wI_w _
              have b2603 : (-2147483648 ≤ v2578 - z2596 ∧ v2578 - z2596 ≤ 2147483647) → v2600 = v2578 - z2596 := fun h => by rw [e2601]; exact wq_w_id h
              refine wp_of e279 c279_69 (rw_istore (pc' := 71) (z := v2600) (L' := [(6, vI v2600), (5, vI v2514), (4, vI v2515), (0, .ref r0), (1, vI a1), (2, vI a2)]) rfl rfl rfl ?_)
              refine wp_of e279 c279_71 (rw_iload (pc' := 73) (z := v2514) rfl rfl ?_)
              refine wp_of e279 c279_73 (rw_if_eq (p1 := 97) (p2 := 76) (by decide) rfl ⟨Int.le_trans (by decide) b2521.1, Int.le_trans b2521.2 (by decide)⟩ (fun c2604 => ?_) (fun c2604 => ?_))
              · refine wp_of e279 c279_97 (rw_iload (pc' := 99) (z := v2600) rfl rfl ?_)
                refine wp_of e279 c279_99 (rw_goto (p1 := 104) (by decide) ?_)
                refine wp_of e279 c279_104 (rw_istore (pc' := 106) (z := v2600) (L' := [(4, vI v2600), (6, vI v2600), (5, vI v2514), (0, .ref r0), (1, vI a1), (2, vI a2)]) rfl rfl rfl ?_)
                have _e3 := _e13 (a1).toNat (by omega)
                have _gp : xtr (decide (a2 ≠ 0)) (xwf e d) (fun n => e 13 (a1).toNat - 1 - ((xdue d (xlot d ((n : Nat) : Int)) (a1).toNat : Nat) : Int)) h9 = v2515 := by
                  rw [xtr_gap _a _f]
                  exact (‹v2515 = xtr (decide (a2 ≠ 0)) (xwf e d) (fun n => e 13 (a1).toNat - 1 - ((xdue d (xlot d ((n : Nat) : Int)) (a1).toNat : Nat) : Int)) u2517›).symm
                have _vv : v2600 = e 13 (a1).toNat - 1 - ((xdue d (xlot d ((h9 : Nat) : Int)) (a1).toNat : Nat) : Int) := by omega
                have _q : v2600 = xtr (decide (a2 ≠ 0)) (xwf e d) (fun n => e 13 (a1).toNat - 1 - ((xdue d (xlot d ((n : Nat) : Int)) (a1).toNat : Nat) : Int)) (h9 + 1) := by
                  rw [xtr_y _c, _gp, ← _vv]
                  first
                  | rw [if_pos (Or.inl (by omega))]
                  | rw [if_pos (Or.inr (by rw [if_pos (decide_eq_true (by omega))]; omega))]
                  | rw [if_pos (Or.inr (by rw [if_neg (fun c9 => absurd (of_decide_eq_true c9) (by omega))]; omega))]
                  | rw [if_neg (fun c8 => by
                      rcases c8 with c8 | c8
                      · omega
                      · first
                        | (rw [if_pos (decide_eq_true (by omega))] at c8; omega)
                        | (rw [if_neg (fun c9 => absurd (of_decide_eq_true c9) (by omega))] at c8; omega))]
                  all_goals omega
                refine wp_of e279 c279_106 (rw_iinc (pc' := 109) (z := v2514) (L' := [(5, vI (v2514 + 1)), (4, vI v2600), (6, vI v2600), (0, .ref r0), (1, vI a1), (2, vI a2)]) rfl rfl rfl rfl ?_)
                refine wp_of e279 c279_109 (rw_goto (p1 := 31) (by decide) ?_)
                have k2605 : H2561 r0 29 = H2516 r0 29 := (f2566 r0 29 _ g0 rfl)
                have h2606 : KL T H2561 r0 (xwf e d) (xlots d).toNat := (KL_fr w2519 g0 f2566 rfl h2524)
                exact wp_lc (ks := [5, 4, 6, 0, 1, 2]) (wl_c rfl (wl_c rfl (wl_c rfl (wl_c rfl (wl_c rfl wl_n))))) rfl (by decide) (ih2513 _ (by omega) (v2514 + 1) v2600 H2561 ((h9 + 1)) w2565 f2570 ⟨by omega, by omega⟩ ⟨by omega, by omega⟩ h2606 (by omega) (by omega) (by omega) (_q) rfl)
              · refine wp_of e279 c279_76 (rw_iload_n (pc' := 77) (z := a2) rfl rfl ?_)
                refine wp_of e279 c279_77 (rw_if_eq (p1 := 90) (p2 := 80) (by decide) rfl ⟨Int.le_trans (by decide) i2.1, Int.le_trans i2.2 (by decide)⟩ (fun c2607 => ?_) (fun c2607 => ?_))
                · refine wp_of e279 c279_90 (rw_iload (pc' := 92) (z := v2600) rfl rfl ?_)
                  refine wp_of e279 c279_92 (rw_iload (pc' := 94) (z := v2515) rfl rfl ?_)
                  refine wp_of e279 c279_94 (rw_icmp_ge (p1 := 102) (p2 := 97) (by decide) rfl ⟨b2602.1, b2602.2⟩ ⟨Int.le_trans (by decide) b2522.1, Int.le_trans b2522.2 (by decide)⟩ (fun c2608 => ?_) (fun c2608 => ?_))
                  · refine wp_of e279 c279_102 (rw_iload (pc' := 104) (z := v2515) rfl rfl ?_)
                    refine wp_of e279 c279_104 (rw_istore (pc' := 106) (z := v2515) (L' := [(4, vI v2515), (6, vI v2600), (5, vI v2514), (0, .ref r0), (1, vI a1), (2, vI a2)]) rfl rfl rfl ?_)
                    have _e3 := _e13 (a1).toNat (by omega)
                    have _gp : xtr (decide (a2 ≠ 0)) (xwf e d) (fun n => e 13 (a1).toNat - 1 - ((xdue d (xlot d ((n : Nat) : Int)) (a1).toNat : Nat) : Int)) h9 = v2515 := by
                      rw [xtr_gap _a _f]
                      exact (‹v2515 = xtr (decide (a2 ≠ 0)) (xwf e d) (fun n => e 13 (a1).toNat - 1 - ((xdue d (xlot d ((n : Nat) : Int)) (a1).toNat : Nat) : Int)) u2517›).symm
                    have _vv : v2600 = e 13 (a1).toNat - 1 - ((xdue d (xlot d ((h9 : Nat) : Int)) (a1).toNat : Nat) : Int) := by omega
                    have _q : v2515 = xtr (decide (a2 ≠ 0)) (xwf e d) (fun n => e 13 (a1).toNat - 1 - ((xdue d (xlot d ((n : Nat) : Int)) (a1).toNat : Nat) : Int)) (h9 + 1) := by
                      rw [xtr_y _c, _gp, ← _vv]
                      first
                      | rw [if_pos (Or.inl (by omega))]
                      | rw [if_pos (Or.inr (by rw [if_pos (decide_eq_true (by omega))]; omega))]
                      | rw [if_pos (Or.inr (by rw [if_neg (fun c9 => absurd (of_decide_eq_true c9) (by omega))]; omega))]
                      | rw [if_neg (fun c8 => by
                          rcases c8 with c8 | c8
                          · omega
                          · first
                            | (rw [if_pos (decide_eq_true (by omega))] at c8; omega)
                            | (rw [if_neg (fun c9 => absurd (of_decide_eq_true c9) (by omega))] at c8; omega))]
                      all_goals omega
                    refine wp_of e279 c279_106 (rw_iinc (pc' := 109) (z := v2514) (L' := [(5, vI (v2514 + 1)), (4, vI v2515), (6, vI v2600), (0, .ref r0), (1, vI a1), (2, vI a2)]) rfl rfl rfl rfl ?_)
                    refine wp_of e279 c279_109 (rw_goto (p1 := 31) (by decide) ?_)
                    have k2609 : H2561 r0 29 = H2516 r0 29 := (f2566 r0 29 _ g0 rfl)
                    have h2610 : KL T H2561 r0 (xwf e d) (xlots d).toNat := (KL_fr w2519 g0 f2566 rfl h2524)
                    exact wp_lc (ks := [5, 4, 6, 0, 1, 2]) (wl_c rfl (wl_c rfl (wl_c rfl (wl_c rfl (wl_c rfl wl_n))))) rfl (by decide) (ih2513 _ (by omega) (v2514 + 1) v2515 H2561 ((h9 + 1)) w2565 f2570 ⟨by omega, by omega⟩ ⟨b2522.1, b2522.2⟩ h2610 (by omega) (by omega) (by omega) (_q) rfl)
                  · refine wp_of e279 c279_97 (rw_iload (pc' := 99) (z := v2600) rfl rfl ?_)
                    refine wp_of e279 c279_99 (rw_goto (p1 := 104) (by decide) ?_)
                    refine wp_of e279 c279_104 (rw_istore (pc' := 106) (z := v2600) (L' := [(4, vI v2600), (6, vI v2600), (5, vI v2514), (0, .ref r0), (1, vI a1), (2, vI a2)]) rfl rfl rfl ?_)
                    have _e3 := _e13 (a1).toNat (by omega)
                    have _gp : xtr (decide (a2 ≠ 0)) (xwf e d) (fun n => e 13 (a1).toNat - 1 - ((xdue d (xlot d ((n : Nat) : Int)) (a1).toNat : Nat) : Int)) h9 = v2515 := by
                      rw [xtr_gap _a _f]
                      exact (‹v2515 = xtr (decide (a2 ≠ 0)) (xwf e d) (fun n => e 13 (a1).toNat - 1 - ((xdue d (xlot d ((n : Nat) : Int)) (a1).toNat : Nat) : Int)) u2517›).symm
                    have _vv : v2600 = e 13 (a1).toNat - 1 - ((xdue d (xlot d ((h9 : Nat) : Int)) (a1).toNat : Nat) : Int) := by omega
                    have _q : v2600 = xtr (decide (a2 ≠ 0)) (xwf e d) (fun n => e 13 (a1).toNat - 1 - ((xdue d (xlot d ((n : Nat) : Int)) (a1).toNat : Nat) : Int)) (h9 + 1) := by
                      rw [xtr_y _c, _gp, ← _vv]
                      first
                      | rw [if_pos (Or.inl (by omega))]
                      | rw [if_pos (Or.inr (by rw [if_pos (decide_eq_true (by omega))]; omega))]
                      | rw [if_pos (Or.inr (by rw [if_neg (fun c9 => absurd (of_decide_eq_true c9) (by omega))]; omega))]
                      | rw [if_neg (fun c8 => by
                          rcases c8 with c8 | c8
                          · omega
                          · first
                            | (rw [if_pos (decide_eq_true (by omega))] at c8; omega)
                            | (rw [if_neg (fun c9 => absurd (of_decide_eq_true c9) (by omega))] at c8; omega))]
                      all_goals omega
                    refine wp_of e279 c279_106 (rw_iinc (pc' := 109) (z := v2514) (L' := [(5, vI (v2514 + 1)), (4, vI v2600), (6, vI v2600), (0, .ref r0), (1, vI a1), (2, vI a2)]) rfl rfl rfl rfl ?_)
                    refine wp_of e279 c279_109 (rw_goto (p1 := 31) (by decide) ?_)
                    have k2611 : H2561 r0 29 = H2516 r0 29 := (f2566 r0 29 _ g0 rfl)
                    have h2612 : KL T H2561 r0 (xwf e d) (xlots d).toNat := (KL_fr w2519 g0 f2566 rfl h2524)
                    exact wp_lc (ks := [5, 4, 6, 0, 1, 2]) (wl_c rfl (wl_c rfl (wl_c rfl (wl_c rfl (wl_c rfl wl_n))))) rfl (by decide) (ih2513 _ (by omega) (v2514 + 1) v2600 H2561 ((h9 + 1)) w2565 f2570 ⟨by omega, by omega⟩ ⟨by omega, by omega⟩ h2612 (by omega) (by omega) (by omega) (_q) rfl)
                · refine wp_of e279 c279_80 (rw_iload (pc' := 82) (z := v2600) rfl rfl ?_)
                  refine wp_of e279 c279_82 (rw_iload (pc' := 84) (z := v2515) rfl rfl ?_)
                  refine wp_of e279 c279_84 (rw_icmp_le (p1 := 102) (p2 := 87) (by decide) rfl ⟨b2602.1, b2602.2⟩ ⟨Int.le_trans (by decide) b2522.1, Int.le_trans b2522.2 (by decide)⟩ (fun c2613 => ?_) (fun c2613 => ?_))
                  · refine wp_of e279 c279_102 (rw_iload (pc' := 104) (z := v2515) rfl rfl ?_)
                    refine wp_of e279 c279_104 (rw_istore (pc' := 106) (z := v2515) (L' := [(4, vI v2515), (6, vI v2600), (5, vI v2514), (0, .ref r0), (1, vI a1), (2, vI a2)]) rfl rfl rfl ?_)
                    have _e3 := _e13 (a1).toNat (by omega)
                    have _gp : xtr (decide (a2 ≠ 0)) (xwf e d) (fun n => e 13 (a1).toNat - 1 - ((xdue d (xlot d ((n : Nat) : Int)) (a1).toNat : Nat) : Int)) h9 = v2515 := by
                      rw [xtr_gap _a _f]
                      exact (‹v2515 = xtr (decide (a2 ≠ 0)) (xwf e d) (fun n => e 13 (a1).toNat - 1 - ((xdue d (xlot d ((n : Nat) : Int)) (a1).toNat : Nat) : Int)) u2517›).symm
                    have _vv : v2600 = e 13 (a1).toNat - 1 - ((xdue d (xlot d ((h9 : Nat) : Int)) (a1).toNat : Nat) : Int) := by omega
                    have _q : v2515 = xtr (decide (a2 ≠ 0)) (xwf e d) (fun n => e 13 (a1).toNat - 1 - ((xdue d (xlot d ((n : Nat) : Int)) (a1).toNat : Nat) : Int)) (h9 + 1) := by
                      rw [xtr_y _c, _gp, ← _vv]
                      first
                      | rw [if_pos (Or.inl (by omega))]
                      | rw [if_pos (Or.inr (by rw [if_pos (decide_eq_true (by omega))]; omega))]
                      | rw [if_pos (Or.inr (by rw [if_neg (fun c9 => absurd (of_decide_eq_true c9) (by omega))]; omega))]
                      | rw [if_neg (fun c8 => by
                          rcases c8 with c8 | c8
                          · omega
                          · first
                            | (rw [if_pos (decide_eq_true (by omega))] at c8; omega)
                            | (rw [if_neg (fun c9 => absurd (of_decide_eq_true c9) (by omega))] at c8; omega))]
                      all_goals omega
                    refine wp_of e279 c279_106 (rw_iinc (pc' := 109) (z := v2514) (L' := [(5, vI (v2514 + 1)), (4, vI v2515), (6, vI v2600), (0, .ref r0), (1, vI a1), (2, vI a2)]) rfl rfl rfl rfl ?_)
                    refine wp_of e279 c279_109 (rw_goto (p1 := 31) (by decide) ?_)
                    have k2614 : H2561 r0 29 = H2516 r0 29 := (f2566 r0 29 _ g0 rfl)
                    have h2615 : KL T H2561 r0 (xwf e d) (xlots d).toNat := (KL_fr w2519 g0 f2566 rfl h2524)
                    exact wp_lc (ks := [5, 4, 6, 0, 1, 2]) (wl_c rfl (wl_c rfl (wl_c rfl (wl_c rfl (wl_c rfl wl_n))))) rfl (by decide) (ih2513 _ (by omega) (v2514 + 1) v2515 H2561 ((h9 + 1)) w2565 f2570 ⟨by omega, by omega⟩ ⟨b2522.1, b2522.2⟩ h2615 (by omega) (by omega) (by omega) (_q) rfl)
                  · refine wp_of e279 c279_87 (rw_goto (p1 := 97) (by decide) ?_)
                    refine wp_of e279 c279_97 (rw_iload (pc' := 99) (z := v2600) rfl rfl ?_)
                    refine wp_of e279 c279_99 (rw_goto (p1 := 104) (by decide) ?_)
                    refine wp_of e279 c279_104 (rw_istore (pc' := 106) (z := v2600) (L' := [(4, vI v2600), (6, vI v2600), (5, vI v2514), (0, .ref r0), (1, vI a1), (2, vI a2)]) rfl rfl rfl ?_)
                    have _e3 := _e13 (a1).toNat (by omega)
                    have _gp : xtr (decide (a2 ≠ 0)) (xwf e d) (fun n => e 13 (a1).toNat - 1 - ((xdue d (xlot d ((n : Nat) : Int)) (a1).toNat : Nat) : Int)) h9 = v2515 := by
                      rw [xtr_gap _a _f]
                      exact (‹v2515 = xtr (decide (a2 ≠ 0)) (xwf e d) (fun n => e 13 (a1).toNat - 1 - ((xdue d (xlot d ((n : Nat) : Int)) (a1).toNat : Nat) : Int)) u2517›).symm
                    have _vv : v2600 = e 13 (a1).toNat - 1 - ((xdue d (xlot d ((h9 : Nat) : Int)) (a1).toNat : Nat) : Int) := by omega
                    have _q : v2600 = xtr (decide (a2 ≠ 0)) (xwf e d) (fun n => e 13 (a1).toNat - 1 - ((xdue d (xlot d ((n : Nat) : Int)) (a1).toNat : Nat) : Int)) (h9 + 1) := by
                      rw [xtr_y _c, _gp, ← _vv]
                      first
                      | rw [if_pos (Or.inl (by omega))]
                      | rw [if_pos (Or.inr (by rw [if_pos (decide_eq_true (by omega))]; omega))]
                      | rw [if_pos (Or.inr (by rw [if_neg (fun c9 => absurd (of_decide_eq_true c9) (by omega))]; omega))]
                      | rw [if_neg (fun c8 => by
                          rcases c8 with c8 | c8
                          · omega
                          · first
                            | (rw [if_pos (decide_eq_true (by omega))] at c8; omega)
                            | (rw [if_neg (fun c9 => absurd (of_decide_eq_true c9) (by omega))] at c8; omega))]
                      all_goals omega
                    refine wp_of e279 c279_106 (rw_iinc (pc' := 109) (z := v2514) (L' := [(5, vI (v2514 + 1)), (4, vI v2600), (6, vI v2600), (0, .ref r0), (1, vI a1), (2, vI a2)]) rfl rfl rfl rfl ?_)
                    refine wp_of e279 c279_109 (rw_goto (p1 := 31) (by decide) ?_)
                    have k2616 : H2561 r0 29 = H2516 r0 29 := (f2566 r0 29 _ g0 rfl)
                    have h2617 : KL T H2561 r0 (xwf e d) (xlots d).toNat := (KL_fr w2519 g0 f2566 rfl h2524)
                    exact wp_lc (ks := [5, 4, 6, 0, 1, 2]) (wl_c rfl (wl_c rfl (wl_c rfl (wl_c rfl (wl_c rfl wl_n))))) rfl (by decide) (ih2513 _ (by omega) (v2514 + 1) v2600 H2561 ((h9 + 1)) w2565 f2570 ⟨by omega, by omega⟩ ⟨by omega, by omega⟩ h2617 (by omega) (by omega) (by omega) (_q) rfl)
        exact wp_lc (ks := [5, 4, 3, 0, 1, 2]) (wl_c rfl (wl_c rfl (wl_c rfl (wl_c rfl (wl_c rfl wl_n))))) rfl (by decide) (lp2511 _ 0 0 H2079 0 w2083 wfr.rf ⟨by decide, by decide⟩ ⟨by decide, by decide⟩ h2111 (by omega) (by omega) (rfl) (rfl) rfl)
      · exfalso
        omega
    · have f2618 := f2056.tr f2084 rfl
      show wp _ _ 279 14 [(0, .ref r0), (1, vI a1), (2, vI a2)] [vI z2085] _ H2079 _
      refine wp_of e279 c279_14 (rw_istore_n (pc' := 15) (z := z2085) (L' := [(3, vI z2085), (0, .ref r0), (1, vI a1), (2, vI a2)]) rfl rfl rfl ?_)
      refine wp_of e279 c279_15 (rw_iload_n (pc' := 16) (z := z2085) rfl rfl ?_)
      refine wp_of e279 c279_16 (rw_if_le (p1 := 25) (p2 := 19) (by decide) rfl ⟨Int.le_trans (by decide) b2086.1, Int.le_trans b2086.2 (by decide)⟩ (fun c2619 => ?_) (fun c2619 => ?_))
      · exfalso
        omega
      · refine wp_of e279 c279_19 (rw_aload_n (pc' := 20) (v := .ref r0) rfl rfl rfl ?_)
        refine wp_of e279 c279_20 (rw_iload_n (pc' := 21) (z := z2085) rfl rfl ?_)
        refine wp_of e279 c279_21 (xc_V (pc' := 24) (r := r0) (as := [vI z2085]) (st := []) (lm_9_490) rfl rfl (Nat.le_of_ble_eq_true rfl) w2083 g0 sh_42 (by decide) rfl (by decide) (u_281  w2083 g0 ⟨Int.le_trans (by decide) b2086.1, Int.le_trans b2086.2 (by decide)⟩) (fun R2620 T2621 H2622 p2623 => ?_))
        obtain ⟨e2624, w2626, f2627, z2628, e2625, b2629, p2630⟩ := p2623
        subst e2624
        subst e2625
        obtain ⟨a2631, a2632, a2633⟩ := p2630
        have f2634 := f2618.tr f2627 rfl
        show wp _ _ 279 24 [(3, vI z2085), (0, .ref r0), (1, vI a1), (2, vI a2)] [vI z2628] _ H2622 _
        have k2635 : wKI H2622 r0 = wKI H2079 r0 := (wKI_fr w2083 g0 f2627 rfl)
        have h2636 : KNN T H2622 r0 e d := (KNN_fr w2083 g0 f2627 rfl a2104)
        exact wp_ireturn e279 c279_24 rfl ⟨rfl, w2626, f2634, z2628, rfl, ⟨b2629.1, b2629.2⟩, (Or.inl ⟨by omega, by omega, by omega, h2636⟩)⟩
  · show wp _ _ 279 11 [(0, .ref r0), (1, vI a1), (2, vI a2)] [vI z2066, .ref r0] _ H2053 _
    have k2637 : H2053 r0 3 = H r0 3 := (wq_u_j e2054 rfl)
    have k2638 : wKI H2053 r0 = wKI H r0 := (wKI_fr hW g0 ((wfr.rf (l := [(42, 0)])).put' e2054 g0 rfl) rfl)
    have h2639 : KNN T H2053 r0 e d := (KNN_fr hW g0 ((wfr.rf (l := [(42, 0)])).put' e2054 g0 rfl) rfl hKNN_r0)
    refine wp_of e279 c279_11 (xc_V (pc' := 14) (r := r0) (as := [vI z2066]) (st := []) (lm_9_447) rfl rfl (Nat.le_of_ble_eq_true rfl) w2055 g0 sh_42 (by decide) rfl (by decide) (u_253 (e := e) (d := d) w2055 g0 ⟨b2067.1, b2067.2⟩ (by omega) (by omega) (by assumption) (by assumption) (by assumption) (by assumption) h2058 h2639) (fun R2640 T2641 H2642 p2643 => ?_))
    obtain ⟨e2644, w2646, f2647, z2648, e2645, b2649, p2650⟩ := p2643
    subst e2644
    subst e2645
    rcases p2650 with ⟨a2651, a2652, a2653, a2654, a2655, a2656, a2657, a2658, a2659, a2660⟩ | ⟨a2661, a2662, a2663, a2664, a2665, a2666, a2667⟩
    · exfalso
      omega
    · have f2668 := f2056.tr f2647 rfl
      show wp _ _ 279 14 [(0, .ref r0), (1, vI a1), (2, vI a2)] [vI z2648] _ H2642 _
      refine wp_of e279 c279_14 (rw_istore_n (pc' := 15) (z := z2648) (L' := [(3, vI z2648), (0, .ref r0), (1, vI a1), (2, vI a2)]) rfl rfl rfl ?_)
      refine wp_of e279 c279_15 (rw_iload_n (pc' := 16) (z := z2648) rfl rfl ?_)
      refine wp_of e279 c279_16 (rw_if_le (p1 := 25) (p2 := 19) (by decide) rfl ⟨Int.le_trans (by decide) b2649.1, Int.le_trans b2649.2 (by decide)⟩ (fun c2669 => ?_) (fun c2669 => ?_))
      · exfalso
        omega
      · refine wp_of e279 c279_19 (rw_aload_n (pc' := 20) (v := .ref r0) rfl rfl rfl ?_)
        refine wp_of e279 c279_20 (rw_iload_n (pc' := 21) (z := z2648) rfl rfl ?_)
        refine wp_of e279 c279_21 (xc_V (pc' := 24) (r := r0) (as := [vI z2648]) (st := []) (lm_9_490) rfl rfl (Nat.le_of_ble_eq_true rfl) w2646 g0 sh_42 (by decide) rfl (by decide) (u_281  w2646 g0 ⟨Int.le_trans (by decide) b2649.1, Int.le_trans b2649.2 (by decide)⟩) (fun R2670 T2671 H2672 p2673 => ?_))
        obtain ⟨e2674, w2676, f2677, z2678, e2675, b2679, p2680⟩ := p2673
        subst e2674
        subst e2675
        obtain ⟨a2681, a2682, a2683⟩ := p2680
        have f2684 := f2668.tr f2677 rfl
        show wp _ _ 279 24 [(3, vI z2648), (0, .ref r0), (1, vI a1), (2, vI a2)] [vI z2678] _ H2672 _
        have k2685 : wKI H2672 r0 = wKI H2642 r0 := (wKI_fr w2646 g0 f2677 rfl)
        have h2686 : KNN T H2672 r0 e d := (KNN_fr w2646 g0 f2677 rfl a2667)
        exact wp_ireturn e279 c279_24 rfl ⟨rfl, w2676, f2684, z2678, rfl, ⟨b2679.1, b2679.2⟩, (Or.inl ⟨by omega, by omega, by omega, h2686⟩)⟩
/-! StrikeAwakeModel.nothing()I  -/
abbrev uq_282 (r0 : Nat) (e : xD) (d : xD) (T : wq_T) (H : wq_H) : Option Value → wq_T → wq_H → Prop := fun r T' H' => T = T' ∧ WT T H' ∧ wfr [(42, 0), (42, 1), (42, 2), (42, 28), (42, 29), (51, 999), (52, 999)] T H H' ∧ ∃ z : Int, some (vI z) = r ∧ ((-2147483648) ≤ z ∧ z ≤ 2147483647) ∧ (((wKI H' r0 = 1) ∧ KNN T H' r0 e d))
set_option maxHeartbeats 4000000 in
theorem u_282 {kt : Nat → Option mc_E} {T : wq_T} {H : wq_H} {r0 : Nat} {e : xD} {d : xD} (hW : WT T H) (g0 : T.2.2.2 r0 = some 42) (p0 : wKI H r0 = 1) (p1 : XW d) (p2 : ∀ h : Nat, d 0 0 ≤ (h : Int) → h < 24 → e 13 h = 0) (p3 : XN d) (p4 : ∀ h : Nat, h < 24 → 0 ≤ e 13 h ∧ e 13 h ≤ 100) (hRB_r0 : RB T H r0 e d) (hKNN_r0 : KNN T H r0 e d) : wpc kt 8 282 [.ref r0] T H (uq_282 r0 e d T H) := by
  refine wp_enter e282 (Nat.le_of_ble_eq_true rfl) rfl ?_
  have f0 : wfr [(42, 0), (42, 1), (42, 2), (42, 28), (42, 29), (51, 999), (52, 999)] T H H := wfr.rf
  show wp _ _ 282 0 [(0, .ref r0)] [] _ H _
  have _b := RB_b hW hRB_r0
  have _nu := RB_n3 hRB_r0
  have _lm := RB_lm hRB_r0
  refine wp_of e282 c282_0 (rw_aload_n (pc' := 1) (v := .ref r0) rfl rfl rfl ?_)
  refine wp_of e282 c282_1 (rw_iconst (pc' := 2) rfl ?_)
  refine wp_of e282 c282_2 (xp_I (pc' := 5) lf_9_48 hW g0 sh_42 (by decide) (by decide) ty_42_0 rfl rfl (by decide) (by decide) ⟨by decide, by decide⟩ rfl (fun H5525 e5526 w5527 => ?_))
  have f5528 := f0.put' e5526 g0 rfl
  have k5529 : H5525 r0 0 = 0 := wq_u_s e5526
  refine wp_of e282 c282_5 (rw_aload_n (pc' := 6) (v := .ref r0) rfl rfl rfl ?_)
  refine wp_of e282 c282_6 (rw_aload_n (pc' := 7) (v := .ref r0) rfl rfl rfl ?_)
  have k5530 : H5525 r0 3 = H r0 3 := (wq_u_j e5526 rfl)
  refine wp_of e282 c282_7 (xg_O (pc' := 10) lf_9_337 w5527 g0 sh_42 (by decide) (by decide) ty_42_3 rfl rfl (fun q5532 => ?_) (fun r5531 q5532 g5533 => ?_))
  · refine wp_of e282 c282_10 (rw_ifnull_n (p1 := 17) (p2 := 13) (by decide) rfl ?_)
    refine wp_of e282 c282_17 (rw_iconst (pc' := 18) rfl ?_)
    have k5534 : wKI H5525 r0 = wKI H r0 := (wKI_fr hW g0 ((wfr.rf (l := [(42, 0)])).put' e5526 g0 rfl) rfl)
    have h5535 : RB T H5525 r0 e d := (RB_fr hW g0 ((wfr.rf (l := [(42, 0)])).put' e5526 g0 rfl) rfl hRB_r0)
    have h5536 : KNN T H5525 r0 e d := (KNN_fr hW g0 ((wfr.rf (l := [(42, 0)])).put' e5526 g0 rfl) rfl hKNN_r0)
    refine wp_of e282 c282_18 (xc_V (pc' := 21) (r := r0) (as := [vI 0]) (st := []) (lm_9_433) rfl rfl (Nat.le_of_ble_eq_true rfl) w5527 g0 sh_42 (by decide) rfl (by decide) (u_241 (e := e) (d := d) w5527 g0 ⟨by decide, by decide⟩ (by omega) (by omega) (by assumption) (by assumption) (by assumption) (by assumption) h5535 h5536) (fun R5537 T5538 H5539 p5540 => ?_))
    obtain ⟨e5541, w5543, f5544, z5545, e5542, b5546, p5547⟩ := p5540
    subst e5541
    subst e5542
    rcases p5547 with ⟨a5548, a5549, a5550, a5551, a5552, a5553, a5554, a5555, a5556⟩ | ⟨a5557, a5558, a5559, a5560, a5561, a5562, a5563⟩
    · exfalso
      omega
    · have f5564 := f5528.tr f5544 rfl
      show wp _ _ 282 21 [(0, .ref r0)] [vI z5545] _ H5539 _
      have k5565 : wLM H5539 r0 = wLM H r0 := ((wLM_fr w5527 g0 f5544 rfl).trans (wLM_fr hW g0 ((wfr.rf (l := [(42, 0)])).put' e5526 g0 rfl) rfl))
      refine wp_of e282 c282_21 (rw_istore_n (pc' := 22) (z := z5545) (L' := [(1, vI z5545), (0, .ref r0)]) rfl rfl rfl ?_)
      refine wp_of e282 c282_22 (rw_iload_n (pc' := 23) (z := z5545) rfl rfl ?_)
      refine wp_of e282 c282_23 (rw_if_le (p1 := 32) (p2 := 26) (by decide) rfl ⟨Int.le_trans (by decide) b5546.1, Int.le_trans b5546.2 (by decide)⟩ (fun c5566 => ?_) (fun c5566 => ?_))
      · exfalso
        omega
      · refine wp_of e282 c282_26 (rw_aload_n (pc' := 27) (v := .ref r0) rfl rfl rfl ?_)
        refine wp_of e282 c282_27 (rw_iload_n (pc' := 28) (z := z5545) rfl rfl ?_)
        refine wp_of e282 c282_28 (xc_V (pc' := 31) (r := r0) (as := [vI z5545]) (st := []) (lm_9_54) rfl rfl (Nat.le_of_ble_eq_true rfl) w5543 g0 sh_42 (by decide) rfl (by decide) (s_170 w5543 g0 ⟨Int.le_trans (by decide) b5546.1, Int.le_trans b5546.2 (by decide)⟩) (fun R5567 T5568 H5569 p5570 => ?_))
        obtain ⟨e5571, w5573, f5574, z5575, e5572, b5576⟩ := p5570
        subst e5571
        subst e5572
        have f5577 := f5564.tr f5574 rfl
        show wp _ _ 282 31 [(1, vI z5545), (0, .ref r0)] [vI z5575] _ H5569 _
        have k5578 : wKI H5569 r0 = wKI H5539 r0 := (wKI_fr w5543 g0 f5574 rfl)
        have h5579 : KNN T H5569 r0 e d := (KNN_fr w5543 g0 f5574 rfl a5563)
        exact wp_ireturn e282 c282_31 rfl ⟨rfl, w5573, f5577, z5575, rfl, ⟨b5576.1, b5576.2⟩, ⟨by omega, h5579⟩⟩
  · refine wp_of e282 c282_10 (rw_ifnull_r (p1 := 17) (p2 := 13) (by decide) rfl ?_)
    refine wp_of e282 c282_13 (rw_iconst (pc' := 14) rfl ?_)
    refine wp_of e282 c282_14 (rw_goto (p1 := 18) (by decide) ?_)
    have k5580 : wKI H5525 r0 = wKI H r0 := (wKI_fr hW g0 ((wfr.rf (l := [(42, 0)])).put' e5526 g0 rfl) rfl)
    have h5581 : RB T H5525 r0 e d := (RB_fr hW g0 ((wfr.rf (l := [(42, 0)])).put' e5526 g0 rfl) rfl hRB_r0)
    have h5582 : KNN T H5525 r0 e d := (KNN_fr hW g0 ((wfr.rf (l := [(42, 0)])).put' e5526 g0 rfl) rfl hKNN_r0)
    refine wp_of e282 c282_18 (xc_V (pc' := 21) (r := r0) (as := [vI 1]) (st := []) (lm_9_433) rfl rfl (Nat.le_of_ble_eq_true rfl) w5527 g0 sh_42 (by decide) rfl (by decide) (u_241 (e := e) (d := d) w5527 g0 ⟨by decide, by decide⟩ (by omega) (by omega) (by assumption) (by assumption) (by assumption) (by assumption) h5581 h5582) (fun R5583 T5584 H5585 p5586 => ?_))
    obtain ⟨e5587, w5589, f5590, z5591, e5588, b5592, p5593⟩ := p5586
    subst e5587
    subst e5588
    rcases p5593 with ⟨a5594, a5595, a5596, a5597, a5598, a5599, a5600, a5601, a5602⟩ | ⟨a5603, a5604, a5605, a5606, a5607, a5608, a5609⟩
    · have f5610 := f5528.tr f5590 rfl
      show wp _ _ 282 21 [(0, .ref r0)] [vI z5591] _ H5585 _
      have k5611 : wLM H5585 r0 = wLM H r0 := ((wLM_fr w5527 g0 f5590 rfl).trans (wLM_fr hW g0 ((wfr.rf (l := [(42, 0)])).put' e5526 g0 rfl) rfl))
      refine wp_of e282 c282_21 (rw_istore_n (pc' := 22) (z := z5591) (L' := [(1, vI z5591), (0, .ref r0)]) rfl rfl rfl ?_)
      refine wp_of e282 c282_22 (rw_iload_n (pc' := 23) (z := z5591) rfl rfl ?_)
      refine wp_of e282 c282_23 (rw_if_le (p1 := 32) (p2 := 26) (by decide) rfl ⟨Int.le_trans (by decide) b5592.1, Int.le_trans b5592.2 (by decide)⟩ (fun c5612 => ?_) (fun c5612 => ?_))
      · refine wp_of e282 c282_32 (rw_iconst (pc' := 33) rfl ?_)
        refine wp_of e282 c282_33 (rw_istore_n (pc' := 34) (z := 0) (L' := [(2, vI 0), (1, vI z5591), (0, .ref r0)]) rfl rfl rfl ?_)
        refine wp_of e282 c282_34 (rw_iconst (pc' := 35) rfl ?_)
        refine wp_of e282 c282_35 (rw_istore_n (pc' := 36) (z := 0) (L' := [(3, vI 0), (2, vI 0), (1, vI z5591), (0, .ref r0)]) rfl rfl rfl ?_)
        have lp7557 : ∀ (n7558 : Nat) (v7560 : Int) (v7561 : Int) (H7562 : wq_H), WT T H7562 → wfr [(51, 999)] T H5585 H7562 → (0 ≤ v7560 ∧ v7560 ≤ 20000) → (0 ≤ v7561 ∧ v7561 ≤ 16777215) → (20000 - v7560).toNat = n7558 → wp kt 7 282 36 [(3, vI v7560), (2, vI v7561), (0, .ref r0)] [] T H7562 (uq_282 r0 e d T H) := by
          intro n7558
          induction n7558 using Nat.strongRecOn with
          | _ n7558 ih7559 =>
            intro v7560 v7561 H7562 w7563 f7564 b7565 b7566 m7567
            have f7568 := f5610.tr f7564 rfl
            refine wp_of e282 c282_36 (rw_iload_n (pc' := 37) (z := v7560) rfl rfl ?_)
            refine wp_of e282 c282_37 (rw_i2l (pc' := 38) rfl ⟨Int.le_trans (by decide) b7565.1, Int.le_trans b7565.2 (by decide)⟩ ?_)
            have k7569 : wLM H7562 r0 = wLM H5585 r0 := (wLM_fr w5589 g0 f7564 rfl)
            refine wp_of e282 c282_38 (rw_aload_n (pc' := 39) (v := .ref r0) rfl rfl rfl ?_)
            have k7570 : H7562 r0 3 = H5525 r0 3 := ((f7564 r0 3 _ g0 rfl).trans (f5590 r0 3 _ g0 rfl))
            have q7571 : H7562 r0 3 = (r5531 : Int) := k7570.trans q5532
            refine wp_of e282 c282_39 (xc_V (pc' := 42) (r := r0) (as := []) (st := [vL v7560]) (lm_9_376) rfl rfl (Nat.le_of_ble_eq_true rfl) w7563 g0 sh_42 (by decide) rfl (by decide) (s_220 w7563 g0 q7571 g5533) (fun R7572 T7573 H7574 p7575 => ?_))
            obtain ⟨e7576, e7578, z7580, e7577, b7581, p7579⟩ := p7575
            subst e7576
            subst e7577
            subst e7578
            show wp _ _ 282 42 [(3, vI v7560), (2, vI v7561), (0, .ref r0)] [vL z7580, vL v7560] _ H7562 _
            refine wp_of e282 c282_42 (rw_lcmp (pc' := 43) rfl ⟨Int.le_trans (by decide) b7565.1, Int.le_trans b7565.2 (by decide)⟩ ⟨Int.le_trans (by decide) b7581.1, Int.le_trans b7581.2 (by decide)⟩ ?_)
            have b7582 := wq_cmp_b v7560 z7580
            refine wp_of e282 c282_43 (rw_if_ge (p1 := 116) (p2 := 46) (by decide) rfl ⟨by omega, by omega⟩ (fun c7583 => ?_) (fun c7583 => ?_))
            · refine wp_of e282 c282_116 (rw_aload_n (pc' := 117) (v := .ref r0) rfl rfl rfl ?_)
              refine wp_of e282 c282_117 (rw_iload_n (pc' := 118) (z := v7561) rfl rfl ?_)
              refine wp_of e282 c282_118 (xc_V (pc' := 121) (r := r0) (as := [vI v7561]) (st := []) (lm_9_58) rfl rfl (Nat.le_of_ble_eq_true rfl) w7563 g0 sh_42 (by decide) rfl (by decide) (s_209 w7563 g0 ⟨Int.le_trans (by decide) b7566.1, Int.le_trans b7566.2 (by decide)⟩) (fun R7584 T7585 H7586 p7587 => ?_))
              obtain ⟨e7588, w7590, f7591, z7592, e7589, b7593⟩ := p7587
              subst e7588
              subst e7589
              have f7594 := f7568.tr f7591 rfl
              show wp _ _ 282 121 [(3, vI v7560), (2, vI v7561), (0, .ref r0)] [vI z7592] _ H7586 _
              have k7595 : wKI H7586 r0 = wKI H5585 r0 := ((wKI_fr w7563 g0 f7591 rfl).trans (wKI_fr w5589 g0 f7564 rfl))
              have h7596 : KNN T H7586 r0 e d := (KNN_fr w7563 g0 f7591 rfl (KNN_fr w5589 g0 f7564 rfl a5601))
              exact wp_ireturn e282 c282_121 rfl ⟨rfl, w7590, f7594, z7592, rfl, ⟨b7593.1, b7593.2⟩, ⟨by omega, h7596⟩⟩
            · refine wp_of e282 c282_46 (rw_aload_n (pc' := 47) (v := .ref r0) rfl rfl rfl ?_)
              refine wp_of e282 c282_47 (rw_iload_n (pc' := 48) (z := v7560) rfl rfl ?_)
              refine wp_of e282 c282_48 (xc_V (pc' := 51) (r := r0) (as := [vI v7560]) (st := []) (lm_9_425) rfl rfl (Nat.le_of_ble_eq_true rfl) w7563 g0 sh_42 (by decide) rfl (by decide) (s_243 w7563 g0 ⟨b7565.1, Int.le_trans b7565.2 (by decide)⟩ q7571 g5533 (by omega)) (fun R7597 T7598 H7599 p7600 => ?_))
              obtain ⟨e7601, w7603, f7604, e7602⟩ := p7600
              subst e7601
              subst e7602
              have f7605 := f7568.tr f7604 rfl
              have f7606 := f7564.tr f7604 rfl
              show wp _ _ 282 51 [(3, vI v7560), (2, vI v7561), (0, .ref r0)] [] _ H7599 _
              refine wp_of e282 c282_51 (rw_aload_n (pc' := 52) (v := .ref r0) rfl rfl rfl ?_)
              refine wp_of e282 c282_52 (rw_aload_n (pc' := 53) (v := .ref r0) rfl rfl rfl ?_)
              refine wp_of e282 c282_53 (xg_R (pc' := 56) lf_9_39 w7603 g0 sh_42 (by decide) (by decide) ty_42_27 rfl rfl (fun r7607 q7608 g7609 => ?_))
              have k7610 : H7599 r0 3 = H7562 r0 3 := (f7604 r0 3 _ g0 rfl)
              have q7611 : H7599 r0 3 = (r5531 : Int) := k7610.trans q7571
              refine wp_of e282 c282_56 (xc_V (pc' := 59) (r := r0) (as := [.ref r7607]) (st := []) (lm_9_393) rfl rfl (Nat.le_of_ble_eq_true rfl) w7603 g0 sh_42 (by decide) rfl (by decide) (s_235_m_lot w7603 g0 g7609 q7611 g5533) (fun R7612 T7613 H7614 p7615 => ?_))
              obtain ⟨e7616, e7618, z7619, e7617, b7620⟩ := p7615
              subst e7616
              subst e7617
              subst e7618
              show wp _ _ 282 59 [(3, vI v7560), (2, vI v7561), (0, .ref r0)] [vI z7619] _ H7599 _
              refine wp_of e282 c282_59 (rw_if_eq (p1 := 65) (p2 := 62) (by decide) rfl ⟨b7620.1, b7620.2⟩ (fun c7621 => ?_) (fun c7621 => ?_))
              · refine wp_of e282 c282_65 (rw_iconst (pc' := 66) rfl ?_)
                refine wp_of e282 c282_66 (rw_istore (pc' := 68) (z := 0) (L' := [(4, vI 0), (3, vI v7560), (2, vI v7561), (0, .ref r0)]) rfl rfl rfl ?_)
                have lp7806 : ∀ (n7807 : Nat) (v7809 : Int) (v7810 : Int), (0 ≤ v7809 ∧ v7809 ≤ 24) → (0 ≤ v7810 ∧ v7810 ≤ 16777215) → (24 - v7809).toNat = n7807 → wp kt 7 282 68 [(4, vI v7809), (2, vI v7810), (3, vI v7560), (0, .ref r0)] [] T H7599 (uq_282 r0 e d T H) := by
                  intro n7807
                  induction n7807 using Nat.strongRecOn with
                  | _ n7807 ih7808 =>
                    intro v7809 v7810 b7813 b7814 m7815
                    refine wp_of e282 c282_68 (rw_iload (pc' := 70) (z := v7809) rfl rfl ?_)
                    refine wp_of e282 c282_70 (rw_aload_n (pc' := 71) (v := .ref r0) rfl rfl rfl ?_)
                    refine wp_of e282 c282_71 (xg_K (pc' := 74) lf_9_337 w7603 g0 sh_42 (by decide) (by decide) rfl q7611 rfl ?_)
                    refine wp_of e282 c282_74 (xg_I (pc' := 77) lf_9_185 w7603 g5533 sh_54 (by decide) (by decide) ty_54_0 rfl rfl (fun b7816 b7817 => ?_))
                    refine wp_of e282 c282_77 (rw_icmp_ge (p1 := 110) (p2 := 80) (by decide) rfl ⟨Int.le_trans (by decide) b7813.1, Int.le_trans b7813.2 (by decide)⟩ ⟨Int.le_trans (by decide) b7816, Int.le_trans b7817 (by decide)⟩ (fun c7818 => ?_) (fun c7818 => ?_))
                    · refine wp_of e282 c282_110 (rw_iinc (pc' := 113) (z := v7560) (L' := [(3, vI (v7560 + 1)), (4, vI v7809), (2, vI v7810), (0, .ref r0)]) rfl rfl rfl rfl ?_)
                      refine wp_of e282 c282_113 (rw_goto (p1 := 36) (by decide) ?_)
                      exact wp_lc (ks := [3, 4, 2, 0]) (wl_c rfl (wl_c rfl (wl_c rfl wl_n))) rfl (by decide) (ih7559 _ (by omega) (v7560 + 1) v7810 H7599 w7603 f7606 ⟨by omega, by omega⟩ ⟨b7814.1, b7814.2⟩ rfl)
                    · refine wp_of e282 c282_80 (rw_iload_n (pc' := 81) (z := v7810) rfl rfl ?_)
                      refine wp_of e282 c282_81 (rw_aload_n (pc' := 82) (v := .ref r0) rfl rfl rfl ?_)
                      refine wp_of e282 c282_82 (rw_aload_n (pc' := 83) (v := .ref r0) rfl rfl rfl ?_)
                      refine wp_of e282 c282_83 (xg_K (pc' := 86) lf_9_39 w7603 g0 sh_42 (by decide) (by decide) rfl q7608 rfl ?_)
                      refine wp_of e282 c282_86 (rw_iload (pc' := 88) (z := v7809) rfl rfl ?_)
                      refine wp_of e282 c282_88 (xc_V (pc' := 91) (r := r0) (as := [.ref r7607, vI v7809]) (st := [vI v7810]) (lm_9_386) rfl rfl (Nat.le_of_ble_eq_true rfl) w7603 g0 sh_42 (by decide) rfl (by decide) (s_228_m_lot w7603 g0 g7609 ⟨Int.le_trans (by decide) b7813.1, Int.le_trans b7813.2 (by decide)⟩ q7611 g5533) (fun R7819 T7820 H7821 p7822 => ?_))
                      obtain ⟨e7823, e7825, z7826, e7824, b7827⟩ := p7822
                      subst e7823
                      subst e7824
                      subst e7825
                      show wp _ _ 282 91 [(4, vI v7809), (2, vI v7810), (3, vI v7560), (0, .ref r0)] [vI z7826, vI v7810] _ H7599 _
                      refine wp_of e282 c282_91 (rw_if_ne (p1 := 101) (p2 := 94) (by decide) rfl ⟨b7827.1, b7827.2⟩ (fun c7828 => ?_) (fun c7828 => ?_))
                      · refine wp_of e282 c282_101 (rw_iconst (pc' := 102) rfl ?_)
                        refine wp_of e282 c282_102 (rw_ior (pc' := 103) rfl ?_)
                        obtain ⟨v7829, e7830⟩ : ∃ x : Int, x = wq_or v7810 0 := ⟨_, rfl⟩
                        rw [← e7830]
                        have b7831 : 0 ≤ v7829 ∧ v7829 ≤ 16777215 := by
                          rw [e7830]
                          exact wq_or_24 ⟨by omega, by omega⟩ ⟨by omega, by omega⟩
                        refine wp_of e282 c282_103 (rw_istore_n (pc' := 104) (z := v7829) (L' := [(2, vI v7829), (4, vI v7809), (3, vI v7560), (0, .ref r0)]) rfl rfl rfl ?_)
                        refine wp_of e282 c282_104 (rw_iinc (pc' := 107) (z := v7809) (L' := [(4, vI (v7809 + 1)), (2, vI v7829), (3, vI v7560), (0, .ref r0)]) rfl rfl rfl rfl ?_)
                        refine wp_of e282 c282_107 (rw_goto (p1 := 68) (by decide) ?_)
                        exact wp_lc (ks := [4, 2, 3, 0]) (wl_c rfl (wl_c rfl (wl_c rfl (wl_c rfl wl_n)))) rfl (by decide) (ih7808 _ (by omega) (v7809 + 1) v7829 ⟨by omega, by omega⟩ ⟨b7831.1, b7831.2⟩ rfl)
                      · refine wp_of e282 c282_94 (rw_iconst (pc' := 95) rfl ?_)
                        refine wp_of e282 c282_95 (rw_iload (pc' := 97) (z := v7809) rfl rfl ?_)
                        refine wp_of e282 c282_97 (rw_ishl (pc' := 98) rfl ?_)
                        obtain ⟨v7832, e7833⟩ : ∃ x : Int, x = wq_shl 1 v7809 := ⟨_, rfl⟩
                        rw [← e7833]
                        have b7834 : 1 ≤ v7832 ∧ v7832 ≤ 8388608 := by
                          rw [e7833]
                          exact wq_shl1_24 ⟨by omega, by omega⟩
                        refine wp_of e282 c282_98 (rw_goto (p1 := 102) (by decide) ?_)
                        refine wp_of e282 c282_102 (rw_ior (pc' := 103) rfl ?_)
                        obtain ⟨v7835, e7836⟩ : ∃ x : Int, x = wq_or v7810 v7832 := ⟨_, rfl⟩
                        rw [← e7836]
                        have b7837 : 0 ≤ v7835 ∧ v7835 ≤ 16777215 := by
                          rw [e7836]
                          exact wq_or_24 ⟨by omega, by omega⟩ ⟨by omega, by omega⟩
                        refine wp_of e282 c282_103 (rw_istore_n (pc' := 104) (z := v7835) (L' := [(2, vI v7835), (4, vI v7809), (3, vI v7560), (0, .ref r0)]) rfl rfl rfl ?_)
                        refine wp_of e282 c282_104 (rw_iinc (pc' := 107) (z := v7809) (L' := [(4, vI (v7809 + 1)), (2, vI v7835), (3, vI v7560), (0, .ref r0)]) rfl rfl rfl rfl ?_)
                        refine wp_of e282 c282_107 (rw_goto (p1 := 68) (by decide) ?_)
                        exact wp_lc (ks := [4, 2, 3, 0]) (wl_c rfl (wl_c rfl (wl_c rfl (wl_c rfl wl_n)))) rfl (by decide) (ih7808 _ (by omega) (v7809 + 1) v7835 ⟨by omega, by omega⟩ ⟨b7837.1, b7837.2⟩ rfl)
                exact wp_lc (ks := [4, 3, 2, 0]) (wl_c rfl (wl_c rfl (wl_c rfl (wl_c rfl wl_n)))) rfl (by decide) (lp7806 _ 0 v7561 ⟨by decide, by decide⟩ ⟨b7566.1, b7566.2⟩ rfl)
              · refine wp_of e282 c282_62 (rw_goto (p1 := 110) (by decide) ?_)
                refine wp_of e282 c282_110 (rw_iinc (pc' := 113) (z := v7560) (L' := [(3, vI (v7560 + 1)), (2, vI v7561), (0, .ref r0)]) rfl rfl rfl rfl ?_)
                refine wp_of e282 c282_113 (rw_goto (p1 := 36) (by decide) ?_)
                exact wp_lc (ks := [3, 2, 0]) (wl_c rfl (wl_c rfl (wl_c rfl wl_n))) rfl (by decide) (ih7559 _ (by omega) (v7560 + 1) v7561 H7599 w7603 f7606 ⟨by omega, by omega⟩ ⟨b7566.1, b7566.2⟩ rfl)
        exact wp_lc (ks := [3, 2, 1, 0]) (wl_c rfl (wl_c rfl (wl_c rfl wl_n))) rfl (by decide) (lp7557 _ 0 0 H5585 w5589 wfr.rf ⟨by decide, by decide⟩ ⟨by decide, by decide⟩ rfl)
      · exfalso
        omega
    · have f7838 := f5528.tr f5590 rfl
      show wp _ _ 282 21 [(0, .ref r0)] [vI z5591] _ H5585 _
      have k7839 : wLM H5585 r0 = wLM H r0 := ((wLM_fr w5527 g0 f5590 rfl).trans (wLM_fr hW g0 ((wfr.rf (l := [(42, 0)])).put' e5526 g0 rfl) rfl))
      refine wp_of e282 c282_21 (rw_istore_n (pc' := 22) (z := z5591) (L' := [(1, vI z5591), (0, .ref r0)]) rfl rfl rfl ?_)
      refine wp_of e282 c282_22 (rw_iload_n (pc' := 23) (z := z5591) rfl rfl ?_)
      refine wp_of e282 c282_23 (rw_if_le (p1 := 32) (p2 := 26) (by decide) rfl ⟨Int.le_trans (by decide) b5592.1, Int.le_trans b5592.2 (by decide)⟩ (fun c7840 => ?_) (fun c7840 => ?_))
      · exfalso
        omega
      · refine wp_of e282 c282_26 (rw_aload_n (pc' := 27) (v := .ref r0) rfl rfl rfl ?_)
        refine wp_of e282 c282_27 (rw_iload_n (pc' := 28) (z := z5591) rfl rfl ?_)
        refine wp_of e282 c282_28 (xc_V (pc' := 31) (r := r0) (as := [vI z5591]) (st := []) (lm_9_54) rfl rfl (Nat.le_of_ble_eq_true rfl) w5589 g0 sh_42 (by decide) rfl (by decide) (s_170 w5589 g0 ⟨Int.le_trans (by decide) b5592.1, Int.le_trans b5592.2 (by decide)⟩) (fun R7841 T7842 H7843 p7844 => ?_))
        obtain ⟨e7845, w7847, f7848, z7849, e7846, b7850⟩ := p7844
        subst e7845
        subst e7846
        have f7851 := f7838.tr f7848 rfl
        show wp _ _ 282 31 [(1, vI z5591), (0, .ref r0)] [vI z7849] _ H7843 _
        have k7852 : wKI H7843 r0 = wKI H5585 r0 := (wKI_fr w5589 g0 f7848 rfl)
        have h7853 : KNN T H7843 r0 e d := (KNN_fr w5589 g0 f7848 rfl a5609)
        exact wp_ireturn e282 c282_31 rfl ⟨rfl, w7847, f7851, z7849, rfl, ⟨b7850.1, b7850.2⟩, ⟨by omega, h7853⟩⟩
