/-! THE LAW, GONE ON WITH (own work) -/
set_option maxHeartbeats 4000000 in
theorem wl_c16 {kt : Nat → Option mc_E} {CB SB : Nat} {X : mc_S → Prop} {T : wq_T} {H : wq_H} {Len x m o : Nat} {i : Int} (hX : wlX kt CB SB X) (hb : T.2.1 ≤ CB ∧ T.2.2.1 ≤ SB) (hI : wlJ Len x m o T H) (hL : Len ≤ 3072) (hi : 0 ≤ i ∧ i + 6 ≤ Len) (hb2 : T.2.1 + 20 ≤ CB ∧ T.2.2.1 + 500 ≤ SB)  (next : ∀ T' H', wlJ Len x m o T' H' → T'.2.1 ≤ T.2.1 + 20 → T'.2.2.1 ≤ T.2.2.1 + 500 → WL kt CB SB X 1653 (wlL i x m o) [] T' H') : WL kt CB SB X 668 (wlL i x m o) [] T H := by
  obtain ⟨⟨hW, g0, gx, gm, go, hK, hr⟩, hXI, hY1, hY2⟩ := hI
  refine wl_of hX hb cL_668 (rw_aload_n (pc' := 669) (v := .ref x) rfl rfl rfl ?_)
  refine wl_of hX hb cL_669 (rw_aload_n (pc' := 670) (v := .ref 0) rfl rfl rfl ?_)
  refine wl_of hX hb cL_670 (rw_iload (pc' := 672) (z := i) rfl rfl ?_)
  refine wl_of hX hb cL_672 (rw_iconst (pc' := 673) rfl ?_)
  refine wl_of hX hb cL_673 (rw_iadd (pc' := 674) rfl ?_)
  refine wl_of hX hb cL_674 (xa_I (so := 0) (pc' := 675) (a := 0) hW g0 (wsh_s _) (by omega) (wty_s _ _) (by omega) (by omega) rfl (fun b3008 b3009 => ?_))
  refine wl_of hX hb cL_675 (rw_aload_n (pc' := 676) (v := .ref 0) rfl rfl rfl ?_)
  refine wl_of hX hb cL_676 (rw_iload (pc' := 678) (z := i) rfl rfl ?_)
  refine wl_of hX hb cL_678 (rw_iconst (pc' := 679) rfl ?_)
  refine wl_of hX hb cL_679 (rw_iadd (pc' := 680) rfl ?_)
  refine wl_of hX hb cL_680 (xa_I (so := 0) (pc' := 681) (a := 0) hW g0 (wsh_s _) (by omega) (wty_s _ _) (by omega) (by omega) rfl (fun b3010 b3011 => ?_))
  obtain ⟨B, tc, tm, cu, dr, C8, e8, d8, n8, g8, ce8, e0, gtc, htc, em, gtm, htm, ecu, gcu, edr, gdr, hcu, hdr, hdec, hded, hsp, hC1, hC2, hcu8, hrb8, hcg8, hmn8, hE, hZ, hn8, hXA, hV8, hSG, ece8, gce8, hcen8, hhdr8, hknn8, -⟩ := hXI
  have hN3 := RB_n3 hrb8
  have hE13 : ∀ h : Nat, h < 24 → 0 ≤ e8 13 h ∧ e8 13 h ≤ 100 := fun k hk => by
    obtain ⟨s, h1, h2, h3⟩ := hcu8.1.2.2.1
    exact ⟨(h3 k hk).1, (h3 k hk).2.1⟩
  have hXW := hXA.1
  have hXN := hXA.2
  have hE0 : e8 0 3 = d8 0 3 ∧ e8 0 0 = d8 0 0 := by
    have h := hE 0 (by decide)
    exact ⟨congrFun h 3, congrFun h 0⟩
  have u3012 := CU_k hcu8
  have h3013 : CY T H cu (d8 0 3) g8 (H cu 17) := ⟨hcg8, rfl⟩
  have h3014 : RY T H m (d8 0 3) g8 (H m 32) := ⟨hmn8, rfl⟩
  obtain ⟨t9, ht9⟩ : ∃ t : Int, t = H x 9 := ⟨_, rfl⟩
  obtain ⟨y9, hy9⟩ : ∃ y : Int, y = H 0 ((i + 2).toNat) := ⟨_, rfl⟩
  obtain ⟨r3015, q3016, g3017⟩ := hW.ref gx (t' := 6) (n := 13) (j := 2) (p := 0) (q := 0) rfl (by decide) rfl
  refine wl_of hX hb cL_681 (xc_V (pc' := 684) (r := x) (as := [vI (H 0 ((i + 1).toNat)), vI (H 0 ((i + 2).toNat))]) (st := []) (lm_11_88) rfl rfl (Nat.le_of_ble_eq_true rfl) hW gx sh_1 (by decide) rfl (by decide) (u_93 (e := e8) (d := d8) (n := n8) hW gx ⟨by omega, by omega⟩ ⟨by omega, by omega⟩ ecu gcu q3016 g3017 ece8 gce8 (by assumption) (by assumption) (by omega) (by omega) (by omega) (by omega) hcu8 hcen8 hhdr8) (fun R3018 T3019 H3020 p3021 => ?_))
  obtain ⟨e3022, w3024, f3025, z3026, e3023, b3027, p3028⟩ := p3021
  subst e3022
  subst e3023
  rcases p3028 with ⟨a3029, a3030, a3031⟩ | ⟨a3032, a3033, a3034⟩
  · show WL _ _ _ _ 684 [(4, vI i), (3, .ref o), (2, .ref m), (1, .ref x), (0, .ref 0)] [vI z3026] _ H3020
    refine wl_of hX hb cL_684 (rw_aload_n (pc' := 685) (v := .ref m) rfl rfl rfl ?_)
    refine wl_of hX hb cL_685 (rw_aload_n (pc' := 686) (v := .ref 0) rfl rfl rfl ?_)
    refine wl_of hX hb cL_686 (rw_iload (pc' := 688) (z := i) rfl rfl ?_)
    refine wl_of hX hb cL_688 (rw_iconst (pc' := 689) rfl ?_)
    refine wl_of hX hb cL_689 (rw_iadd (pc' := 690) rfl ?_)
    have k3037 : H3020 0 ((i + 1).toNat) = H 0 ((i + 1).toNat) := (f3025 0 ((i + 1).toNat) _ g0 (wmem_s rfl))
    refine wl_of hX hb cL_690 (xa_I (so := 0) (pc' := 691) (a := 0) w3024 g0 (wsh_s _) (by omega) (wty_s _ _) (by omega) (by omega) rfl (fun b3035 b3036 => ?_))
    refine wl_of hX hb cL_691 (rw_aload_n (pc' := 692) (v := .ref 0) rfl rfl rfl ?_)
    refine wl_of hX hb cL_692 (rw_iload (pc' := 694) (z := i) rfl rfl ?_)
    refine wl_of hX hb cL_694 (rw_iconst (pc' := 695) rfl ?_)
    refine wl_of hX hb cL_695 (rw_iadd (pc' := 696) rfl ?_)
    have k3040 : H3020 0 ((i + 2).toNat) = H 0 ((i + 2).toNat) := (f3025 0 ((i + 2).toNat) _ g0 (wmem_s rfl))
    refine wl_of hX hb cL_696 (xa_I (so := 0) (pc' := 697) (a := 0) w3024 g0 (wsh_s _) (by omega) (wty_s _ _) (by omega) (by omega) rfl (fun b3038 b3039 => ?_))
    have k3041 : wKI H3020 m = wKI H m := (wKI_fr hW gm f3025 rfl)
    have k3042 : H3020 x 9 = H x 9 := (f3025 x 9 _ gx rfl)
    have k3043 : H3020 m 6 = H m 6 := (f3025 m 6 _ gm rfl)
    have k3044 : H3020 x 11 = H x 11 := (f3025 x 11 _ gx rfl)
    have k3045 : H3020 m 13 = H m 13 := (f3025 m 13 _ gm rfl)
    have k3046 : H3020 x 8 = H x 8 := (f3025 x 8 _ gx rfl)
    have k3047 : H3020 m 3 = H m 3 := (f3025 m 3 _ gm rfl)
    rw [show H3020 0 ((i + 2).toNat) = H 0 ((i + 2).toNat) by omega]
    rw [show H3020 0 ((i + 1).toNat) = H 0 ((i + 1).toNat) by omega]
    have h3048 : RB T H3020 m e8 d8 := (RB_fr hW gm f3025 rfl hrb8)
    have h3049 : KNN T H3020 m e8 d8 := (KNN_fr hW gm f3025 rfl hknn8)
    refine wl_of hX hb cL_697 (xc_V (pc' := 700) (r := m) (as := [vI (H 0 ((i + 1).toNat)), vI (H 0 ((i + 2).toNat))]) (st := [vI z3026]) (lm_11_92) rfl rfl (Nat.le_of_ble_eq_true rfl) w3024 gm sh_42 (by decide) rfl (by decide) (u_245 (e := e8) (d := d8) w3024 gm ⟨by omega, by omega⟩ ⟨by omega, by omega⟩ (by omega) (by assumption) (by assumption) (by assumption) (by assumption) h3048 h3049) (fun R3050 T3051 H3052 p3053 => ?_))
    obtain ⟨e3054, w3056, f3057, z3058, e3055, b3059, p3060⟩ := p3053
    subst e3054
    subst e3055
    rcases p3060 with ⟨a3061, a3062, a3063, a3064⟩ | ⟨a3065, a3066, a3067, a3068⟩
    · show WL _ _ _ _ 700 [(4, vI i), (3, .ref o), (2, .ref m), (1, .ref x), (0, .ref 0)] [vI z3058, vI z3026] _ H3052
      refine wl_of hX hb cL_700 (rw_icmp_eq (p1 := 1653) (p2 := 703) (by decide) rfl ⟨b3027.1, b3027.2⟩ ⟨b3059.1, b3059.2⟩ (fun c3069 => ?_) (fun c3069 => ?_))
      · have k3070 : H3052 x 9 = H3020 x 9 := (f3057 x 9 _ gx rfl)
        have k3071 : H3052 m 6 = H3020 m 6 := (f3057 m 6 _ gm rfl)
        have k3072 : H3052 x 11 = H3020 x 11 := (f3057 x 11 _ gx rfl)
        have k3073 : H3052 m 13 = H3020 m 13 := (f3057 m 13 _ gm rfl)
        have k3074 : H3052 x 8 = H3020 x 8 := (f3057 x 8 _ gx rfl)
        have k3075 : H3052 m 3 = H3020 m 3 := (f3057 m 3 _ gm rfl)
        have k3076 : H3052 x 0 = H x 0 := ((f3057 x 0 _ gx rfl).trans (f3025 x 0 _ gx rfl))
        have q3077 : H3052 x 0 = (tc : Int) := k3076.trans e0
        have k3078 : H3052 m 5 = H m 5 := ((f3057 m 5 _ gm rfl).trans (f3025 m 5 _ gm rfl))
        have q3079 : H3052 m 5 = (tm : Int) := k3078.trans em
        have k3080 : H3052 x 6 = H x 6 := ((f3057 x 6 _ gx rfl).trans (f3025 x 6 _ gx rfl))
        have q3081 : H3052 x 6 = (cu : Int) := k3080.trans ecu
        have k3082 : H3052 x 7 = H x 7 := ((f3057 x 7 _ gx rfl).trans (f3025 x 7 _ gx rfl))
        have q3083 : H3052 x 7 = (dr : Int) := k3082.trans edr
        have h3084 : CEN T H3052 ce8 e8 d8 := (CEN_fr w3024 gce8 f3057 rfl a3031)
        have h3085 : TP T H3052 tc B := (TP_fr w3024 gtc f3057 rfl (TP_fr hW gtc f3025 rfl htc))
        have h3086 : TM T H3052 tm B := (TM_fr w3024 gtm f3057 rfl (TM_fr hW gtm f3025 rfl htm))
        have h3087 : DD T H3052 cu  := (DD_fr w3024 gcu f3057 rfl (DD_fr hW gcu f3025 rfl hcu))
        have h3088 : DD T H3052 dr  := (DD_fr w3024 gdr f3057 rfl (DD_fr hW gdr f3025 rfl hdr))
        have h3089 : DE T H3052 cu  := (DE_fr w3024 gcu f3057 rfl (DE_fr hW gcu f3025 rfl hdec))
        have h3090 : DE T H3052 dr  := (DE_fr w3024 gdr f3057 rfl (DE_fr hW gdr f3025 rfl hded))
        have h3091 : SP T H3052 x C8 := (SP_fr w3024 gx f3057 rfl (SP_fr hW gx f3025 rfl hsp))
        have h3092 : CU T H3052 cu e8 d8 n8 := (CU_fr w3024 gcu f3057 rfl (CU_fr hW gcu f3025 rfl hcu8))
        have h3093 : CY T H3052 cu (d8 0 3) g8 (H cu 17) := (CY_fr w3024 gcu f3057 rfl (CY_fr hW gcu f3025 rfl h3013))
        have k3094 : H3052 x 3 = H x 3 := ((f3057 x 3 _ gx rfl).trans (f3025 x 3 _ gx rfl))
        have q3095 : H3052 x 3 = (ce8 : Int) := k3094.trans ece8
        have h3096 : HDR T H3052 ce8  := (HDR_fr w3024 gce8 f3057 rfl (HDR_fr hW gce8 f3025 rfl hhdr8))
        have h3097 : RY T H3052 m (d8 0 3) g8 (H m 32) := (RY_fr w3024 gm f3057 rfl (RY_fr hW gm f3025 rfl h3014))
        have h3098 : RB T H3052 m e8 d8 := (RB_fr w3024 gm f3057 rfl h3048)
        exact WL.loc hX (by simp) (next T H3052 ⟨⟨w3056, g0, gx, gm, go, by omega, by omega⟩, ⟨_, tc, tm, cu, dr, _, _, _, _, _, ce8, q3077, gtc, h3085, q3079, gtm, h3086, q3081, gcu, q3083, gdr, h3087, h3088, h3089, h3090, h3091, hC1, hC2, h3092, h3098, (h3093).1, (h3097).1, hE, hZ, (by omega), (by assumption), (by omega), (by first | assumption | exact SG_0), q3095, gce8, h3084, h3096, a3064, gm⟩, by omega, by omega⟩ (by omega) (by omega))
      · exfalso
        omega
    · show WL _ _ _ _ 700 [(4, vI i), (3, .ref o), (2, .ref m), (1, .ref x), (0, .ref 0)] [vI z3058, vI z3026] _ H3052
      refine wl_of hX hb cL_700 (rw_icmp_eq (p1 := 1653) (p2 := 703) (by decide) rfl ⟨b3027.1, b3027.2⟩ ⟨b3059.1, b3059.2⟩ (fun c3099 => ?_) (fun c3099 => ?_))
      · have k3100 : H3052 x 9 = H3020 x 9 := (f3057 x 9 _ gx rfl)
        have k3101 : H3052 m 6 = H3020 m 6 := (f3057 m 6 _ gm rfl)
        have k3102 : H3052 x 11 = H3020 x 11 := (f3057 x 11 _ gx rfl)
        have k3103 : H3052 m 13 = H3020 m 13 := (f3057 m 13 _ gm rfl)
        have k3104 : H3052 x 8 = H3020 x 8 := (f3057 x 8 _ gx rfl)
        have k3105 : H3052 m 3 = H3020 m 3 := (f3057 m 3 _ gm rfl)
        have k3106 : H3052 x 0 = H x 0 := ((f3057 x 0 _ gx rfl).trans (f3025 x 0 _ gx rfl))
        have q3107 : H3052 x 0 = (tc : Int) := k3106.trans e0
        have k3108 : H3052 m 5 = H m 5 := ((f3057 m 5 _ gm rfl).trans (f3025 m 5 _ gm rfl))
        have q3109 : H3052 m 5 = (tm : Int) := k3108.trans em
        have k3110 : H3052 x 6 = H x 6 := ((f3057 x 6 _ gx rfl).trans (f3025 x 6 _ gx rfl))
        have q3111 : H3052 x 6 = (cu : Int) := k3110.trans ecu
        have k3112 : H3052 x 7 = H x 7 := ((f3057 x 7 _ gx rfl).trans (f3025 x 7 _ gx rfl))
        have q3113 : H3052 x 7 = (dr : Int) := k3112.trans edr
        have h3114 : CEN T H3052 ce8 e8 d8 := (CEN_fr w3024 gce8 f3057 rfl a3031)
        have h3115 : TP T H3052 tc B := (TP_fr w3024 gtc f3057 rfl (TP_fr hW gtc f3025 rfl htc))
        have h3116 : TM T H3052 tm B := (TM_fr w3024 gtm f3057 rfl (TM_fr hW gtm f3025 rfl htm))
        have h3117 : DD T H3052 cu  := (DD_fr w3024 gcu f3057 rfl (DD_fr hW gcu f3025 rfl hcu))
        have h3118 : DD T H3052 dr  := (DD_fr w3024 gdr f3057 rfl (DD_fr hW gdr f3025 rfl hdr))
        have h3119 : DE T H3052 cu  := (DE_fr w3024 gcu f3057 rfl (DE_fr hW gcu f3025 rfl hdec))
        have h3120 : DE T H3052 dr  := (DE_fr w3024 gdr f3057 rfl (DE_fr hW gdr f3025 rfl hded))
        have h3121 : SP T H3052 x C8 := (SP_fr w3024 gx f3057 rfl (SP_fr hW gx f3025 rfl hsp))
        have h3122 : CU T H3052 cu e8 d8 n8 := (CU_fr w3024 gcu f3057 rfl (CU_fr hW gcu f3025 rfl hcu8))
        have h3123 : CY T H3052 cu (d8 0 3) g8 (H cu 17) := (CY_fr w3024 gcu f3057 rfl (CY_fr hW gcu f3025 rfl h3013))
        have k3124 : H3052 x 3 = H x 3 := ((f3057 x 3 _ gx rfl).trans (f3025 x 3 _ gx rfl))
        have q3125 : H3052 x 3 = (ce8 : Int) := k3124.trans ece8
        have h3126 : HDR T H3052 ce8  := (HDR_fr w3024 gce8 f3057 rfl (HDR_fr hW gce8 f3025 rfl hhdr8))
        have h3127 : RY T H3052 m (d8 0 3) g8 (H m 32) := (RY_fr w3024 gm f3057 rfl (RY_fr hW gm f3025 rfl h3014))
        have h3128 : RB T H3052 m e8 d8 := (RB_fr w3024 gm f3057 rfl h3048)
        exact WL.loc hX (by simp) (next T H3052 ⟨⟨w3056, g0, gx, gm, go, by omega, by omega⟩, ⟨_, tc, tm, cu, dr, _, _, _, _, _, ce8, q3107, gtc, h3115, q3109, gtm, h3116, q3111, gcu, q3113, gdr, h3117, h3118, h3119, h3120, h3121, hC1, hC2, h3122, h3128, (h3123).1, (h3127).1, hE, hZ, (by omega), (by assumption), (by omega), (by first | assumption | exact SG_0), q3125, gce8, h3114, h3126, a3068, gm⟩, by omega, by omega⟩ (by omega) (by omega))
      · refine wl_of hX hb cL_703 (rw_iconst (pc' := 704) rfl ?_)
        exfalso
        omega
  · show WL _ _ _ _ 684 [(4, vI i), (3, .ref o), (2, .ref m), (1, .ref x), (0, .ref 0)] [vI z3026] _ H3020
    refine wl_of hX hb cL_684 (rw_aload_n (pc' := 685) (v := .ref m) rfl rfl rfl ?_)
    refine wl_of hX hb cL_685 (rw_aload_n (pc' := 686) (v := .ref 0) rfl rfl rfl ?_)
    refine wl_of hX hb cL_686 (rw_iload (pc' := 688) (z := i) rfl rfl ?_)
    refine wl_of hX hb cL_688 (rw_iconst (pc' := 689) rfl ?_)
    refine wl_of hX hb cL_689 (rw_iadd (pc' := 690) rfl ?_)
    have k3131 : H3020 0 ((i + 1).toNat) = H 0 ((i + 1).toNat) := (f3025 0 ((i + 1).toNat) _ g0 (wmem_s rfl))
    refine wl_of hX hb cL_690 (xa_I (so := 0) (pc' := 691) (a := 0) w3024 g0 (wsh_s _) (by omega) (wty_s _ _) (by omega) (by omega) rfl (fun b3129 b3130 => ?_))
    refine wl_of hX hb cL_691 (rw_aload_n (pc' := 692) (v := .ref 0) rfl rfl rfl ?_)
    refine wl_of hX hb cL_692 (rw_iload (pc' := 694) (z := i) rfl rfl ?_)
    refine wl_of hX hb cL_694 (rw_iconst (pc' := 695) rfl ?_)
    refine wl_of hX hb cL_695 (rw_iadd (pc' := 696) rfl ?_)
    have k3134 : H3020 0 ((i + 2).toNat) = H 0 ((i + 2).toNat) := (f3025 0 ((i + 2).toNat) _ g0 (wmem_s rfl))
    refine wl_of hX hb cL_696 (xa_I (so := 0) (pc' := 697) (a := 0) w3024 g0 (wsh_s _) (by omega) (wty_s _ _) (by omega) (by omega) rfl (fun b3132 b3133 => ?_))
    have k3135 : wKI H3020 m = wKI H m := (wKI_fr hW gm f3025 rfl)
    have k3136 : H3020 x 9 = H x 9 := (f3025 x 9 _ gx rfl)
    have k3137 : H3020 m 6 = H m 6 := (f3025 m 6 _ gm rfl)
    have k3138 : H3020 x 11 = H x 11 := (f3025 x 11 _ gx rfl)
    have k3139 : H3020 m 13 = H m 13 := (f3025 m 13 _ gm rfl)
    have k3140 : H3020 x 8 = H x 8 := (f3025 x 8 _ gx rfl)
    have k3141 : H3020 m 3 = H m 3 := (f3025 m 3 _ gm rfl)
    rw [show H3020 0 ((i + 2).toNat) = H 0 ((i + 2).toNat) by omega]
    rw [show H3020 0 ((i + 1).toNat) = H 0 ((i + 1).toNat) by omega]
    have h3142 : RB T H3020 m e8 d8 := (RB_fr hW gm f3025 rfl hrb8)
    have h3143 : KNN T H3020 m e8 d8 := (KNN_fr hW gm f3025 rfl hknn8)
    refine wl_of hX hb cL_697 (xc_V (pc' := 700) (r := m) (as := [vI (H 0 ((i + 1).toNat)), vI (H 0 ((i + 2).toNat))]) (st := [vI z3026]) (lm_11_92) rfl rfl (Nat.le_of_ble_eq_true rfl) w3024 gm sh_42 (by decide) rfl (by decide) (u_245 (e := e8) (d := d8) w3024 gm ⟨by omega, by omega⟩ ⟨by omega, by omega⟩ (by omega) (by assumption) (by assumption) (by assumption) (by assumption) h3142 h3143) (fun R3144 T3145 H3146 p3147 => ?_))
    obtain ⟨e3148, w3150, f3151, z3152, e3149, b3153, p3154⟩ := p3147
    subst e3148
    subst e3149
    rcases p3154 with ⟨a3155, a3156, a3157, a3158⟩ | ⟨a3159, a3160, a3161, a3162⟩
    · show WL _ _ _ _ 700 [(4, vI i), (3, .ref o), (2, .ref m), (1, .ref x), (0, .ref 0)] [vI z3152, vI z3026] _ H3146
      refine wl_of hX hb cL_700 (rw_icmp_eq (p1 := 1653) (p2 := 703) (by decide) rfl ⟨b3027.1, b3027.2⟩ ⟨b3153.1, b3153.2⟩ (fun c3163 => ?_) (fun c3163 => ?_))
      · have k3164 : H3146 x 9 = H3020 x 9 := (f3151 x 9 _ gx rfl)
        have k3165 : H3146 m 6 = H3020 m 6 := (f3151 m 6 _ gm rfl)
        have k3166 : H3146 x 11 = H3020 x 11 := (f3151 x 11 _ gx rfl)
        have k3167 : H3146 m 13 = H3020 m 13 := (f3151 m 13 _ gm rfl)
        have k3168 : H3146 x 8 = H3020 x 8 := (f3151 x 8 _ gx rfl)
        have k3169 : H3146 m 3 = H3020 m 3 := (f3151 m 3 _ gm rfl)
        have k3170 : H3146 x 0 = H x 0 := ((f3151 x 0 _ gx rfl).trans (f3025 x 0 _ gx rfl))
        have q3171 : H3146 x 0 = (tc : Int) := k3170.trans e0
        have k3172 : H3146 m 5 = H m 5 := ((f3151 m 5 _ gm rfl).trans (f3025 m 5 _ gm rfl))
        have q3173 : H3146 m 5 = (tm : Int) := k3172.trans em
        have k3174 : H3146 x 6 = H x 6 := ((f3151 x 6 _ gx rfl).trans (f3025 x 6 _ gx rfl))
        have q3175 : H3146 x 6 = (cu : Int) := k3174.trans ecu
        have k3176 : H3146 x 7 = H x 7 := ((f3151 x 7 _ gx rfl).trans (f3025 x 7 _ gx rfl))
        have q3177 : H3146 x 7 = (dr : Int) := k3176.trans edr
        have h3178 : CEN T H3146 ce8 e8 d8 := (CEN_fr w3024 gce8 f3151 rfl a3034)
        have h3179 : TP T H3146 tc B := (TP_fr w3024 gtc f3151 rfl (TP_fr hW gtc f3025 rfl htc))
        have h3180 : TM T H3146 tm B := (TM_fr w3024 gtm f3151 rfl (TM_fr hW gtm f3025 rfl htm))
        have h3181 : DD T H3146 cu  := (DD_fr w3024 gcu f3151 rfl (DD_fr hW gcu f3025 rfl hcu))
        have h3182 : DD T H3146 dr  := (DD_fr w3024 gdr f3151 rfl (DD_fr hW gdr f3025 rfl hdr))
        have h3183 : DE T H3146 cu  := (DE_fr w3024 gcu f3151 rfl (DE_fr hW gcu f3025 rfl hdec))
        have h3184 : DE T H3146 dr  := (DE_fr w3024 gdr f3151 rfl (DE_fr hW gdr f3025 rfl hded))
        have h3185 : SP T H3146 x C8 := (SP_fr w3024 gx f3151 rfl (SP_fr hW gx f3025 rfl hsp))
        have h3186 : CU T H3146 cu e8 d8 n8 := (CU_fr w3024 gcu f3151 rfl (CU_fr hW gcu f3025 rfl hcu8))
        have h3187 : CY T H3146 cu (d8 0 3) g8 (H cu 17) := (CY_fr w3024 gcu f3151 rfl (CY_fr hW gcu f3025 rfl h3013))
        have k3188 : H3146 x 3 = H x 3 := ((f3151 x 3 _ gx rfl).trans (f3025 x 3 _ gx rfl))
        have q3189 : H3146 x 3 = (ce8 : Int) := k3188.trans ece8
        have h3190 : HDR T H3146 ce8  := (HDR_fr w3024 gce8 f3151 rfl (HDR_fr hW gce8 f3025 rfl hhdr8))
        have h3191 : RY T H3146 m (d8 0 3) g8 (H m 32) := (RY_fr w3024 gm f3151 rfl (RY_fr hW gm f3025 rfl h3014))
        have h3192 : RB T H3146 m e8 d8 := (RB_fr w3024 gm f3151 rfl h3142)
        exact WL.loc hX (by simp) (next T H3146 ⟨⟨w3150, g0, gx, gm, go, by omega, by omega⟩, ⟨_, tc, tm, cu, dr, _, _, _, _, _, ce8, q3171, gtc, h3179, q3173, gtm, h3180, q3175, gcu, q3177, gdr, h3181, h3182, h3183, h3184, h3185, hC1, hC2, h3186, h3192, (h3187).1, (h3191).1, hE, hZ, (by omega), (by assumption), (by omega), (by first | assumption | exact SG_0), q3189, gce8, h3178, h3190, a3158, gm⟩, by omega, by omega⟩ (by omega) (by omega))
      · refine wl_of hX hb cL_703 (rw_iconst (pc' := 704) rfl ?_)
        exfalso
        omega
    · show WL _ _ _ _ 700 [(4, vI i), (3, .ref o), (2, .ref m), (1, .ref x), (0, .ref 0)] [vI z3152, vI z3026] _ H3146
      refine wl_of hX hb cL_700 (rw_icmp_eq (p1 := 1653) (p2 := 703) (by decide) rfl ⟨b3027.1, b3027.2⟩ ⟨b3153.1, b3153.2⟩ (fun c3193 => ?_) (fun c3193 => ?_))
      · have k3194 : H3146 x 9 = H3020 x 9 := (f3151 x 9 _ gx rfl)
        have k3195 : H3146 m 6 = H3020 m 6 := (f3151 m 6 _ gm rfl)
        have k3196 : H3146 x 11 = H3020 x 11 := (f3151 x 11 _ gx rfl)
        have k3197 : H3146 m 13 = H3020 m 13 := (f3151 m 13 _ gm rfl)
        have k3198 : H3146 x 8 = H3020 x 8 := (f3151 x 8 _ gx rfl)
        have k3199 : H3146 m 3 = H3020 m 3 := (f3151 m 3 _ gm rfl)
        have k3200 : H3146 x 0 = H x 0 := ((f3151 x 0 _ gx rfl).trans (f3025 x 0 _ gx rfl))
        have q3201 : H3146 x 0 = (tc : Int) := k3200.trans e0
        have k3202 : H3146 m 5 = H m 5 := ((f3151 m 5 _ gm rfl).trans (f3025 m 5 _ gm rfl))
        have q3203 : H3146 m 5 = (tm : Int) := k3202.trans em
        have k3204 : H3146 x 6 = H x 6 := ((f3151 x 6 _ gx rfl).trans (f3025 x 6 _ gx rfl))
        have q3205 : H3146 x 6 = (cu : Int) := k3204.trans ecu
        have k3206 : H3146 x 7 = H x 7 := ((f3151 x 7 _ gx rfl).trans (f3025 x 7 _ gx rfl))
        have q3207 : H3146 x 7 = (dr : Int) := k3206.trans edr
        have h3208 : CEN T H3146 ce8 e8 d8 := (CEN_fr w3024 gce8 f3151 rfl a3034)
        have h3209 : TP T H3146 tc B := (TP_fr w3024 gtc f3151 rfl (TP_fr hW gtc f3025 rfl htc))
        have h3210 : TM T H3146 tm B := (TM_fr w3024 gtm f3151 rfl (TM_fr hW gtm f3025 rfl htm))
        have h3211 : DD T H3146 cu  := (DD_fr w3024 gcu f3151 rfl (DD_fr hW gcu f3025 rfl hcu))
        have h3212 : DD T H3146 dr  := (DD_fr w3024 gdr f3151 rfl (DD_fr hW gdr f3025 rfl hdr))
        have h3213 : DE T H3146 cu  := (DE_fr w3024 gcu f3151 rfl (DE_fr hW gcu f3025 rfl hdec))
        have h3214 : DE T H3146 dr  := (DE_fr w3024 gdr f3151 rfl (DE_fr hW gdr f3025 rfl hded))
        have h3215 : SP T H3146 x C8 := (SP_fr w3024 gx f3151 rfl (SP_fr hW gx f3025 rfl hsp))
        have h3216 : CU T H3146 cu e8 d8 n8 := (CU_fr w3024 gcu f3151 rfl (CU_fr hW gcu f3025 rfl hcu8))
        have h3217 : CY T H3146 cu (d8 0 3) g8 (H cu 17) := (CY_fr w3024 gcu f3151 rfl (CY_fr hW gcu f3025 rfl h3013))
        have k3218 : H3146 x 3 = H x 3 := ((f3151 x 3 _ gx rfl).trans (f3025 x 3 _ gx rfl))
        have q3219 : H3146 x 3 = (ce8 : Int) := k3218.trans ece8
        have h3220 : HDR T H3146 ce8  := (HDR_fr w3024 gce8 f3151 rfl (HDR_fr hW gce8 f3025 rfl hhdr8))
        have h3221 : RY T H3146 m (d8 0 3) g8 (H m 32) := (RY_fr w3024 gm f3151 rfl (RY_fr hW gm f3025 rfl h3014))
        have h3222 : RB T H3146 m e8 d8 := (RB_fr w3024 gm f3151 rfl h3142)
        exact WL.loc hX (by simp) (next T H3146 ⟨⟨w3150, g0, gx, gm, go, by omega, by omega⟩, ⟨_, tc, tm, cu, dr, _, _, _, _, _, ce8, q3201, gtc, h3209, q3203, gtm, h3210, q3205, gcu, q3207, gdr, h3211, h3212, h3213, h3214, h3215, hC1, hC2, h3216, h3222, (h3217).1, (h3221).1, hE, hZ, (by omega), (by assumption), (by omega), (by first | assumption | exact SG_0), q3219, gce8, h3208, h3220, a3162, gm⟩, by omega, by omega⟩ (by omega) (by omega))
      · refine wl_of hX hb cL_703 (rw_iconst (pc' := 704) rfl ?_)
        exfalso
        omega
set_option maxHeartbeats 4000000 in
theorem wl_c17 {kt : Nat → Option mc_E} {CB SB : Nat} {X : mc_S → Prop} {T : wq_T} {H : wq_H} {Len x m o : Nat} {i : Int} (hX : wlX kt CB SB X) (hb : T.2.1 ≤ CB ∧ T.2.2.1 ≤ SB) (hI : wlJ Len x m o T H) (hL : Len ≤ 3072) (hi : 0 ≤ i ∧ i + 6 ≤ Len) (hb2 : T.2.1 + 20 ≤ CB ∧ T.2.2.1 + 500 ≤ SB)  (next : ∀ T' H', wlJ Len x m o T' H' → T'.2.1 ≤ T.2.1 + 20 → T'.2.2.1 ≤ T.2.2.1 + 500 → WL kt CB SB X 1653 (wlL i x m o) [] T' H') : WL kt CB SB X 705 (wlL i x m o) [] T H := by
  obtain ⟨⟨hW, g0, gx, gm, go, hK, hr⟩, hXI, hY1, hY2⟩ := hI
  refine wl_of hX hb cL_705 (rw_aload_n (pc' := 706) (v := .ref x) rfl rfl rfl ?_)
  obtain ⟨B, tc, tm, cu, dr, C8, e8, d8, n8, g8, ce8, e0, gtc, htc, em, gtm, htm, ecu, gcu, edr, gdr, hcu, hdr, hdec, hded, hsp, hC1, hC2, hcu8, hrb8, hcg8, hmn8, hE, hZ, hn8, hXA, hV8, hSG, ece8, gce8, hcen8, hhdr8, hknn8, -⟩ := hXI
  have hN3 := RB_n3 hrb8
  have hE13 : ∀ h : Nat, h < 24 → 0 ≤ e8 13 h ∧ e8 13 h ≤ 100 := fun k hk => by
    obtain ⟨s, h1, h2, h3⟩ := hcu8.1.2.2.1
    exact ⟨(h3 k hk).1, (h3 k hk).2.1⟩
  have hXW := hXA.1
  have hXN := hXA.2
  have hE0 : e8 0 3 = d8 0 3 ∧ e8 0 0 = d8 0 0 := by
    have h := hE 0 (by decide)
    exact ⟨congrFun h 3, congrFun h 0⟩
  have u3223 := CU_k hcu8
  have h3224 : CY T H cu (d8 0 3) g8 (H cu 17) := ⟨hcg8, rfl⟩
  have h3225 : RY T H m (d8 0 3) g8 (H m 32) := ⟨hmn8, rfl⟩
  obtain ⟨t9, ht9⟩ : ∃ t : Int, t = H x 9 := ⟨_, rfl⟩
  obtain ⟨r3226, q3227, g3228⟩ := hW.ref gx (t' := 6) (n := 13) (j := 2) (p := 0) (q := 0) rfl (by decide) rfl
  refine wl_of hX hb cL_706 (xc_V (pc' := 709) (r := x) (as := []) (st := []) (lm_11_93) rfl rfl (Nat.le_of_ble_eq_true rfl) hW gx sh_1 (by decide) rfl (by decide) (u_97 (e := e8) (d := d8) (n := n8) hW gx ecu gcu q3227 g3228 ece8 gce8 (by assumption) (by assumption) (by omega) (by omega) (by omega) (by omega) hcu8 hcen8 hhdr8) (fun R3229 T3230 H3231 p3232 => ?_))
  obtain ⟨e3233, w3235, f3236, z3237, e3234, b3238, p3239⟩ := p3232
  subst e3233
  subst e3234
  show WL _ _ _ _ 709 [(4, vI i), (3, .ref o), (2, .ref m), (1, .ref x), (0, .ref 0)] [vL z3237] _ H3231
  refine wl_of hX hb cL_709 (rw_pop2 (pc' := 710) rfl rfl ?_)
  refine wl_of hX hb cL_710 (rw_aload_n (pc' := 711) (v := .ref m) rfl rfl rfl ?_)
  have k3241 : wKI H3231 m = wKI H m := (wKI_fr hW gm f3236 rfl)
  have k3242 : H3231 x 9 = H x 9 := (f3236 x 9 _ gx rfl)
  have k3243 : H3231 m 6 = H m 6 := (f3236 m 6 _ gm rfl)
  have k3244 : H3231 x 11 = H x 11 := (f3236 x 11 _ gx rfl)
  have k3245 : H3231 m 13 = H m 13 := (f3236 m 13 _ gm rfl)
  have k3246 : H3231 x 8 = H x 8 := (f3236 x 8 _ gx rfl)
  have k3247 : H3231 m 3 = H m 3 := (f3236 m 3 _ gm rfl)
  have h3248 : RB T H3231 m e8 d8 := (RB_fr hW gm f3236 rfl hrb8)
  have h3249 : KNN T H3231 m e8 d8 := (KNN_fr hW gm f3236 rfl hknn8)
  refine wl_of hX hb cL_711 (xc_V (pc' := 714) (r := m) (as := []) (st := []) (lm_11_96) rfl rfl (Nat.le_of_ble_eq_true rfl) w3235 gm sh_42 (by decide) rfl (by decide) (u_246 (e := e8) (d := d8) w3235 gm (by omega) (by assumption) (by assumption) (by assumption) (by assumption) h3248 h3249) (fun R3250 T3251 H3252 p3253 => ?_))
  obtain ⟨e3254, w3256, f3257, z3258, e3255, b3259, p3260⟩ := p3253
  subst e3254
  subst e3255
  obtain ⟨a3261, a3262⟩ := p3260
  show WL _ _ _ _ 714 [(4, vI i), (3, .ref o), (2, .ref m), (1, .ref x), (0, .ref 0)] [vL z3258] _ H3252
  refine wl_of hX hb cL_714 (rw_pop2 (pc' := 715) rfl rfl ?_)
  refine wl_of hX hb cL_715 (rw_goto (p1 := 1653) (by decide) ?_)
  have k3263 : H3252 x 9 = H3231 x 9 := (f3257 x 9 _ gx rfl)
  have k3264 : H3252 m 6 = H3231 m 6 := (f3257 m 6 _ gm rfl)
  have k3265 : H3252 x 11 = H3231 x 11 := (f3257 x 11 _ gx rfl)
  have k3266 : H3252 m 13 = H3231 m 13 := (f3257 m 13 _ gm rfl)
  have k3267 : H3252 x 8 = H3231 x 8 := (f3257 x 8 _ gx rfl)
  have k3268 : H3252 m 3 = H3231 m 3 := (f3257 m 3 _ gm rfl)
  have k3269 : H3252 x 0 = H x 0 := ((f3257 x 0 _ gx rfl).trans (f3236 x 0 _ gx rfl))
  have q3270 : H3252 x 0 = (tc : Int) := k3269.trans e0
  have k3271 : H3252 m 5 = H m 5 := ((f3257 m 5 _ gm rfl).trans (f3236 m 5 _ gm rfl))
  have q3272 : H3252 m 5 = (tm : Int) := k3271.trans em
  have k3273 : H3252 x 6 = H x 6 := ((f3257 x 6 _ gx rfl).trans (f3236 x 6 _ gx rfl))
  have q3274 : H3252 x 6 = (cu : Int) := k3273.trans ecu
  have k3275 : H3252 x 7 = H x 7 := ((f3257 x 7 _ gx rfl).trans (f3236 x 7 _ gx rfl))
  have q3276 : H3252 x 7 = (dr : Int) := k3275.trans edr
  have h3277 : CEN T H3252 ce8 e8 d8 := (CEN_fr w3235 gce8 f3257 rfl p3239)
  have h3278 : TP T H3252 tc B := (TP_fr w3235 gtc f3257 rfl (TP_fr hW gtc f3236 rfl htc))
  have h3279 : TM T H3252 tm B := (TM_fr w3235 gtm f3257 rfl (TM_fr hW gtm f3236 rfl htm))
  have h3280 : DD T H3252 cu  := (DD_fr w3235 gcu f3257 rfl (DD_fr hW gcu f3236 rfl hcu))
  have h3281 : DD T H3252 dr  := (DD_fr w3235 gdr f3257 rfl (DD_fr hW gdr f3236 rfl hdr))
  have h3282 : DE T H3252 cu  := (DE_fr w3235 gcu f3257 rfl (DE_fr hW gcu f3236 rfl hdec))
  have h3283 : DE T H3252 dr  := (DE_fr w3235 gdr f3257 rfl (DE_fr hW gdr f3236 rfl hded))
  have h3284 : SP T H3252 x C8 := (SP_fr w3235 gx f3257 rfl (SP_fr hW gx f3236 rfl hsp))
  have h3285 : CU T H3252 cu e8 d8 n8 := (CU_fr w3235 gcu f3257 rfl (CU_fr hW gcu f3236 rfl hcu8))
  have h3286 : CY T H3252 cu (d8 0 3) g8 (H cu 17) := (CY_fr w3235 gcu f3257 rfl (CY_fr hW gcu f3236 rfl h3224))
  have k3287 : H3252 x 3 = H x 3 := ((f3257 x 3 _ gx rfl).trans (f3236 x 3 _ gx rfl))
  have q3288 : H3252 x 3 = (ce8 : Int) := k3287.trans ece8
  have h3289 : HDR T H3252 ce8  := (HDR_fr w3235 gce8 f3257 rfl (HDR_fr hW gce8 f3236 rfl hhdr8))
  have h3290 : RY T H3252 m (d8 0 3) g8 (H m 32) := (RY_fr w3235 gm f3257 rfl (RY_fr hW gm f3236 rfl h3225))
  have h3291 : RB T H3252 m e8 d8 := (RB_fr w3235 gm f3257 rfl h3248)
  exact WL.loc hX (by simp) (next T H3252 ⟨⟨w3256, g0, gx, gm, go, by omega, by omega⟩, ⟨_, tc, tm, cu, dr, _, _, _, _, _, ce8, q3270, gtc, h3278, q3272, gtm, h3279, q3274, gcu, q3276, gdr, h3280, h3281, h3282, h3283, h3284, hC1, hC2, h3285, h3291, (h3286).1, (h3290).1, hE, hZ, (by omega), (by assumption), (by omega), (by first | assumption | exact SG_0), q3288, gce8, h3277, h3289, a3262, gm⟩, by omega, by omega⟩ (by omega) (by omega))
set_option maxHeartbeats 4000000 in
theorem wl_c18 {kt : Nat → Option mc_E} {CB SB : Nat} {X : mc_S → Prop} {T : wq_T} {H : wq_H} {Len x m o : Nat} {i : Int} (hX : wlX kt CB SB X) (hb : T.2.1 ≤ CB ∧ T.2.2.1 ≤ SB) (hI : wlJ Len x m o T H) (hL : Len ≤ 3072) (hi : 0 ≤ i ∧ i + 6 ≤ Len) (hb2 : T.2.1 + 20 ≤ CB ∧ T.2.2.1 + 500 ≤ SB)  (next : ∀ T' H', wlJ Len x m o T' H' → T'.2.1 ≤ T.2.1 + 20 → T'.2.2.1 ≤ T.2.2.1 + 500 → WL kt CB SB X 1653 (wlL i x m o) [] T' H') : WL kt CB SB X 718 (wlL i x m o) [] T H := by
  obtain ⟨⟨hW, g0, gx, gm, go, hK, hr⟩, hXI, hY1, hY2⟩ := hI
  refine wl_of hX hb cL_718 (rw_aload_n (pc' := 719) (v := .ref x) rfl rfl rfl ?_)
  refine wl_of hX hb cL_719 (rw_aload_n (pc' := 720) (v := .ref 0) rfl rfl rfl ?_)
  refine wl_of hX hb cL_720 (rw_iload (pc' := 722) (z := i) rfl rfl ?_)
  refine wl_of hX hb cL_722 (rw_iconst (pc' := 723) rfl ?_)
  refine wl_of hX hb cL_723 (rw_iadd (pc' := 724) rfl ?_)
  refine wl_of hX hb cL_724 (xa_I (so := 0) (pc' := 725) (a := 0) hW g0 (wsh_s _) (by omega) (wty_s _ _) (by omega) (by omega) rfl (fun b3292 b3293 => ?_))
  refine wl_of hX hb cL_725 (rw_aload_n (pc' := 726) (v := .ref 0) rfl rfl rfl ?_)
  refine wl_of hX hb cL_726 (rw_iload (pc' := 728) (z := i) rfl rfl ?_)
  refine wl_of hX hb cL_728 (rw_iconst (pc' := 729) rfl ?_)
  refine wl_of hX hb cL_729 (rw_iadd (pc' := 730) rfl ?_)
  refine wl_of hX hb cL_730 (xa_I (so := 0) (pc' := 731) (a := 0) hW g0 (wsh_s _) (by omega) (wty_s _ _) (by omega) (by omega) rfl (fun b3294 b3295 => ?_))
  obtain ⟨B, tc, tm, cu, dr, C8, e8, d8, n8, g8, ce8, e0, gtc, htc, em, gtm, htm, ecu, gcu, edr, gdr, hcu, hdr, hdec, hded, hsp, hC1, hC2, hcu8, hrb8, hcg8, hmn8, hE, hZ, hn8, hXA, hV8, hSG, ece8, gce8, hcen8, hhdr8, hknn8, -⟩ := hXI
  have hN3 := RB_n3 hrb8
  have hE13 : ∀ h : Nat, h < 24 → 0 ≤ e8 13 h ∧ e8 13 h ≤ 100 := fun k hk => by
    obtain ⟨s, h1, h2, h3⟩ := hcu8.1.2.2.1
    exact ⟨(h3 k hk).1, (h3 k hk).2.1⟩
  have hXW := hXA.1
  have hXN := hXA.2
  have hE0 : e8 0 3 = d8 0 3 ∧ e8 0 0 = d8 0 0 := by
    have h := hE 0 (by decide)
    exact ⟨congrFun h 3, congrFun h 0⟩
  have u3296 := CU_k hcu8
  have h3297 : CY T H cu (d8 0 3) g8 (H cu 17) := ⟨hcg8, rfl⟩
  have h3298 : RY T H m (d8 0 3) g8 (H m 32) := ⟨hmn8, rfl⟩
  obtain ⟨t9, ht9⟩ : ∃ t : Int, t = H x 9 := ⟨_, rfl⟩
  obtain ⟨y9, hy9⟩ : ∃ y : Int, y = H 0 ((i + 2).toNat) := ⟨_, rfl⟩
  obtain ⟨r3299, q3300, g3301⟩ := hW.ref gx (t' := 6) (n := 13) (j := 2) (p := 0) (q := 0) rfl (by decide) rfl
  refine wl_of hX hb cL_731 (xc_V (pc' := 734) (r := x) (as := [vI (H 0 ((i + 1).toNat)), vI (H 0 ((i + 2).toNat))]) (st := []) (lm_11_97) rfl rfl (Nat.le_of_ble_eq_true rfl) hW gx sh_1 (by decide) rfl (by decide) (u_98 (e := e8) (d := d8) (n := n8) hW gx ⟨by omega, by omega⟩ ⟨by omega, by omega⟩ ecu gcu q3300 g3301 ece8 gce8 (by assumption) (by assumption) (by omega) (by omega) (by omega) (by omega) hcu8 hcen8 hhdr8) (fun R3302 T3303 H3304 p3305 => ?_))
  obtain ⟨e3306, w3308, f3309, z3310, e3307, b3311, p3312⟩ := p3305
  subst e3306
  subst e3307
  show WL _ _ _ _ 734 [(4, vI i), (3, .ref o), (2, .ref m), (1, .ref x), (0, .ref 0)] [vI z3310] _ H3304
  refine wl_of hX hb cL_734 (rw_pop (pc' := 735) rfl rfl ?_)
  refine wl_of hX hb cL_735 (rw_aload_n (pc' := 736) (v := .ref m) rfl rfl rfl ?_)
  refine wl_of hX hb cL_736 (rw_aload_n (pc' := 737) (v := .ref 0) rfl rfl rfl ?_)
  refine wl_of hX hb cL_737 (rw_iload (pc' := 739) (z := i) rfl rfl ?_)
  refine wl_of hX hb cL_739 (rw_iconst (pc' := 740) rfl ?_)
  refine wl_of hX hb cL_740 (rw_iadd (pc' := 741) rfl ?_)
  have k3316 : H3304 0 ((i + 1).toNat) = H 0 ((i + 1).toNat) := (f3309 0 ((i + 1).toNat) _ g0 (wmem_s rfl))
  refine wl_of hX hb cL_741 (xa_I (so := 0) (pc' := 742) (a := 0) w3308 g0 (wsh_s _) (by omega) (wty_s _ _) (by omega) (by omega) rfl (fun b3314 b3315 => ?_))
  refine wl_of hX hb cL_742 (rw_aload_n (pc' := 743) (v := .ref 0) rfl rfl rfl ?_)
  refine wl_of hX hb cL_743 (rw_iload (pc' := 745) (z := i) rfl rfl ?_)
  refine wl_of hX hb cL_745 (rw_iconst (pc' := 746) rfl ?_)
  refine wl_of hX hb cL_746 (rw_iadd (pc' := 747) rfl ?_)
  have k3319 : H3304 0 ((i + 2).toNat) = H 0 ((i + 2).toNat) := (f3309 0 ((i + 2).toNat) _ g0 (wmem_s rfl))
  refine wl_of hX hb cL_747 (xa_I (so := 0) (pc' := 748) (a := 0) w3308 g0 (wsh_s _) (by omega) (wty_s _ _) (by omega) (by omega) rfl (fun b3317 b3318 => ?_))
  have k3320 : wKI H3304 m = wKI H m := (wKI_fr hW gm f3309 rfl)
  have k3321 : H3304 x 9 = H x 9 := (f3309 x 9 _ gx rfl)
  have k3322 : H3304 m 6 = H m 6 := (f3309 m 6 _ gm rfl)
  have k3323 : H3304 x 11 = H x 11 := (f3309 x 11 _ gx rfl)
  have k3324 : H3304 m 13 = H m 13 := (f3309 m 13 _ gm rfl)
  have k3325 : H3304 x 8 = H x 8 := (f3309 x 8 _ gx rfl)
  have k3326 : H3304 m 3 = H m 3 := (f3309 m 3 _ gm rfl)
  rw [show H3304 0 ((i + 2).toNat) = H 0 ((i + 2).toNat) by omega]
  rw [show H3304 0 ((i + 1).toNat) = H 0 ((i + 1).toNat) by omega]
  have h3327 : RB T H3304 m e8 d8 := (RB_fr hW gm f3309 rfl hrb8)
  have h3328 : KNN T H3304 m e8 d8 := (KNN_fr hW gm f3309 rfl hknn8)
  refine wl_of hX hb cL_748 (xc_V (pc' := 751) (r := m) (as := [vI (H 0 ((i + 1).toNat)), vI (H 0 ((i + 2).toNat))]) (st := []) (lm_11_100) rfl rfl (Nat.le_of_ble_eq_true rfl) w3308 gm sh_42 (by decide) rfl (by decide) (u_249 (e := e8) (d := d8) w3308 gm ⟨by omega, by omega⟩ ⟨by omega, by omega⟩ (by omega) (by assumption) (by assumption) (by assumption) (by assumption) h3327 h3328) (fun R3329 T3330 H3331 p3332 => ?_))
  obtain ⟨e3333, w3335, f3336, z3337, e3334, b3338, p3339⟩ := p3332
  subst e3333
  subst e3334
  obtain ⟨a3340, a3341⟩ := p3339
  show WL _ _ _ _ 751 [(4, vI i), (3, .ref o), (2, .ref m), (1, .ref x), (0, .ref 0)] [vI z3337] _ H3331
  refine wl_of hX hb cL_751 (rw_pop (pc' := 752) rfl rfl ?_)
  refine wl_of hX hb cL_752 (rw_goto (p1 := 1653) (by decide) ?_)
  have k3342 : H3331 x 9 = H3304 x 9 := (f3336 x 9 _ gx rfl)
  have k3343 : H3331 m 6 = H3304 m 6 := (f3336 m 6 _ gm rfl)
  have k3344 : H3331 x 11 = H3304 x 11 := (f3336 x 11 _ gx rfl)
  have k3345 : H3331 m 13 = H3304 m 13 := (f3336 m 13 _ gm rfl)
  have k3346 : H3331 x 8 = H3304 x 8 := (f3336 x 8 _ gx rfl)
  have k3347 : H3331 m 3 = H3304 m 3 := (f3336 m 3 _ gm rfl)
  have k3348 : H3331 x 0 = H x 0 := ((f3336 x 0 _ gx rfl).trans (f3309 x 0 _ gx rfl))
  have q3349 : H3331 x 0 = (tc : Int) := k3348.trans e0
  have k3350 : H3331 m 5 = H m 5 := ((f3336 m 5 _ gm rfl).trans (f3309 m 5 _ gm rfl))
  have q3351 : H3331 m 5 = (tm : Int) := k3350.trans em
  have k3352 : H3331 x 6 = H x 6 := ((f3336 x 6 _ gx rfl).trans (f3309 x 6 _ gx rfl))
  have q3353 : H3331 x 6 = (cu : Int) := k3352.trans ecu
  have k3354 : H3331 x 7 = H x 7 := ((f3336 x 7 _ gx rfl).trans (f3309 x 7 _ gx rfl))
  have q3355 : H3331 x 7 = (dr : Int) := k3354.trans edr
  have h3356 : CEN T H3331 ce8 e8 d8 := (CEN_fr w3308 gce8 f3336 rfl p3312)
  have h3357 : TP T H3331 tc B := (TP_fr w3308 gtc f3336 rfl (TP_fr hW gtc f3309 rfl htc))
  have h3358 : TM T H3331 tm B := (TM_fr w3308 gtm f3336 rfl (TM_fr hW gtm f3309 rfl htm))
  have h3359 : DD T H3331 cu  := (DD_fr w3308 gcu f3336 rfl (DD_fr hW gcu f3309 rfl hcu))
  have h3360 : DD T H3331 dr  := (DD_fr w3308 gdr f3336 rfl (DD_fr hW gdr f3309 rfl hdr))
  have h3361 : DE T H3331 cu  := (DE_fr w3308 gcu f3336 rfl (DE_fr hW gcu f3309 rfl hdec))
  have h3362 : DE T H3331 dr  := (DE_fr w3308 gdr f3336 rfl (DE_fr hW gdr f3309 rfl hded))
  have h3363 : SP T H3331 x C8 := (SP_fr w3308 gx f3336 rfl (SP_fr hW gx f3309 rfl hsp))
  have h3364 : CU T H3331 cu e8 d8 n8 := (CU_fr w3308 gcu f3336 rfl (CU_fr hW gcu f3309 rfl hcu8))
  have h3365 : CY T H3331 cu (d8 0 3) g8 (H cu 17) := (CY_fr w3308 gcu f3336 rfl (CY_fr hW gcu f3309 rfl h3297))
  have k3366 : H3331 x 3 = H x 3 := ((f3336 x 3 _ gx rfl).trans (f3309 x 3 _ gx rfl))
  have q3367 : H3331 x 3 = (ce8 : Int) := k3366.trans ece8
  have h3368 : HDR T H3331 ce8  := (HDR_fr w3308 gce8 f3336 rfl (HDR_fr hW gce8 f3309 rfl hhdr8))
  have h3369 : RY T H3331 m (d8 0 3) g8 (H m 32) := (RY_fr w3308 gm f3336 rfl (RY_fr hW gm f3309 rfl h3298))
  have h3370 : RB T H3331 m e8 d8 := (RB_fr w3308 gm f3336 rfl h3327)
  exact WL.loc hX (by simp) (next T H3331 ⟨⟨w3335, g0, gx, gm, go, by omega, by omega⟩, ⟨_, tc, tm, cu, dr, _, _, _, _, _, ce8, q3349, gtc, h3357, q3351, gtm, h3358, q3353, gcu, q3355, gdr, h3359, h3360, h3361, h3362, h3363, hC1, hC2, h3364, h3370, (h3365).1, (h3369).1, hE, hZ, (by omega), (by assumption), (by omega), (by first | assumption | exact SG_0), q3367, gce8, h3356, h3368, a3341, gm⟩, by omega, by omega⟩ (by omega) (by omega))
set_option maxHeartbeats 4000000 in
theorem wl_c19 {kt : Nat → Option mc_E} {CB SB : Nat} {X : mc_S → Prop} {T : wq_T} {H : wq_H} {Len x m o : Nat} {i : Int} (hX : wlX kt CB SB X) (hb : T.2.1 ≤ CB ∧ T.2.2.1 ≤ SB) (hI : wlJ Len x m o T H) (hL : Len ≤ 3072) (hi : 0 ≤ i ∧ i + 6 ≤ Len) (hb2 : T.2.1 + 20 ≤ CB ∧ T.2.2.1 + 500 ≤ SB)  (next : ∀ T' H', wlJ Len x m o T' H' → T'.2.1 ≤ T.2.1 + 20 → T'.2.2.1 ≤ T.2.2.1 + 500 → WL kt CB SB X 1653 (wlL i x m o) [] T' H') : WL kt CB SB X 755 (wlL i x m o) [] T H := by
  obtain ⟨⟨hW, g0, gx, gm, go, hK, hr⟩, hXI, hY1, hY2⟩ := hI
  refine wl_of hX hb cL_755 (rw_aload_n (pc' := 756) (v := .ref x) rfl rfl rfl ?_)
  refine wl_of hX hb cL_756 (rw_aload_n (pc' := 757) (v := .ref 0) rfl rfl rfl ?_)
  refine wl_of hX hb cL_757 (rw_iload (pc' := 759) (z := i) rfl rfl ?_)
  refine wl_of hX hb cL_759 (rw_iconst (pc' := 760) rfl ?_)
  refine wl_of hX hb cL_760 (rw_iadd (pc' := 761) rfl ?_)
  refine wl_of hX hb cL_761 (xa_I (so := 0) (pc' := 762) (a := 0) hW g0 (wsh_s _) (by omega) (wty_s _ _) (by omega) (by omega) rfl (fun b3371 b3372 => ?_))
  refine wl_of hX hb cL_762 (rw_aload_n (pc' := 763) (v := .ref 0) rfl rfl rfl ?_)
  refine wl_of hX hb cL_763 (rw_iload (pc' := 765) (z := i) rfl rfl ?_)
  refine wl_of hX hb cL_765 (rw_iconst (pc' := 766) rfl ?_)
  refine wl_of hX hb cL_766 (rw_iadd (pc' := 767) rfl ?_)
  refine wl_of hX hb cL_767 (xa_I (so := 0) (pc' := 768) (a := 0) hW g0 (wsh_s _) (by omega) (wty_s _ _) (by omega) (by omega) rfl (fun b3373 b3374 => ?_))
  obtain ⟨B, tc, tm, cu, dr, C8, e8, d8, n8, g8, ce8, e0, gtc, htc, em, gtm, htm, ecu, gcu, edr, gdr, hcu, hdr, hdec, hded, hsp, hC1, hC2, hcu8, hrb8, hcg8, hmn8, hE, hZ, hn8, hXA, hV8, hSG, ece8, gce8, hcen8, hhdr8, hknn8, -⟩ := hXI
  have hN3 := RB_n3 hrb8
  have hE13 : ∀ h : Nat, h < 24 → 0 ≤ e8 13 h ∧ e8 13 h ≤ 100 := fun k hk => by
    obtain ⟨s, h1, h2, h3⟩ := hcu8.1.2.2.1
    exact ⟨(h3 k hk).1, (h3 k hk).2.1⟩
  have hXW := hXA.1
  have hXN := hXA.2
  have hE0 : e8 0 3 = d8 0 3 ∧ e8 0 0 = d8 0 0 := by
    have h := hE 0 (by decide)
    exact ⟨congrFun h 3, congrFun h 0⟩
  have u3375 := CU_k hcu8
  have h3376 : CY T H cu (d8 0 3) g8 (H cu 17) := ⟨hcg8, rfl⟩
  have h3377 : RY T H m (d8 0 3) g8 (H m 32) := ⟨hmn8, rfl⟩
  obtain ⟨t9, ht9⟩ : ∃ t : Int, t = H x 9 := ⟨_, rfl⟩
  obtain ⟨y9, hy9⟩ : ∃ y : Int, y = H 0 ((i + 2).toNat) := ⟨_, rfl⟩
  obtain ⟨r3378, q3379, g3380⟩ := hW.ref gx (t' := 6) (n := 13) (j := 2) (p := 0) (q := 0) rfl (by decide) rfl
  refine wl_of hX hb cL_768 (xc_V (pc' := 771) (r := x) (as := [vI (H 0 ((i + 1).toNat)), vI (H 0 ((i + 2).toNat))]) (st := []) (lm_11_101) rfl rfl (Nat.le_of_ble_eq_true rfl) hW gx sh_1 (by decide) rfl (by decide) (u_99 (e := e8) (d := d8) (n := n8) hW gx ⟨by omega, by omega⟩ ⟨by omega, by omega⟩ ecu gcu q3379 g3380 ece8 gce8 (by assumption) (by assumption) (by omega) (by omega) (by omega) (by omega) hcu8 hcen8 hhdr8) (fun R3381 T3382 H3383 p3384 => ?_))
  obtain ⟨e3385, w3387, f3388, z3389, e3386, b3390, p3391⟩ := p3384
  subst e3385
  subst e3386
  show WL _ _ _ _ 771 [(4, vI i), (3, .ref o), (2, .ref m), (1, .ref x), (0, .ref 0)] [vI z3389] _ H3383
  refine wl_of hX hb cL_771 (rw_pop (pc' := 772) rfl rfl ?_)
  refine wl_of hX hb cL_772 (rw_aload_n (pc' := 773) (v := .ref m) rfl rfl rfl ?_)
  refine wl_of hX hb cL_773 (rw_aload_n (pc' := 774) (v := .ref 0) rfl rfl rfl ?_)
  refine wl_of hX hb cL_774 (rw_iload (pc' := 776) (z := i) rfl rfl ?_)
  refine wl_of hX hb cL_776 (rw_iconst (pc' := 777) rfl ?_)
  refine wl_of hX hb cL_777 (rw_iadd (pc' := 778) rfl ?_)
  have k3395 : H3383 0 ((i + 1).toNat) = H 0 ((i + 1).toNat) := (f3388 0 ((i + 1).toNat) _ g0 (wmem_s rfl))
  refine wl_of hX hb cL_778 (xa_I (so := 0) (pc' := 779) (a := 0) w3387 g0 (wsh_s _) (by omega) (wty_s _ _) (by omega) (by omega) rfl (fun b3393 b3394 => ?_))
  refine wl_of hX hb cL_779 (rw_aload_n (pc' := 780) (v := .ref 0) rfl rfl rfl ?_)
  refine wl_of hX hb cL_780 (rw_iload (pc' := 782) (z := i) rfl rfl ?_)
  refine wl_of hX hb cL_782 (rw_iconst (pc' := 783) rfl ?_)
  refine wl_of hX hb cL_783 (rw_iadd (pc' := 784) rfl ?_)
  have k3398 : H3383 0 ((i + 2).toNat) = H 0 ((i + 2).toNat) := (f3388 0 ((i + 2).toNat) _ g0 (wmem_s rfl))
  refine wl_of hX hb cL_784 (xa_I (so := 0) (pc' := 785) (a := 0) w3387 g0 (wsh_s _) (by omega) (wty_s _ _) (by omega) (by omega) rfl (fun b3396 b3397 => ?_))
  have k3399 : wKI H3383 m = wKI H m := (wKI_fr hW gm f3388 rfl)
  have k3400 : H3383 x 9 = H x 9 := (f3388 x 9 _ gx rfl)
  have k3401 : H3383 m 6 = H m 6 := (f3388 m 6 _ gm rfl)
  have k3402 : H3383 x 11 = H x 11 := (f3388 x 11 _ gx rfl)
  have k3403 : H3383 m 13 = H m 13 := (f3388 m 13 _ gm rfl)
  have k3404 : H3383 x 8 = H x 8 := (f3388 x 8 _ gx rfl)
  have k3405 : H3383 m 3 = H m 3 := (f3388 m 3 _ gm rfl)
  rw [show H3383 0 ((i + 2).toNat) = H 0 ((i + 2).toNat) by omega]
  rw [show H3383 0 ((i + 1).toNat) = H 0 ((i + 1).toNat) by omega]
  have h3406 : RB T H3383 m e8 d8 := (RB_fr hW gm f3388 rfl hrb8)
  have h3407 : KNN T H3383 m e8 d8 := (KNN_fr hW gm f3388 rfl hknn8)
  refine wl_of hX hb cL_785 (xc_V (pc' := 788) (r := m) (as := [vI (H 0 ((i + 1).toNat)), vI (H 0 ((i + 2).toNat))]) (st := []) (lm_11_104) rfl rfl (Nat.le_of_ble_eq_true rfl) w3387 gm sh_42 (by decide) rfl (by decide) (u_250 (e := e8) (d := d8) w3387 gm ⟨by omega, by omega⟩ ⟨by omega, by omega⟩ (by omega) (by assumption) (by assumption) (by assumption) (by assumption) h3406 h3407) (fun R3408 T3409 H3410 p3411 => ?_))
  obtain ⟨e3412, w3414, f3415, z3416, e3413, b3417, p3418⟩ := p3411
  subst e3412
  subst e3413
  obtain ⟨a3419, a3420⟩ := p3418
  show WL _ _ _ _ 788 [(4, vI i), (3, .ref o), (2, .ref m), (1, .ref x), (0, .ref 0)] [vI z3416] _ H3410
  refine wl_of hX hb cL_788 (rw_pop (pc' := 789) rfl rfl ?_)
  refine wl_of hX hb cL_789 (rw_goto (p1 := 1653) (by decide) ?_)
  have k3421 : H3410 x 9 = H3383 x 9 := (f3415 x 9 _ gx rfl)
  have k3422 : H3410 m 6 = H3383 m 6 := (f3415 m 6 _ gm rfl)
  have k3423 : H3410 x 11 = H3383 x 11 := (f3415 x 11 _ gx rfl)
  have k3424 : H3410 m 13 = H3383 m 13 := (f3415 m 13 _ gm rfl)
  have k3425 : H3410 x 8 = H3383 x 8 := (f3415 x 8 _ gx rfl)
  have k3426 : H3410 m 3 = H3383 m 3 := (f3415 m 3 _ gm rfl)
  have k3427 : H3410 x 0 = H x 0 := ((f3415 x 0 _ gx rfl).trans (f3388 x 0 _ gx rfl))
  have q3428 : H3410 x 0 = (tc : Int) := k3427.trans e0
  have k3429 : H3410 m 5 = H m 5 := ((f3415 m 5 _ gm rfl).trans (f3388 m 5 _ gm rfl))
  have q3430 : H3410 m 5 = (tm : Int) := k3429.trans em
  have k3431 : H3410 x 6 = H x 6 := ((f3415 x 6 _ gx rfl).trans (f3388 x 6 _ gx rfl))
  have q3432 : H3410 x 6 = (cu : Int) := k3431.trans ecu
  have k3433 : H3410 x 7 = H x 7 := ((f3415 x 7 _ gx rfl).trans (f3388 x 7 _ gx rfl))
  have q3434 : H3410 x 7 = (dr : Int) := k3433.trans edr
  have h3435 : CEN T H3410 ce8 e8 d8 := (CEN_fr w3387 gce8 f3415 rfl p3391)
  have h3436 : TP T H3410 tc B := (TP_fr w3387 gtc f3415 rfl (TP_fr hW gtc f3388 rfl htc))
  have h3437 : TM T H3410 tm B := (TM_fr w3387 gtm f3415 rfl (TM_fr hW gtm f3388 rfl htm))
  have h3438 : DD T H3410 cu  := (DD_fr w3387 gcu f3415 rfl (DD_fr hW gcu f3388 rfl hcu))
  have h3439 : DD T H3410 dr  := (DD_fr w3387 gdr f3415 rfl (DD_fr hW gdr f3388 rfl hdr))
  have h3440 : DE T H3410 cu  := (DE_fr w3387 gcu f3415 rfl (DE_fr hW gcu f3388 rfl hdec))
  have h3441 : DE T H3410 dr  := (DE_fr w3387 gdr f3415 rfl (DE_fr hW gdr f3388 rfl hded))
  have h3442 : SP T H3410 x C8 := (SP_fr w3387 gx f3415 rfl (SP_fr hW gx f3388 rfl hsp))
  have h3443 : CU T H3410 cu e8 d8 n8 := (CU_fr w3387 gcu f3415 rfl (CU_fr hW gcu f3388 rfl hcu8))
  have h3444 : CY T H3410 cu (d8 0 3) g8 (H cu 17) := (CY_fr w3387 gcu f3415 rfl (CY_fr hW gcu f3388 rfl h3376))
  have k3445 : H3410 x 3 = H x 3 := ((f3415 x 3 _ gx rfl).trans (f3388 x 3 _ gx rfl))
  have q3446 : H3410 x 3 = (ce8 : Int) := k3445.trans ece8
  have h3447 : HDR T H3410 ce8  := (HDR_fr w3387 gce8 f3415 rfl (HDR_fr hW gce8 f3388 rfl hhdr8))
  have h3448 : RY T H3410 m (d8 0 3) g8 (H m 32) := (RY_fr w3387 gm f3415 rfl (RY_fr hW gm f3388 rfl h3377))
  have h3449 : RB T H3410 m e8 d8 := (RB_fr w3387 gm f3415 rfl h3406)
  exact WL.loc hX (by simp) (next T H3410 ⟨⟨w3414, g0, gx, gm, go, by omega, by omega⟩, ⟨_, tc, tm, cu, dr, _, _, _, _, _, ce8, q3428, gtc, h3436, q3430, gtm, h3437, q3432, gcu, q3434, gdr, h3438, h3439, h3440, h3441, h3442, hC1, hC2, h3443, h3449, (h3444).1, (h3448).1, hE, hZ, (by omega), (by assumption), (by omega), (by first | assumption | exact SG_0), q3446, gce8, h3435, h3447, a3420, gm⟩, by omega, by omega⟩ (by omega) (by omega))
set_option maxHeartbeats 4000000 in
theorem wl_c20 {kt : Nat → Option mc_E} {CB SB : Nat} {X : mc_S → Prop} {T : wq_T} {H : wq_H} {Len x m o : Nat} {i : Int} (hX : wlX kt CB SB X) (hb : T.2.1 ≤ CB ∧ T.2.2.1 ≤ SB) (hI : wlJ Len x m o T H) (hL : Len ≤ 3072) (hi : 0 ≤ i ∧ i + 6 ≤ Len) (hb2 : T.2.1 + 20 ≤ CB ∧ T.2.2.1 + 500 ≤ SB)  (next : ∀ T' H', wlJ Len x m o T' H' → T'.2.1 ≤ T.2.1 + 20 → T'.2.2.1 ≤ T.2.2.1 + 500 → WL kt CB SB X 1653 (wlL i x m o) [] T' H') : WL kt CB SB X 792 (wlL i x m o) [] T H := by
  obtain ⟨⟨hW, g0, gx, gm, go, hK, hr⟩, hXI, hY1, hY2⟩ := hI
  refine wl_of hX hb cL_792 (rw_aload_n (pc' := 793) (v := .ref x) rfl rfl rfl ?_)
  refine wl_of hX hb cL_793 (rw_aload_n (pc' := 794) (v := .ref 0) rfl rfl rfl ?_)
  refine wl_of hX hb cL_794 (rw_iload (pc' := 796) (z := i) rfl rfl ?_)
  refine wl_of hX hb cL_796 (rw_iconst (pc' := 797) rfl ?_)
  refine wl_of hX hb cL_797 (rw_iadd (pc' := 798) rfl ?_)
  refine wl_of hX hb cL_798 (xa_I (so := 0) (pc' := 799) (a := 0) hW g0 (wsh_s _) (by omega) (wty_s _ _) (by omega) (by omega) rfl (fun b3450 b3451 => ?_))
  refine wl_of hX hb cL_799 (rw_aload_n (pc' := 800) (v := .ref 0) rfl rfl rfl ?_)
  refine wl_of hX hb cL_800 (rw_iload (pc' := 802) (z := i) rfl rfl ?_)
  refine wl_of hX hb cL_802 (rw_iconst (pc' := 803) rfl ?_)
  refine wl_of hX hb cL_803 (rw_iadd (pc' := 804) rfl ?_)
  refine wl_of hX hb cL_804 (xa_I (so := 0) (pc' := 805) (a := 0) hW g0 (wsh_s _) (by omega) (wty_s _ _) (by omega) (by omega) rfl (fun b3452 b3453 => ?_))
  obtain ⟨B, tc, tm, cu, dr, C8, e8, d8, n8, g8, ce8, e0, gtc, htc, em, gtm, htm, ecu, gcu, edr, gdr, hcu, hdr, hdec, hded, hsp, hC1, hC2, hcu8, hrb8, hcg8, hmn8, hE, hZ, hn8, hXA, hV8, hSG, ece8, gce8, hcen8, hhdr8, hknn8, -⟩ := hXI
  have hN3 := RB_n3 hrb8
  have hE13 : ∀ h : Nat, h < 24 → 0 ≤ e8 13 h ∧ e8 13 h ≤ 100 := fun k hk => by
    obtain ⟨s, h1, h2, h3⟩ := hcu8.1.2.2.1
    exact ⟨(h3 k hk).1, (h3 k hk).2.1⟩
  have hXW := hXA.1
  have hXN := hXA.2
  have hE0 : e8 0 3 = d8 0 3 ∧ e8 0 0 = d8 0 0 := by
    have h := hE 0 (by decide)
    exact ⟨congrFun h 3, congrFun h 0⟩
  have u3454 := CU_k hcu8
  have h3455 : CY T H cu (d8 0 3) g8 (H cu 17) := ⟨hcg8, rfl⟩
  have h3456 : RY T H m (d8 0 3) g8 (H m 32) := ⟨hmn8, rfl⟩
  obtain ⟨t9, ht9⟩ : ∃ t : Int, t = H x 9 := ⟨_, rfl⟩
  obtain ⟨y9, hy9⟩ : ∃ y : Int, y = H 0 ((i + 2).toNat) := ⟨_, rfl⟩
  obtain ⟨r3457, q3458, g3459⟩ := hW.ref gx (t' := 6) (n := 13) (j := 2) (p := 0) (q := 0) rfl (by decide) rfl
  refine wl_of hX hb cL_805 (xc_V (pc' := 808) (r := x) (as := [vI (H 0 ((i + 1).toNat)), vI (H 0 ((i + 2).toNat))]) (st := []) (lm_11_105) rfl rfl (Nat.le_of_ble_eq_true rfl) hW gx sh_1 (by decide) rfl (by decide) (u_101 (e := e8) (d := d8) (n := n8) hW gx ⟨by omega, by omega⟩ ⟨by omega, by omega⟩ ecu gcu q3458 g3459 ece8 gce8 (by assumption) (by assumption) (by omega) (by omega) (by omega) (by omega) hcu8 hcen8 hhdr8) (fun R3460 T3461 H3462 p3463 => ?_))
  obtain ⟨e3464, w3466, f3467, z3468, e3465, b3469, p3470⟩ := p3463
  subst e3464
  subst e3465
  show WL _ _ _ _ 808 [(4, vI i), (3, .ref o), (2, .ref m), (1, .ref x), (0, .ref 0)] [vI z3468] _ H3462
  refine wl_of hX hb cL_808 (rw_pop (pc' := 809) rfl rfl ?_)
  refine wl_of hX hb cL_809 (rw_aload_n (pc' := 810) (v := .ref m) rfl rfl rfl ?_)
  refine wl_of hX hb cL_810 (rw_aload_n (pc' := 811) (v := .ref 0) rfl rfl rfl ?_)
  refine wl_of hX hb cL_811 (rw_iload (pc' := 813) (z := i) rfl rfl ?_)
  refine wl_of hX hb cL_813 (rw_iconst (pc' := 814) rfl ?_)
  refine wl_of hX hb cL_814 (rw_iadd (pc' := 815) rfl ?_)
  have k3474 : H3462 0 ((i + 1).toNat) = H 0 ((i + 1).toNat) := (f3467 0 ((i + 1).toNat) _ g0 (wmem_s rfl))
  refine wl_of hX hb cL_815 (xa_I (so := 0) (pc' := 816) (a := 0) w3466 g0 (wsh_s _) (by omega) (wty_s _ _) (by omega) (by omega) rfl (fun b3472 b3473 => ?_))
  refine wl_of hX hb cL_816 (rw_aload_n (pc' := 817) (v := .ref 0) rfl rfl rfl ?_)
  refine wl_of hX hb cL_817 (rw_iload (pc' := 819) (z := i) rfl rfl ?_)
  refine wl_of hX hb cL_819 (rw_iconst (pc' := 820) rfl ?_)
  refine wl_of hX hb cL_820 (rw_iadd (pc' := 821) rfl ?_)
  have k3477 : H3462 0 ((i + 2).toNat) = H 0 ((i + 2).toNat) := (f3467 0 ((i + 2).toNat) _ g0 (wmem_s rfl))
  refine wl_of hX hb cL_821 (xa_I (so := 0) (pc' := 822) (a := 0) w3466 g0 (wsh_s _) (by omega) (wty_s _ _) (by omega) (by omega) rfl (fun b3475 b3476 => ?_))
  have k3478 : wKI H3462 m = wKI H m := (wKI_fr hW gm f3467 rfl)
  have k3479 : H3462 x 9 = H x 9 := (f3467 x 9 _ gx rfl)
  have k3480 : H3462 m 6 = H m 6 := (f3467 m 6 _ gm rfl)
  have k3481 : H3462 x 11 = H x 11 := (f3467 x 11 _ gx rfl)
  have k3482 : H3462 m 13 = H m 13 := (f3467 m 13 _ gm rfl)
  have k3483 : H3462 x 8 = H x 8 := (f3467 x 8 _ gx rfl)
  have k3484 : H3462 m 3 = H m 3 := (f3467 m 3 _ gm rfl)
  rw [show H3462 0 ((i + 2).toNat) = H 0 ((i + 2).toNat) by omega]
  rw [show H3462 0 ((i + 1).toNat) = H 0 ((i + 1).toNat) by omega]
  have h3485 : RB T H3462 m e8 d8 := (RB_fr hW gm f3467 rfl hrb8)
  have h3486 : KNN T H3462 m e8 d8 := (KNN_fr hW gm f3467 rfl hknn8)
  refine wl_of hX hb cL_822 (xc_V (pc' := 825) (r := m) (as := [vI (H 0 ((i + 1).toNat)), vI (H 0 ((i + 2).toNat))]) (st := []) (lm_11_108) rfl rfl (Nat.le_of_ble_eq_true rfl) w3466 gm sh_42 (by decide) rfl (by decide) (u_252 (e := e8) (d := d8) w3466 gm ⟨by omega, by omega⟩ ⟨by omega, by omega⟩ (by omega) (by assumption) (by assumption) (by assumption) (by assumption) h3485 h3486) (fun R3487 T3488 H3489 p3490 => ?_))
  obtain ⟨e3491, w3493, f3494, z3495, e3492, b3496, p3497⟩ := p3490
  subst e3491
  subst e3492
  obtain ⟨a3498, a3499⟩ := p3497
  show WL _ _ _ _ 825 [(4, vI i), (3, .ref o), (2, .ref m), (1, .ref x), (0, .ref 0)] [vI z3495] _ H3489
  refine wl_of hX hb cL_825 (rw_pop (pc' := 826) rfl rfl ?_)
  refine wl_of hX hb cL_826 (rw_goto (p1 := 1653) (by decide) ?_)
  have k3500 : H3489 x 9 = H3462 x 9 := (f3494 x 9 _ gx rfl)
  have k3501 : H3489 m 6 = H3462 m 6 := (f3494 m 6 _ gm rfl)
  have k3502 : H3489 x 11 = H3462 x 11 := (f3494 x 11 _ gx rfl)
  have k3503 : H3489 m 13 = H3462 m 13 := (f3494 m 13 _ gm rfl)
  have k3504 : H3489 x 8 = H3462 x 8 := (f3494 x 8 _ gx rfl)
  have k3505 : H3489 m 3 = H3462 m 3 := (f3494 m 3 _ gm rfl)
  have k3506 : H3489 x 0 = H x 0 := ((f3494 x 0 _ gx rfl).trans (f3467 x 0 _ gx rfl))
  have q3507 : H3489 x 0 = (tc : Int) := k3506.trans e0
  have k3508 : H3489 m 5 = H m 5 := ((f3494 m 5 _ gm rfl).trans (f3467 m 5 _ gm rfl))
  have q3509 : H3489 m 5 = (tm : Int) := k3508.trans em
  have k3510 : H3489 x 6 = H x 6 := ((f3494 x 6 _ gx rfl).trans (f3467 x 6 _ gx rfl))
  have q3511 : H3489 x 6 = (cu : Int) := k3510.trans ecu
  have k3512 : H3489 x 7 = H x 7 := ((f3494 x 7 _ gx rfl).trans (f3467 x 7 _ gx rfl))
  have q3513 : H3489 x 7 = (dr : Int) := k3512.trans edr
  have h3514 : CEN T H3489 ce8 e8 d8 := (CEN_fr w3466 gce8 f3494 rfl p3470)
  have h3515 : TP T H3489 tc B := (TP_fr w3466 gtc f3494 rfl (TP_fr hW gtc f3467 rfl htc))
  have h3516 : TM T H3489 tm B := (TM_fr w3466 gtm f3494 rfl (TM_fr hW gtm f3467 rfl htm))
  have h3517 : DD T H3489 cu  := (DD_fr w3466 gcu f3494 rfl (DD_fr hW gcu f3467 rfl hcu))
  have h3518 : DD T H3489 dr  := (DD_fr w3466 gdr f3494 rfl (DD_fr hW gdr f3467 rfl hdr))
  have h3519 : DE T H3489 cu  := (DE_fr w3466 gcu f3494 rfl (DE_fr hW gcu f3467 rfl hdec))
  have h3520 : DE T H3489 dr  := (DE_fr w3466 gdr f3494 rfl (DE_fr hW gdr f3467 rfl hded))
  have h3521 : SP T H3489 x C8 := (SP_fr w3466 gx f3494 rfl (SP_fr hW gx f3467 rfl hsp))
  have h3522 : CU T H3489 cu e8 d8 n8 := (CU_fr w3466 gcu f3494 rfl (CU_fr hW gcu f3467 rfl hcu8))
  have h3523 : CY T H3489 cu (d8 0 3) g8 (H cu 17) := (CY_fr w3466 gcu f3494 rfl (CY_fr hW gcu f3467 rfl h3455))
  have k3524 : H3489 x 3 = H x 3 := ((f3494 x 3 _ gx rfl).trans (f3467 x 3 _ gx rfl))
  have q3525 : H3489 x 3 = (ce8 : Int) := k3524.trans ece8
  have h3526 : HDR T H3489 ce8  := (HDR_fr w3466 gce8 f3494 rfl (HDR_fr hW gce8 f3467 rfl hhdr8))
  have h3527 : RY T H3489 m (d8 0 3) g8 (H m 32) := (RY_fr w3466 gm f3494 rfl (RY_fr hW gm f3467 rfl h3456))
  have h3528 : RB T H3489 m e8 d8 := (RB_fr w3466 gm f3494 rfl h3485)
  exact WL.loc hX (by simp) (next T H3489 ⟨⟨w3493, g0, gx, gm, go, by omega, by omega⟩, ⟨_, tc, tm, cu, dr, _, _, _, _, _, ce8, q3507, gtc, h3515, q3509, gtm, h3516, q3511, gcu, q3513, gdr, h3517, h3518, h3519, h3520, h3521, hC1, hC2, h3522, h3528, (h3523).1, (h3527).1, hE, hZ, (by omega), (by assumption), (by omega), (by first | assumption | exact SG_0), q3525, gce8, h3514, h3526, a3499, gm⟩, by omega, by omega⟩ (by omega) (by omega))
set_option maxHeartbeats 4000000 in
theorem wl_c21 {kt : Nat → Option mc_E} {CB SB : Nat} {X : mc_S → Prop} {T : wq_T} {H : wq_H} {Len x m o : Nat} {i : Int} (hX : wlX kt CB SB X) (hb : T.2.1 ≤ CB ∧ T.2.2.1 ≤ SB) (hI : wlJ Len x m o T H) (hL : Len ≤ 3072) (hi : 0 ≤ i ∧ i + 6 ≤ Len) (hb2 : T.2.1 + 20 ≤ CB ∧ T.2.2.1 + 500 ≤ SB)  (next : ∀ T' H', wlJ Len x m o T' H' → T'.2.1 ≤ T.2.1 + 20 → T'.2.2.1 ≤ T.2.2.1 + 500 → WL kt CB SB X 1653 (wlL i x m o) [] T' H') : WL kt CB SB X 829 (wlL i x m o) [] T H := by
  obtain ⟨⟨hW, g0, gx, gm, go, hK, hr⟩, hXI, hY1, hY2⟩ := hI
  refine wl_of hX hb cL_829 (rw_aload_n (pc' := 830) (v := .ref x) rfl rfl rfl ?_)
  refine wl_of hX hb cL_830 (rw_aload_n (pc' := 831) (v := .ref 0) rfl rfl rfl ?_)
  refine wl_of hX hb cL_831 (rw_iload (pc' := 833) (z := i) rfl rfl ?_)
  refine wl_of hX hb cL_833 (rw_iconst (pc' := 834) rfl ?_)
  refine wl_of hX hb cL_834 (rw_iadd (pc' := 835) rfl ?_)
  refine wl_of hX hb cL_835 (xa_I (so := 0) (pc' := 836) (a := 0) hW g0 (wsh_s _) (by omega) (wty_s _ _) (by omega) (by omega) rfl (fun b3529 b3530 => ?_))
  refine wl_of hX hb cL_836 (rw_aload_n (pc' := 837) (v := .ref 0) rfl rfl rfl ?_)
  refine wl_of hX hb cL_837 (rw_iload (pc' := 839) (z := i) rfl rfl ?_)
  refine wl_of hX hb cL_839 (rw_iconst (pc' := 840) rfl ?_)
  refine wl_of hX hb cL_840 (rw_iadd (pc' := 841) rfl ?_)
  refine wl_of hX hb cL_841 (xa_I (so := 0) (pc' := 842) (a := 0) hW g0 (wsh_s _) (by omega) (wty_s _ _) (by omega) (by omega) rfl (fun b3531 b3532 => ?_))
  refine wl_of hX hb cL_842 (rw_if_eq (p1 := 849) (p2 := 845) (by decide) rfl ⟨by omega, by omega⟩ (fun c3533 => ?_) (fun c3533 => ?_))
  · refine wl_of hX hb cL_849 (rw_iconst (pc' := 850) rfl ?_)
    obtain ⟨B, tc, tm, cu, dr, C8, e8, d8, n8, g8, ce8, e0, gtc, htc, em, gtm, htm, ecu, gcu, edr, gdr, hcu, hdr, hdec, hded, hsp, hC1, hC2, hcu8, hrb8, hcg8, hmn8, hE, hZ, hn8, hXA, hV8, hSG, ece8, gce8, hcen8, hhdr8, hknn8, -⟩ := hXI
    have hN3 := RB_n3 hrb8
    have hE13 : ∀ h : Nat, h < 24 → 0 ≤ e8 13 h ∧ e8 13 h ≤ 100 := fun k hk => by
      obtain ⟨s, h1, h2, h3⟩ := hcu8.1.2.2.1
      exact ⟨(h3 k hk).1, (h3 k hk).2.1⟩
    have hXW := hXA.1
    have hXN := hXA.2
    have hE0 : e8 0 3 = d8 0 3 ∧ e8 0 0 = d8 0 0 := by
      have h := hE 0 (by decide)
      exact ⟨congrFun h 3, congrFun h 0⟩
    have u3534 := CU_k hcu8
    have h3535 : CY T H cu (d8 0 3) g8 (H cu 17) := ⟨hcg8, rfl⟩
    have h3536 : RY T H m (d8 0 3) g8 (H m 32) := ⟨hmn8, rfl⟩
    obtain ⟨t9, ht9⟩ : ∃ t : Int, t = H x 9 := ⟨_, rfl⟩
    obtain ⟨y9, hy9⟩ : ∃ y : Int, y = 0 := ⟨_, rfl⟩
    obtain ⟨r3537, q3538, g3539⟩ := hW.ref gx (t' := 6) (n := 13) (j := 2) (p := 0) (q := 0) rfl (by decide) rfl
    refine wl_of hX hb cL_850 (xc_V (pc' := 853) (r := x) (as := [vI (H 0 ((i + 1).toNat)), vI 0]) (st := []) (lm_11_109) rfl rfl (Nat.le_of_ble_eq_true rfl) hW gx sh_1 (by decide) rfl (by decide) (u_104 (e := e8) (d := d8) (n := n8) hW gx ⟨by omega, by omega⟩ ⟨by decide, by decide⟩ ecu gcu q3538 g3539 ece8 gce8 (by assumption) (by assumption) (by omega) (by omega) (by omega) (by omega) hcu8 hcen8 hhdr8) (fun R3540 T3541 H3542 p3543 => ?_))
    obtain ⟨e3544, w3546, f3547, z3548, e3545, b3549, p3550⟩ := p3543
    subst e3544
    subst e3545
    show WL _ _ _ _ 853 [(4, vI i), (3, .ref o), (2, .ref m), (1, .ref x), (0, .ref 0)] [vI z3548] _ H3542
    refine wl_of hX hb cL_853 (rw_pop (pc' := 854) rfl rfl ?_)
    refine wl_of hX hb cL_854 (rw_aload_n (pc' := 855) (v := .ref m) rfl rfl rfl ?_)
    refine wl_of hX hb cL_855 (rw_aload_n (pc' := 856) (v := .ref 0) rfl rfl rfl ?_)
    refine wl_of hX hb cL_856 (rw_iload (pc' := 858) (z := i) rfl rfl ?_)
    refine wl_of hX hb cL_858 (rw_iconst (pc' := 859) rfl ?_)
    refine wl_of hX hb cL_859 (rw_iadd (pc' := 860) rfl ?_)
    have k3554 : H3542 0 ((i + 1).toNat) = H 0 ((i + 1).toNat) := (f3547 0 ((i + 1).toNat) _ g0 (wmem_s rfl))
    refine wl_of hX hb cL_860 (xa_I (so := 0) (pc' := 861) (a := 0) w3546 g0 (wsh_s _) (by omega) (wty_s _ _) (by omega) (by omega) rfl (fun b3552 b3553 => ?_))
    refine wl_of hX hb cL_861 (rw_aload_n (pc' := 862) (v := .ref 0) rfl rfl rfl ?_)
    refine wl_of hX hb cL_862 (rw_iload (pc' := 864) (z := i) rfl rfl ?_)
    refine wl_of hX hb cL_864 (rw_iconst (pc' := 865) rfl ?_)
    refine wl_of hX hb cL_865 (rw_iadd (pc' := 866) rfl ?_)
    have k3557 : H3542 0 ((i + 2).toNat) = H 0 ((i + 2).toNat) := (f3547 0 ((i + 2).toNat) _ g0 (wmem_s rfl))
    refine wl_of hX hb cL_866 (xa_I (so := 0) (pc' := 867) (a := 0) w3546 g0 (wsh_s _) (by omega) (wty_s _ _) (by omega) (by omega) rfl (fun b3555 b3556 => ?_))
    refine wl_of hX hb cL_867 (rw_if_eq (p1 := 874) (p2 := 870) (by decide) rfl ⟨by omega, by omega⟩ (fun c3558 => ?_) (fun c3558 => ?_))
    · refine wl_of hX hb cL_874 (rw_iconst (pc' := 875) rfl ?_)
      have k3559 : wKI H3542 m = wKI H m := (wKI_fr hW gm f3547 rfl)
      have k3560 : H3542 x 9 = H x 9 := (f3547 x 9 _ gx rfl)
      have k3561 : H3542 m 6 = H m 6 := (f3547 m 6 _ gm rfl)
      have k3562 : H3542 x 11 = H x 11 := (f3547 x 11 _ gx rfl)
      have k3563 : H3542 m 13 = H m 13 := (f3547 m 13 _ gm rfl)
      have k3564 : H3542 x 8 = H x 8 := (f3547 x 8 _ gx rfl)
      have k3565 : H3542 m 3 = H m 3 := (f3547 m 3 _ gm rfl)
      rw [show H3542 0 ((i + 1).toNat) = H 0 ((i + 1).toNat) by omega]
      have h3566 : RB T H3542 m e8 d8 := (RB_fr hW gm f3547 rfl hrb8)
      have h3567 : KNN T H3542 m e8 d8 := (KNN_fr hW gm f3547 rfl hknn8)
      refine wl_of hX hb cL_875 (xc_V (pc' := 878) (r := m) (as := [vI (H 0 ((i + 1).toNat)), vI 0]) (st := []) (lm_11_113) rfl rfl (Nat.le_of_ble_eq_true rfl) w3546 gm sh_42 (by decide) rfl (by decide) (u_254 (e := e8) (d := d8) w3546 gm ⟨by omega, by omega⟩ ⟨by decide, by decide⟩ (by omega) (by assumption) (by assumption) (by assumption) (by assumption) h3566 h3567) (fun R3568 T3569 H3570 p3571 => ?_))
      obtain ⟨e3572, w3574, f3575, z3576, e3573, b3577, p3578⟩ := p3571
      subst e3572
      subst e3573
      obtain ⟨a3579, a3580⟩ := p3578
      show WL _ _ _ _ 878 [(4, vI i), (3, .ref o), (2, .ref m), (1, .ref x), (0, .ref 0)] [vI z3576] _ H3570
      refine wl_of hX hb cL_878 (rw_pop (pc' := 879) rfl rfl ?_)
      refine wl_of hX hb cL_879 (rw_goto (p1 := 1653) (by decide) ?_)
      have k3581 : H3570 x 9 = H3542 x 9 := (f3575 x 9 _ gx rfl)
      have k3582 : H3570 m 6 = H3542 m 6 := (f3575 m 6 _ gm rfl)
      have k3583 : H3570 x 11 = H3542 x 11 := (f3575 x 11 _ gx rfl)
      have k3584 : H3570 m 13 = H3542 m 13 := (f3575 m 13 _ gm rfl)
      have k3585 : H3570 x 8 = H3542 x 8 := (f3575 x 8 _ gx rfl)
      have k3586 : H3570 m 3 = H3542 m 3 := (f3575 m 3 _ gm rfl)
      have k3587 : H3570 x 0 = H x 0 := ((f3575 x 0 _ gx rfl).trans (f3547 x 0 _ gx rfl))
      have q3588 : H3570 x 0 = (tc : Int) := k3587.trans e0
      have k3589 : H3570 m 5 = H m 5 := ((f3575 m 5 _ gm rfl).trans (f3547 m 5 _ gm rfl))
      have q3590 : H3570 m 5 = (tm : Int) := k3589.trans em
      have k3591 : H3570 x 6 = H x 6 := ((f3575 x 6 _ gx rfl).trans (f3547 x 6 _ gx rfl))
      have q3592 : H3570 x 6 = (cu : Int) := k3591.trans ecu
      have k3593 : H3570 x 7 = H x 7 := ((f3575 x 7 _ gx rfl).trans (f3547 x 7 _ gx rfl))
      have q3594 : H3570 x 7 = (dr : Int) := k3593.trans edr
      have h3595 : CEN T H3570 ce8 e8 d8 := (CEN_fr w3546 gce8 f3575 rfl p3550)
      have h3596 : TP T H3570 tc B := (TP_fr w3546 gtc f3575 rfl (TP_fr hW gtc f3547 rfl htc))
      have h3597 : TM T H3570 tm B := (TM_fr w3546 gtm f3575 rfl (TM_fr hW gtm f3547 rfl htm))
      have h3598 : DD T H3570 cu  := (DD_fr w3546 gcu f3575 rfl (DD_fr hW gcu f3547 rfl hcu))
      have h3599 : DD T H3570 dr  := (DD_fr w3546 gdr f3575 rfl (DD_fr hW gdr f3547 rfl hdr))
      have h3600 : DE T H3570 cu  := (DE_fr w3546 gcu f3575 rfl (DE_fr hW gcu f3547 rfl hdec))
      have h3601 : DE T H3570 dr  := (DE_fr w3546 gdr f3575 rfl (DE_fr hW gdr f3547 rfl hded))
      have h3602 : SP T H3570 x C8 := (SP_fr w3546 gx f3575 rfl (SP_fr hW gx f3547 rfl hsp))
      have h3603 : CU T H3570 cu e8 d8 n8 := (CU_fr w3546 gcu f3575 rfl (CU_fr hW gcu f3547 rfl hcu8))
      have h3604 : CY T H3570 cu (d8 0 3) g8 (H cu 17) := (CY_fr w3546 gcu f3575 rfl (CY_fr hW gcu f3547 rfl h3535))
      have k3605 : H3570 x 3 = H x 3 := ((f3575 x 3 _ gx rfl).trans (f3547 x 3 _ gx rfl))
      have q3606 : H3570 x 3 = (ce8 : Int) := k3605.trans ece8
      have h3607 : HDR T H3570 ce8  := (HDR_fr w3546 gce8 f3575 rfl (HDR_fr hW gce8 f3547 rfl hhdr8))
      have h3608 : RY T H3570 m (d8 0 3) g8 (H m 32) := (RY_fr w3546 gm f3575 rfl (RY_fr hW gm f3547 rfl h3536))
      have h3609 : RB T H3570 m e8 d8 := (RB_fr w3546 gm f3575 rfl h3566)
      exact WL.loc hX (by simp) (next T H3570 ⟨⟨w3574, g0, gx, gm, go, by omega, by omega⟩, ⟨_, tc, tm, cu, dr, _, _, _, _, _, ce8, q3588, gtc, h3596, q3590, gtm, h3597, q3592, gcu, q3594, gdr, h3598, h3599, h3600, h3601, h3602, hC1, hC2, h3603, h3609, (h3604).1, (h3608).1, hE, hZ, (by omega), (by assumption), (by omega), (by first | assumption | exact SG_0), q3606, gce8, h3595, h3607, a3580, gm⟩, by omega, by omega⟩ (by omega) (by omega))
    · exfalso
      omega
  · refine wl_of hX hb cL_845 (rw_iconst (pc' := 846) rfl ?_)
    refine wl_of hX hb cL_846 (rw_goto (p1 := 850) (by decide) ?_)
    obtain ⟨B, tc, tm, cu, dr, C8, e8, d8, n8, g8, ce8, e0, gtc, htc, em, gtm, htm, ecu, gcu, edr, gdr, hcu, hdr, hdec, hded, hsp, hC1, hC2, hcu8, hrb8, hcg8, hmn8, hE, hZ, hn8, hXA, hV8, hSG, ece8, gce8, hcen8, hhdr8, hknn8, -⟩ := hXI
    have hN3 := RB_n3 hrb8
    have hE13 : ∀ h : Nat, h < 24 → 0 ≤ e8 13 h ∧ e8 13 h ≤ 100 := fun k hk => by
      obtain ⟨s, h1, h2, h3⟩ := hcu8.1.2.2.1
      exact ⟨(h3 k hk).1, (h3 k hk).2.1⟩
    have hXW := hXA.1
    have hXN := hXA.2
    have hE0 : e8 0 3 = d8 0 3 ∧ e8 0 0 = d8 0 0 := by
      have h := hE 0 (by decide)
      exact ⟨congrFun h 3, congrFun h 0⟩
    have u3610 := CU_k hcu8
    have h3611 : CY T H cu (d8 0 3) g8 (H cu 17) := ⟨hcg8, rfl⟩
    have h3612 : RY T H m (d8 0 3) g8 (H m 32) := ⟨hmn8, rfl⟩
    obtain ⟨t9, ht9⟩ : ∃ t : Int, t = H x 9 := ⟨_, rfl⟩
    obtain ⟨y9, hy9⟩ : ∃ y : Int, y = 1 := ⟨_, rfl⟩
    obtain ⟨r3613, q3614, g3615⟩ := hW.ref gx (t' := 6) (n := 13) (j := 2) (p := 0) (q := 0) rfl (by decide) rfl
    refine wl_of hX hb cL_850 (xc_V (pc' := 853) (r := x) (as := [vI (H 0 ((i + 1).toNat)), vI 1]) (st := []) (lm_11_109) rfl rfl (Nat.le_of_ble_eq_true rfl) hW gx sh_1 (by decide) rfl (by decide) (u_104 (e := e8) (d := d8) (n := n8) hW gx ⟨by omega, by omega⟩ ⟨by decide, by decide⟩ ecu gcu q3614 g3615 ece8 gce8 (by assumption) (by assumption) (by omega) (by omega) (by omega) (by omega) hcu8 hcen8 hhdr8) (fun R3616 T3617 H3618 p3619 => ?_))
    obtain ⟨e3620, w3622, f3623, z3624, e3621, b3625, p3626⟩ := p3619
    subst e3620
    subst e3621
    show WL _ _ _ _ 853 [(4, vI i), (3, .ref o), (2, .ref m), (1, .ref x), (0, .ref 0)] [vI z3624] _ H3618
    refine wl_of hX hb cL_853 (rw_pop (pc' := 854) rfl rfl ?_)
    refine wl_of hX hb cL_854 (rw_aload_n (pc' := 855) (v := .ref m) rfl rfl rfl ?_)
    refine wl_of hX hb cL_855 (rw_aload_n (pc' := 856) (v := .ref 0) rfl rfl rfl ?_)
    refine wl_of hX hb cL_856 (rw_iload (pc' := 858) (z := i) rfl rfl ?_)
    refine wl_of hX hb cL_858 (rw_iconst (pc' := 859) rfl ?_)
    refine wl_of hX hb cL_859 (rw_iadd (pc' := 860) rfl ?_)
    have k3630 : H3618 0 ((i + 1).toNat) = H 0 ((i + 1).toNat) := (f3623 0 ((i + 1).toNat) _ g0 (wmem_s rfl))
    refine wl_of hX hb cL_860 (xa_I (so := 0) (pc' := 861) (a := 0) w3622 g0 (wsh_s _) (by omega) (wty_s _ _) (by omega) (by omega) rfl (fun b3628 b3629 => ?_))
    refine wl_of hX hb cL_861 (rw_aload_n (pc' := 862) (v := .ref 0) rfl rfl rfl ?_)
    refine wl_of hX hb cL_862 (rw_iload (pc' := 864) (z := i) rfl rfl ?_)
    refine wl_of hX hb cL_864 (rw_iconst (pc' := 865) rfl ?_)
    refine wl_of hX hb cL_865 (rw_iadd (pc' := 866) rfl ?_)
    have k3633 : H3618 0 ((i + 2).toNat) = H 0 ((i + 2).toNat) := (f3623 0 ((i + 2).toNat) _ g0 (wmem_s rfl))
    refine wl_of hX hb cL_866 (xa_I (so := 0) (pc' := 867) (a := 0) w3622 g0 (wsh_s _) (by omega) (wty_s _ _) (by omega) (by omega) rfl (fun b3631 b3632 => ?_))
    refine wl_of hX hb cL_867 (rw_if_eq (p1 := 874) (p2 := 870) (by decide) rfl ⟨by omega, by omega⟩ (fun c3634 => ?_) (fun c3634 => ?_))
    · refine wl_of hX hb cL_874 (rw_iconst (pc' := 875) rfl ?_)
      have k3635 : wKI H3618 m = wKI H m := (wKI_fr hW gm f3623 rfl)
      have k3636 : H3618 x 9 = H x 9 := (f3623 x 9 _ gx rfl)
      have k3637 : H3618 m 6 = H m 6 := (f3623 m 6 _ gm rfl)
      have k3638 : H3618 x 11 = H x 11 := (f3623 x 11 _ gx rfl)
      have k3639 : H3618 m 13 = H m 13 := (f3623 m 13 _ gm rfl)
      have k3640 : H3618 x 8 = H x 8 := (f3623 x 8 _ gx rfl)
      have k3641 : H3618 m 3 = H m 3 := (f3623 m 3 _ gm rfl)
      rw [show H3618 0 ((i + 1).toNat) = H 0 ((i + 1).toNat) by omega]
      have h3642 : RB T H3618 m e8 d8 := (RB_fr hW gm f3623 rfl hrb8)
      have h3643 : KNN T H3618 m e8 d8 := (KNN_fr hW gm f3623 rfl hknn8)
      refine wl_of hX hb cL_875 (xc_V (pc' := 878) (r := m) (as := [vI (H 0 ((i + 1).toNat)), vI 0]) (st := []) (lm_11_113) rfl rfl (Nat.le_of_ble_eq_true rfl) w3622 gm sh_42 (by decide) rfl (by decide) (u_254 (e := e8) (d := d8) w3622 gm ⟨by omega, by omega⟩ ⟨by decide, by decide⟩ (by omega) (by assumption) (by assumption) (by assumption) (by assumption) h3642 h3643) (fun R3644 T3645 H3646 p3647 => ?_))
      obtain ⟨e3648, w3650, f3651, z3652, e3649, b3653, p3654⟩ := p3647
      subst e3648
      subst e3649
      obtain ⟨a3655, a3656⟩ := p3654
      show WL _ _ _ _ 878 [(4, vI i), (3, .ref o), (2, .ref m), (1, .ref x), (0, .ref 0)] [vI z3652] _ H3646
      refine wl_of hX hb cL_878 (rw_pop (pc' := 879) rfl rfl ?_)
      refine wl_of hX hb cL_879 (rw_goto (p1 := 1653) (by decide) ?_)
      have k3657 : H3646 x 9 = H3618 x 9 := (f3651 x 9 _ gx rfl)
      have k3658 : H3646 m 6 = H3618 m 6 := (f3651 m 6 _ gm rfl)
      have k3659 : H3646 x 11 = H3618 x 11 := (f3651 x 11 _ gx rfl)
      have k3660 : H3646 m 13 = H3618 m 13 := (f3651 m 13 _ gm rfl)
      have k3661 : H3646 x 8 = H3618 x 8 := (f3651 x 8 _ gx rfl)
      have k3662 : H3646 m 3 = H3618 m 3 := (f3651 m 3 _ gm rfl)
      have k3663 : H3646 x 0 = H x 0 := ((f3651 x 0 _ gx rfl).trans (f3623 x 0 _ gx rfl))
      have q3664 : H3646 x 0 = (tc : Int) := k3663.trans e0
      have k3665 : H3646 m 5 = H m 5 := ((f3651 m 5 _ gm rfl).trans (f3623 m 5 _ gm rfl))
      have q3666 : H3646 m 5 = (tm : Int) := k3665.trans em
      have k3667 : H3646 x 6 = H x 6 := ((f3651 x 6 _ gx rfl).trans (f3623 x 6 _ gx rfl))
      have q3668 : H3646 x 6 = (cu : Int) := k3667.trans ecu
      have k3669 : H3646 x 7 = H x 7 := ((f3651 x 7 _ gx rfl).trans (f3623 x 7 _ gx rfl))
      have q3670 : H3646 x 7 = (dr : Int) := k3669.trans edr
      have h3671 : CEN T H3646 ce8 e8 d8 := (CEN_fr w3622 gce8 f3651 rfl p3626)
      have h3672 : TP T H3646 tc B := (TP_fr w3622 gtc f3651 rfl (TP_fr hW gtc f3623 rfl htc))
      have h3673 : TM T H3646 tm B := (TM_fr w3622 gtm f3651 rfl (TM_fr hW gtm f3623 rfl htm))
      have h3674 : DD T H3646 cu  := (DD_fr w3622 gcu f3651 rfl (DD_fr hW gcu f3623 rfl hcu))
      have h3675 : DD T H3646 dr  := (DD_fr w3622 gdr f3651 rfl (DD_fr hW gdr f3623 rfl hdr))
      have h3676 : DE T H3646 cu  := (DE_fr w3622 gcu f3651 rfl (DE_fr hW gcu f3623 rfl hdec))
      have h3677 : DE T H3646 dr  := (DE_fr w3622 gdr f3651 rfl (DE_fr hW gdr f3623 rfl hded))
      have h3678 : SP T H3646 x C8 := (SP_fr w3622 gx f3651 rfl (SP_fr hW gx f3623 rfl hsp))
      have h3679 : CU T H3646 cu e8 d8 n8 := (CU_fr w3622 gcu f3651 rfl (CU_fr hW gcu f3623 rfl hcu8))
      have h3680 : CY T H3646 cu (d8 0 3) g8 (H cu 17) := (CY_fr w3622 gcu f3651 rfl (CY_fr hW gcu f3623 rfl h3611))
      have k3681 : H3646 x 3 = H x 3 := ((f3651 x 3 _ gx rfl).trans (f3623 x 3 _ gx rfl))
      have q3682 : H3646 x 3 = (ce8 : Int) := k3681.trans ece8
      have h3683 : HDR T H3646 ce8  := (HDR_fr w3622 gce8 f3651 rfl (HDR_fr hW gce8 f3623 rfl hhdr8))
      have h3684 : RY T H3646 m (d8 0 3) g8 (H m 32) := (RY_fr w3622 gm f3651 rfl (RY_fr hW gm f3623 rfl h3612))
      have h3685 : RB T H3646 m e8 d8 := (RB_fr w3622 gm f3651 rfl h3642)
      exact WL.loc hX (by simp) (next T H3646 ⟨⟨w3650, g0, gx, gm, go, by omega, by omega⟩, ⟨_, tc, tm, cu, dr, _, _, _, _, _, ce8, q3664, gtc, h3672, q3666, gtm, h3673, q3668, gcu, q3670, gdr, h3674, h3675, h3676, h3677, h3678, hC1, hC2, h3679, h3685, (h3680).1, (h3684).1, hE, hZ, (by omega), (by assumption), (by omega), (by first | assumption | exact SG_0), q3682, gce8, h3671, h3683, a3656, gm⟩, by omega, by omega⟩ (by omega) (by omega))
    · refine wl_of hX hb cL_870 (rw_iconst (pc' := 871) rfl ?_)
      refine wl_of hX hb cL_871 (rw_goto (p1 := 875) (by decide) ?_)
      have k3686 : wKI H3618 m = wKI H m := (wKI_fr hW gm f3623 rfl)
      have k3687 : H3618 x 9 = H x 9 := (f3623 x 9 _ gx rfl)
      have k3688 : H3618 m 6 = H m 6 := (f3623 m 6 _ gm rfl)
      have k3689 : H3618 x 11 = H x 11 := (f3623 x 11 _ gx rfl)
      have k3690 : H3618 m 13 = H m 13 := (f3623 m 13 _ gm rfl)
      have k3691 : H3618 x 8 = H x 8 := (f3623 x 8 _ gx rfl)
      have k3692 : H3618 m 3 = H m 3 := (f3623 m 3 _ gm rfl)
      rw [show H3618 0 ((i + 1).toNat) = H 0 ((i + 1).toNat) by omega]
      have h3693 : RB T H3618 m e8 d8 := (RB_fr hW gm f3623 rfl hrb8)
      have h3694 : KNN T H3618 m e8 d8 := (KNN_fr hW gm f3623 rfl hknn8)
      refine wl_of hX hb cL_875 (xc_V (pc' := 878) (r := m) (as := [vI (H 0 ((i + 1).toNat)), vI 1]) (st := []) (lm_11_113) rfl rfl (Nat.le_of_ble_eq_true rfl) w3622 gm sh_42 (by decide) rfl (by decide) (u_254 (e := e8) (d := d8) w3622 gm ⟨by omega, by omega⟩ ⟨by decide, by decide⟩ (by omega) (by assumption) (by assumption) (by assumption) (by assumption) h3693 h3694) (fun R3695 T3696 H3697 p3698 => ?_))
      obtain ⟨e3699, w3701, f3702, z3703, e3700, b3704, p3705⟩ := p3698
      subst e3699
      subst e3700
      obtain ⟨a3706, a3707⟩ := p3705
      show WL _ _ _ _ 878 [(4, vI i), (3, .ref o), (2, .ref m), (1, .ref x), (0, .ref 0)] [vI z3703] _ H3697
      refine wl_of hX hb cL_878 (rw_pop (pc' := 879) rfl rfl ?_)
      refine wl_of hX hb cL_879 (rw_goto (p1 := 1653) (by decide) ?_)
      have k3708 : H3697 x 9 = H3618 x 9 := (f3702 x 9 _ gx rfl)
      have k3709 : H3697 m 6 = H3618 m 6 := (f3702 m 6 _ gm rfl)
      have k3710 : H3697 x 11 = H3618 x 11 := (f3702 x 11 _ gx rfl)
      have k3711 : H3697 m 13 = H3618 m 13 := (f3702 m 13 _ gm rfl)
      have k3712 : H3697 x 8 = H3618 x 8 := (f3702 x 8 _ gx rfl)
      have k3713 : H3697 m 3 = H3618 m 3 := (f3702 m 3 _ gm rfl)
      have k3714 : H3697 x 0 = H x 0 := ((f3702 x 0 _ gx rfl).trans (f3623 x 0 _ gx rfl))
      have q3715 : H3697 x 0 = (tc : Int) := k3714.trans e0
      have k3716 : H3697 m 5 = H m 5 := ((f3702 m 5 _ gm rfl).trans (f3623 m 5 _ gm rfl))
      have q3717 : H3697 m 5 = (tm : Int) := k3716.trans em
      have k3718 : H3697 x 6 = H x 6 := ((f3702 x 6 _ gx rfl).trans (f3623 x 6 _ gx rfl))
      have q3719 : H3697 x 6 = (cu : Int) := k3718.trans ecu
      have k3720 : H3697 x 7 = H x 7 := ((f3702 x 7 _ gx rfl).trans (f3623 x 7 _ gx rfl))
      have q3721 : H3697 x 7 = (dr : Int) := k3720.trans edr
      have h3722 : CEN T H3697 ce8 e8 d8 := (CEN_fr w3622 gce8 f3702 rfl p3626)
      have h3723 : TP T H3697 tc B := (TP_fr w3622 gtc f3702 rfl (TP_fr hW gtc f3623 rfl htc))
      have h3724 : TM T H3697 tm B := (TM_fr w3622 gtm f3702 rfl (TM_fr hW gtm f3623 rfl htm))
      have h3725 : DD T H3697 cu  := (DD_fr w3622 gcu f3702 rfl (DD_fr hW gcu f3623 rfl hcu))
      have h3726 : DD T H3697 dr  := (DD_fr w3622 gdr f3702 rfl (DD_fr hW gdr f3623 rfl hdr))
      have h3727 : DE T H3697 cu  := (DE_fr w3622 gcu f3702 rfl (DE_fr hW gcu f3623 rfl hdec))
      have h3728 : DE T H3697 dr  := (DE_fr w3622 gdr f3702 rfl (DE_fr hW gdr f3623 rfl hded))
      have h3729 : SP T H3697 x C8 := (SP_fr w3622 gx f3702 rfl (SP_fr hW gx f3623 rfl hsp))
      have h3730 : CU T H3697 cu e8 d8 n8 := (CU_fr w3622 gcu f3702 rfl (CU_fr hW gcu f3623 rfl hcu8))
      have h3731 : CY T H3697 cu (d8 0 3) g8 (H cu 17) := (CY_fr w3622 gcu f3702 rfl (CY_fr hW gcu f3623 rfl h3611))
      have k3732 : H3697 x 3 = H x 3 := ((f3702 x 3 _ gx rfl).trans (f3623 x 3 _ gx rfl))
      have q3733 : H3697 x 3 = (ce8 : Int) := k3732.trans ece8
      have h3734 : HDR T H3697 ce8  := (HDR_fr w3622 gce8 f3702 rfl (HDR_fr hW gce8 f3623 rfl hhdr8))
      have h3735 : RY T H3697 m (d8 0 3) g8 (H m 32) := (RY_fr w3622 gm f3702 rfl (RY_fr hW gm f3623 rfl h3612))
      have h3736 : RB T H3697 m e8 d8 := (RB_fr w3622 gm f3702 rfl h3693)
      exact WL.loc hX (by simp) (next T H3697 ⟨⟨w3701, g0, gx, gm, go, by omega, by omega⟩, ⟨_, tc, tm, cu, dr, _, _, _, _, _, ce8, q3715, gtc, h3723, q3717, gtm, h3724, q3719, gcu, q3721, gdr, h3725, h3726, h3727, h3728, h3729, hC1, hC2, h3730, h3736, (h3731).1, (h3735).1, hE, hZ, (by omega), (by assumption), (by omega), (by first | assumption | exact SG_0), q3733, gce8, h3722, h3734, a3707, gm⟩, by omega, by omega⟩ (by omega) (by omega))
