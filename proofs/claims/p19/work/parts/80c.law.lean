/-! THE LAW, GONE ON WITH (own work) -/
set_option maxHeartbeats 4000000 in
theorem wl_c16 {kt : Nat → Option mc_E} {CB SB : Nat} {X : mc_S → Prop} {T : wq_T} {H : wq_H} {Len x m o : Nat} {i : Int} (hX : wlX kt CB SB X) (hb : T.2.1 ≤ CB ∧ T.2.2.1 ≤ SB) (hI : wlJ Len x m o T H) (hL : Len ≤ 3072) (hi : 0 ≤ i ∧ i + 6 ≤ Len) (hb2 : T.2.1 + 20 ≤ CB ∧ T.2.2.1 + 500 ≤ SB)  (next : ∀ T' H', wlJ Len x m o T' H' → T'.2.1 ≤ T.2.1 + 20 → T'.2.2.1 ≤ T.2.2.1 + 500 → WL kt CB SB X 1654 (wlL i x m o) [] T' H') : WL kt CB SB X 668 (wlL i x m o) [] T H := by
  obtain ⟨⟨hW, g0, gx, gm, go, hK, hr⟩, hXI, hY1, hY2⟩ := hI
  refine wl_of hX hb cL_668 (rw_aload_n (pc' := 669) (v := .ref x) rfl rfl rfl ?_)
  refine wl_of hX hb cL_669 (rw_aload_n (pc' := 670) (v := .ref 0) rfl rfl rfl ?_)
  refine wl_of hX hb cL_670 (rw_iload (pc' := 672) (z := i) rfl rfl ?_)
  refine wl_of hX hb cL_672 (rw_iconst (pc' := 673) rfl ?_)
  refine wl_of hX hb cL_673 (rw_iadd (pc' := 674) rfl ?_)
  refine wl_of hX hb cL_674 (xa_I (so := 0) (pc' := 675) (a := 0) hW g0 (wsh_s _) (by omega) (wty_s _ _) (by omega) (by omega) rfl (fun b3008 b3009 => ?_))
  refine wl_of hX hb cL_675 (rw_aload_n (pc' := 676) (v := .ref 0) rfl rfl rfl ?_)
  refine wl_of hX hb cL_676 (rw_iload (pc' := 678) (z := i) rfl rfl ?_)
  refine wl_of hX hb cL_678 (rw_iconst (pc' := 679) rfl ?_)
  refine wl_of hX hb cL_679 (rw_iadd (pc' := 680) rfl ?_)
  refine wl_of hX hb cL_680 (xa_I (so := 0) (pc' := 681) (a := 0) hW g0 (wsh_s _) (by omega) (wty_s _ _) (by omega) (by omega) rfl (fun b3010 b3011 => ?_))
  obtain ⟨B, tc, tm, cu, dr, C8, e8, d8, n8, g8, ce8, e0, gtc, htc, em, gtm, htm, ecu, gcu, edr, gdr, hcu, hdr, hdec, hded, hsp, hC1, hC2, hcu8, hrb8, hcg8, hmn8, hE, hZ, hn8, hXA, hV8, hSG, ece8, gce8, hcen8, hhdr8, hknn8, -⟩ := hXI
  have hN3 := RB_n3 hrb8
  have hE13 : ∀ h : Nat, h < 24 → 0 ≤ e8 13 h ∧ e8 13 h ≤ 100 := fun k hk => by
    obtain ⟨s, h1, h2, h3⟩ := hcu8.1.2.2.1
    exact ⟨(h3 k hk).1, (h3 k hk).2.1⟩
  have hXW := hXA.1
  have hXN := hXA.2
  have hE0 : e8 0 3 = d8 0 3 ∧ e8 0 0 = d8 0 0 := by
    have h := hE 0 (by decide)
    exact ⟨congrFun h 3, congrFun h 0⟩
  have u3012 := CU_k hcu8
  have h3013 : CY T H cu (d8 0 3) g8 (H cu 17) := ⟨hcg8, rfl⟩
  have h3014 : RY T H m (d8 0 3) g8 (H m 32) := ⟨hmn8, rfl⟩
  obtain ⟨t9, ht9⟩ : ∃ t : Int, t = H x 9 := ⟨_, rfl⟩
  obtain ⟨y9, hy9⟩ : ∃ y : Int, y = H 0 ((i + 2).toNat) := ⟨_, rfl⟩
  obtain ⟨r3015, q3016, g3017⟩ := hW.ref gx (t' := 6) (n := 13) (j := 2) (p := 0) (q := 0) rfl (by decide) rfl
  refine wl_of hX hb cL_681 (xc_V (pc' := 684) (r := x) (as := [vI (H 0 ((i + 1).toNat)), vI (H 0 ((i + 2).toNat))]) (st := []) (lm_11_88) rfl rfl (Nat.le_of_ble_eq_true rfl) hW gx sh_1 (by decide) rfl (by decide) (u_93 (e := e8) (d := d8) (n := n8) hW gx ⟨by omega, by omega⟩ ⟨by omega, by omega⟩ ecu gcu q3016 g3017 ece8 gce8 (by assumption) (by assumption) (by omega) (by omega) (by omega) (by omega) hcu8 hcen8 hhdr8) (fun R3018 T3019 H3020 p3021 => ?_))
  obtain ⟨e3022, w3024, f3025, z3026, e3023, b3027, p3028⟩ := p3021
  subst e3022
  subst e3023
  show WL _ _ _ _ 684 [(4, vI i), (3, .ref o), (2, .ref m), (1, .ref x), (0, .ref 0)] [vI z3026] _ H3020
  refine wl_of hX hb cL_684 (rw_pop (pc' := 685) rfl rfl ?_)
  refine wl_of hX hb cL_685 (rw_aload_n (pc' := 686) (v := .ref m) rfl rfl rfl ?_)
  refine wl_of hX hb cL_686 (rw_aload_n (pc' := 687) (v := .ref 0) rfl rfl rfl ?_)
  refine wl_of hX hb cL_687 (rw_iload (pc' := 689) (z := i) rfl rfl ?_)
  refine wl_of hX hb cL_689 (rw_iconst (pc' := 690) rfl ?_)
  refine wl_of hX hb cL_690 (rw_iadd (pc' := 691) rfl ?_)
  have k3032 : H3020 0 ((i + 1).toNat) = H 0 ((i + 1).toNat) := (f3025 0 ((i + 1).toNat) _ g0 (wmem_s rfl))
  refine wl_of hX hb cL_691 (xa_I (so := 0) (pc' := 692) (a := 0) w3024 g0 (wsh_s _) (by omega) (wty_s _ _) (by omega) (by omega) rfl (fun b3030 b3031 => ?_))
  refine wl_of hX hb cL_692 (rw_aload_n (pc' := 693) (v := .ref 0) rfl rfl rfl ?_)
  refine wl_of hX hb cL_693 (rw_iload (pc' := 695) (z := i) rfl rfl ?_)
  refine wl_of hX hb cL_695 (rw_iconst (pc' := 696) rfl ?_)
  refine wl_of hX hb cL_696 (rw_iadd (pc' := 697) rfl ?_)
  have k3035 : H3020 0 ((i + 2).toNat) = H 0 ((i + 2).toNat) := (f3025 0 ((i + 2).toNat) _ g0 (wmem_s rfl))
  refine wl_of hX hb cL_697 (xa_I (so := 0) (pc' := 698) (a := 0) w3024 g0 (wsh_s _) (by omega) (wty_s _ _) (by omega) (by omega) rfl (fun b3033 b3034 => ?_))
  have k3036 : wKI H3020 m = wKI H m := (wKI_fr hW gm f3025 rfl)
  have k3037 : H3020 x 9 = H x 9 := (f3025 x 9 _ gx rfl)
  have k3038 : H3020 m 6 = H m 6 := (f3025 m 6 _ gm rfl)
  have k3039 : H3020 x 11 = H x 11 := (f3025 x 11 _ gx rfl)
  have k3040 : H3020 m 13 = H m 13 := (f3025 m 13 _ gm rfl)
  have k3041 : H3020 x 8 = H x 8 := (f3025 x 8 _ gx rfl)
  have k3042 : H3020 m 3 = H m 3 := (f3025 m 3 _ gm rfl)
  rw [show H3020 0 ((i + 2).toNat) = H 0 ((i + 2).toNat) by omega]
  rw [show H3020 0 ((i + 1).toNat) = H 0 ((i + 1).toNat) by omega]
  have h3043 : RB T H3020 m e8 d8 := (RB_fr hW gm f3025 rfl hrb8)
  have h3044 : KNN T H3020 m e8 d8 := (KNN_fr hW gm f3025 rfl hknn8)
  refine wl_of hX hb cL_698 (xc_V (pc' := 701) (r := m) (as := [vI (H 0 ((i + 1).toNat)), vI (H 0 ((i + 2).toNat))]) (st := []) (lm_11_92) rfl rfl (Nat.le_of_ble_eq_true rfl) w3024 gm sh_42 (by decide) rfl (by decide) (u_245 (e := e8) (d := d8) w3024 gm ⟨by omega, by omega⟩ ⟨by omega, by omega⟩ (by omega) (by assumption) (by assumption) (by assumption) (by assumption) h3043 h3044) (fun R3045 T3046 H3047 p3048 => ?_))
  obtain ⟨e3049, w3051, f3052, z3053, e3050, b3054, p3055⟩ := p3048
  subst e3049
  subst e3050
  obtain ⟨a3056, a3057⟩ := p3055
  show WL _ _ _ _ 701 [(4, vI i), (3, .ref o), (2, .ref m), (1, .ref x), (0, .ref 0)] [vI z3053] _ H3047
  refine wl_of hX hb cL_701 (rw_pop (pc' := 702) rfl rfl ?_)
  refine wl_of hX hb cL_702 (rw_goto (p1 := 1654) (by decide) ?_)
  have k3058 : H3047 x 9 = H3020 x 9 := (f3052 x 9 _ gx rfl)
  have k3059 : H3047 m 6 = H3020 m 6 := (f3052 m 6 _ gm rfl)
  have k3060 : H3047 x 11 = H3020 x 11 := (f3052 x 11 _ gx rfl)
  have k3061 : H3047 m 13 = H3020 m 13 := (f3052 m 13 _ gm rfl)
  have k3062 : H3047 x 8 = H3020 x 8 := (f3052 x 8 _ gx rfl)
  have k3063 : H3047 m 3 = H3020 m 3 := (f3052 m 3 _ gm rfl)
  have k3064 : H3047 x 0 = H x 0 := ((f3052 x 0 _ gx rfl).trans (f3025 x 0 _ gx rfl))
  have q3065 : H3047 x 0 = (tc : Int) := k3064.trans e0
  have k3066 : H3047 m 5 = H m 5 := ((f3052 m 5 _ gm rfl).trans (f3025 m 5 _ gm rfl))
  have q3067 : H3047 m 5 = (tm : Int) := k3066.trans em
  have k3068 : H3047 x 6 = H x 6 := ((f3052 x 6 _ gx rfl).trans (f3025 x 6 _ gx rfl))
  have q3069 : H3047 x 6 = (cu : Int) := k3068.trans ecu
  have k3070 : H3047 x 7 = H x 7 := ((f3052 x 7 _ gx rfl).trans (f3025 x 7 _ gx rfl))
  have q3071 : H3047 x 7 = (dr : Int) := k3070.trans edr
  have h3072 : CEN T H3047 ce8 e8 d8 := (CEN_fr w3024 gce8 f3052 rfl p3028)
  have h3073 : TP T H3047 tc B := (TP_fr w3024 gtc f3052 rfl (TP_fr hW gtc f3025 rfl htc))
  have h3074 : TM T H3047 tm B := (TM_fr w3024 gtm f3052 rfl (TM_fr hW gtm f3025 rfl htm))
  have h3075 : DD T H3047 cu  := (DD_fr w3024 gcu f3052 rfl (DD_fr hW gcu f3025 rfl hcu))
  have h3076 : DD T H3047 dr  := (DD_fr w3024 gdr f3052 rfl (DD_fr hW gdr f3025 rfl hdr))
  have h3077 : DE T H3047 cu  := (DE_fr w3024 gcu f3052 rfl (DE_fr hW gcu f3025 rfl hdec))
  have h3078 : DE T H3047 dr  := (DE_fr w3024 gdr f3052 rfl (DE_fr hW gdr f3025 rfl hded))
  have h3079 : SP T H3047 x C8 := (SP_fr w3024 gx f3052 rfl (SP_fr hW gx f3025 rfl hsp))
  have h3080 : CU T H3047 cu e8 d8 n8 := (CU_fr w3024 gcu f3052 rfl (CU_fr hW gcu f3025 rfl hcu8))
  have h3081 : CY T H3047 cu (d8 0 3) g8 (H cu 17) := (CY_fr w3024 gcu f3052 rfl (CY_fr hW gcu f3025 rfl h3013))
  have k3082 : H3047 x 3 = H x 3 := ((f3052 x 3 _ gx rfl).trans (f3025 x 3 _ gx rfl))
  have q3083 : H3047 x 3 = (ce8 : Int) := k3082.trans ece8
  have h3084 : HDR T H3047 ce8  := (HDR_fr w3024 gce8 f3052 rfl (HDR_fr hW gce8 f3025 rfl hhdr8))
  have h3085 : RY T H3047 m (d8 0 3) g8 (H m 32) := (RY_fr w3024 gm f3052 rfl (RY_fr hW gm f3025 rfl h3014))
  have h3086 : RB T H3047 m e8 d8 := (RB_fr w3024 gm f3052 rfl h3043)
  exact WL.loc hX (by simp) (next T H3047 ⟨⟨w3051, g0, gx, gm, go, by omega, by omega⟩, ⟨_, tc, tm, cu, dr, _, _, _, _, _, ce8, q3065, gtc, h3073, q3067, gtm, h3074, q3069, gcu, q3071, gdr, h3075, h3076, h3077, h3078, h3079, hC1, hC2, h3080, h3086, (h3081).1, (h3085).1, hE, hZ, (by omega), (by assumption), (by omega), (by first | assumption | exact SG_0), q3083, gce8, h3072, h3084, a3057, gm⟩, by omega, by omega⟩ (by omega) (by omega))
set_option maxHeartbeats 4000000 in
theorem wl_c17 {kt : Nat → Option mc_E} {CB SB : Nat} {X : mc_S → Prop} {T : wq_T} {H : wq_H} {Len x m o : Nat} {i : Int} (hX : wlX kt CB SB X) (hb : T.2.1 ≤ CB ∧ T.2.2.1 ≤ SB) (hI : wlJ Len x m o T H) (hL : Len ≤ 3072) (hi : 0 ≤ i ∧ i + 6 ≤ Len) (hb2 : T.2.1 + 20 ≤ CB ∧ T.2.2.1 + 500 ≤ SB)  (next : ∀ T' H', wlJ Len x m o T' H' → T'.2.1 ≤ T.2.1 + 20 → T'.2.2.1 ≤ T.2.2.1 + 500 → WL kt CB SB X 1654 (wlL i x m o) [] T' H') : WL kt CB SB X 705 (wlL i x m o) [] T H := by
  obtain ⟨⟨hW, g0, gx, gm, go, hK, hr⟩, hXI, hY1, hY2⟩ := hI
  refine wl_of hX hb cL_705 (rw_aload_n (pc' := 706) (v := .ref x) rfl rfl rfl ?_)
  obtain ⟨B, tc, tm, cu, dr, C8, e8, d8, n8, g8, ce8, e0, gtc, htc, em, gtm, htm, ecu, gcu, edr, gdr, hcu, hdr, hdec, hded, hsp, hC1, hC2, hcu8, hrb8, hcg8, hmn8, hE, hZ, hn8, hXA, hV8, hSG, ece8, gce8, hcen8, hhdr8, hknn8, -⟩ := hXI
  have hN3 := RB_n3 hrb8
  have hE13 : ∀ h : Nat, h < 24 → 0 ≤ e8 13 h ∧ e8 13 h ≤ 100 := fun k hk => by
    obtain ⟨s, h1, h2, h3⟩ := hcu8.1.2.2.1
    exact ⟨(h3 k hk).1, (h3 k hk).2.1⟩
  have hXW := hXA.1
  have hXN := hXA.2
  have hE0 : e8 0 3 = d8 0 3 ∧ e8 0 0 = d8 0 0 := by
    have h := hE 0 (by decide)
    exact ⟨congrFun h 3, congrFun h 0⟩
  have u3087 := CU_k hcu8
  have h3088 : CY T H cu (d8 0 3) g8 (H cu 17) := ⟨hcg8, rfl⟩
  have h3089 : RY T H m (d8 0 3) g8 (H m 32) := ⟨hmn8, rfl⟩
  obtain ⟨t9, ht9⟩ : ∃ t : Int, t = H x 9 := ⟨_, rfl⟩
  obtain ⟨r3090, q3091, g3092⟩ := hW.ref gx (t' := 6) (n := 13) (j := 2) (p := 0) (q := 0) rfl (by decide) rfl
  refine wl_of hX hb cL_706 (xc_V (pc' := 709) (r := x) (as := []) (st := []) (lm_11_93) rfl rfl (Nat.le_of_ble_eq_true rfl) hW gx sh_1 (by decide) rfl (by decide) (u_97 (e := e8) (d := d8) (n := n8) hW gx ecu gcu q3091 g3092 ece8 gce8 (by assumption) (by assumption) (by omega) (by omega) (by omega) (by omega) hcu8 hcen8 hhdr8) (fun R3093 T3094 H3095 p3096 => ?_))
  obtain ⟨e3097, w3099, f3100, z3101, e3098, b3102, p3103⟩ := p3096
  subst e3097
  subst e3098
  rcases p3103 with ⟨a3104, a3105, a3106⟩ | ⟨a3107, a3108, a3109⟩
  · show WL _ _ _ _ 709 [(4, vI i), (3, .ref o), (2, .ref m), (1, .ref x), (0, .ref 0)] [vL z3101] _ H3095
    refine wl_of hX hb cL_709 (rw_aload_n (pc' := 710) (v := .ref m) rfl rfl rfl ?_)
    have k3110 : wKI H3095 m = wKI H m := (wKI_fr hW gm f3100 rfl)
    have k3111 : H3095 x 9 = H x 9 := (f3100 x 9 _ gx rfl)
    have k3112 : H3095 m 6 = H m 6 := (f3100 m 6 _ gm rfl)
    have k3113 : H3095 x 11 = H x 11 := (f3100 x 11 _ gx rfl)
    have k3114 : H3095 m 13 = H m 13 := (f3100 m 13 _ gm rfl)
    have k3115 : H3095 x 8 = H x 8 := (f3100 x 8 _ gx rfl)
    have k3116 : H3095 m 3 = H m 3 := (f3100 m 3 _ gm rfl)
    have h3117 : RB T H3095 m e8 d8 := (RB_fr hW gm f3100 rfl hrb8)
    have h3118 : KNN T H3095 m e8 d8 := (KNN_fr hW gm f3100 rfl hknn8)
    refine wl_of hX hb cL_710 (xc_V (pc' := 713) (r := m) (as := []) (st := [vL z3101]) (lm_11_96) rfl rfl (Nat.le_of_ble_eq_true rfl) w3099 gm sh_42 (by decide) rfl (by decide) (u_246 (e := e8) (d := d8) w3099 gm (by omega) (by assumption) (by assumption) (by assumption) (by assumption) h3117 h3118) (fun R3119 T3120 H3121 p3122 => ?_))
    obtain ⟨e3123, w3125, f3126, z3127, e3124, b3128, p3129⟩ := p3122
    subst e3123
    subst e3124
    rcases p3129 with ⟨a3130, a3131, a3132, a3133⟩ | ⟨a3134, a3135, a3136, a3137⟩
    · show WL _ _ _ _ 713 [(4, vI i), (3, .ref o), (2, .ref m), (1, .ref x), (0, .ref 0)] [vL z3127, vL z3101] _ H3121
      refine wl_of hX hb cL_713 (rw_lcmp (pc' := 714) rfl ⟨b3102.1, b3102.2⟩ ⟨b3128.1, b3128.2⟩ ?_)
      have b3138 := wq_cmp_b z3101 z3127
      refine wl_of hX hb cL_714 (rw_if_eq (p1 := 1654) (p2 := 717) (by decide) rfl ⟨by omega, by omega⟩ (fun c3139 => ?_) (fun c3139 => ?_))
      · have k3140 : H3121 x 9 = H3095 x 9 := (f3126 x 9 _ gx rfl)
        have k3141 : H3121 m 6 = H3095 m 6 := (f3126 m 6 _ gm rfl)
        have k3142 : H3121 x 11 = H3095 x 11 := (f3126 x 11 _ gx rfl)
        have k3143 : H3121 m 13 = H3095 m 13 := (f3126 m 13 _ gm rfl)
        have k3144 : H3121 x 8 = H3095 x 8 := (f3126 x 8 _ gx rfl)
        have k3145 : H3121 m 3 = H3095 m 3 := (f3126 m 3 _ gm rfl)
        have k3146 : H3121 x 0 = H x 0 := ((f3126 x 0 _ gx rfl).trans (f3100 x 0 _ gx rfl))
        have q3147 : H3121 x 0 = (tc : Int) := k3146.trans e0
        have k3148 : H3121 m 5 = H m 5 := ((f3126 m 5 _ gm rfl).trans (f3100 m 5 _ gm rfl))
        have q3149 : H3121 m 5 = (tm : Int) := k3148.trans em
        have k3150 : H3121 x 6 = H x 6 := ((f3126 x 6 _ gx rfl).trans (f3100 x 6 _ gx rfl))
        have q3151 : H3121 x 6 = (cu : Int) := k3150.trans ecu
        have k3152 : H3121 x 7 = H x 7 := ((f3126 x 7 _ gx rfl).trans (f3100 x 7 _ gx rfl))
        have q3153 : H3121 x 7 = (dr : Int) := k3152.trans edr
        have h3154 : CEN T H3121 ce8 e8 d8 := (CEN_fr w3099 gce8 f3126 rfl a3106)
        have h3155 : TP T H3121 tc B := (TP_fr w3099 gtc f3126 rfl (TP_fr hW gtc f3100 rfl htc))
        have h3156 : TM T H3121 tm B := (TM_fr w3099 gtm f3126 rfl (TM_fr hW gtm f3100 rfl htm))
        have h3157 : DD T H3121 cu  := (DD_fr w3099 gcu f3126 rfl (DD_fr hW gcu f3100 rfl hcu))
        have h3158 : DD T H3121 dr  := (DD_fr w3099 gdr f3126 rfl (DD_fr hW gdr f3100 rfl hdr))
        have h3159 : DE T H3121 cu  := (DE_fr w3099 gcu f3126 rfl (DE_fr hW gcu f3100 rfl hdec))
        have h3160 : DE T H3121 dr  := (DE_fr w3099 gdr f3126 rfl (DE_fr hW gdr f3100 rfl hded))
        have h3161 : SP T H3121 x C8 := (SP_fr w3099 gx f3126 rfl (SP_fr hW gx f3100 rfl hsp))
        have h3162 : CU T H3121 cu e8 d8 n8 := (CU_fr w3099 gcu f3126 rfl (CU_fr hW gcu f3100 rfl hcu8))
        have h3163 : CY T H3121 cu (d8 0 3) g8 (H cu 17) := (CY_fr w3099 gcu f3126 rfl (CY_fr hW gcu f3100 rfl h3088))
        have k3164 : H3121 x 3 = H x 3 := ((f3126 x 3 _ gx rfl).trans (f3100 x 3 _ gx rfl))
        have q3165 : H3121 x 3 = (ce8 : Int) := k3164.trans ece8
        have h3166 : HDR T H3121 ce8  := (HDR_fr w3099 gce8 f3126 rfl (HDR_fr hW gce8 f3100 rfl hhdr8))
        have h3167 : RY T H3121 m (d8 0 3) g8 (H m 32) := (RY_fr w3099 gm f3126 rfl (RY_fr hW gm f3100 rfl h3089))
        have h3168 : RB T H3121 m e8 d8 := (RB_fr w3099 gm f3126 rfl h3117)
        exact WL.loc hX (by simp) (next T H3121 ⟨⟨w3125, g0, gx, gm, go, by omega, by omega⟩, ⟨_, tc, tm, cu, dr, _, _, _, _, _, ce8, q3147, gtc, h3155, q3149, gtm, h3156, q3151, gcu, q3153, gdr, h3157, h3158, h3159, h3160, h3161, hC1, hC2, h3162, h3168, (h3163).1, (h3167).1, hE, hZ, (by omega), (by assumption), (by omega), (by first | assumption | exact SG_0), q3165, gce8, h3154, h3166, a3133, gm⟩, by omega, by omega⟩ (by omega) (by omega))
      · refine wl_of hX hb cL_717 (rw_iconst (pc' := 718) rfl ?_)
        exfalso
        omega
    · show WL _ _ _ _ 713 [(4, vI i), (3, .ref o), (2, .ref m), (1, .ref x), (0, .ref 0)] [vL z3127, vL z3101] _ H3121
      refine wl_of hX hb cL_713 (rw_lcmp (pc' := 714) rfl ⟨b3102.1, b3102.2⟩ ⟨b3128.1, b3128.2⟩ ?_)
      have b3169 := wq_cmp_b z3101 z3127
      refine wl_of hX hb cL_714 (rw_if_eq (p1 := 1654) (p2 := 717) (by decide) rfl ⟨by omega, by omega⟩ (fun c3170 => ?_) (fun c3170 => ?_))
      · have k3171 : H3121 x 9 = H3095 x 9 := (f3126 x 9 _ gx rfl)
        have k3172 : H3121 m 6 = H3095 m 6 := (f3126 m 6 _ gm rfl)
        have k3173 : H3121 x 11 = H3095 x 11 := (f3126 x 11 _ gx rfl)
        have k3174 : H3121 m 13 = H3095 m 13 := (f3126 m 13 _ gm rfl)
        have k3175 : H3121 x 8 = H3095 x 8 := (f3126 x 8 _ gx rfl)
        have k3176 : H3121 m 3 = H3095 m 3 := (f3126 m 3 _ gm rfl)
        have k3177 : H3121 x 0 = H x 0 := ((f3126 x 0 _ gx rfl).trans (f3100 x 0 _ gx rfl))
        have q3178 : H3121 x 0 = (tc : Int) := k3177.trans e0
        have k3179 : H3121 m 5 = H m 5 := ((f3126 m 5 _ gm rfl).trans (f3100 m 5 _ gm rfl))
        have q3180 : H3121 m 5 = (tm : Int) := k3179.trans em
        have k3181 : H3121 x 6 = H x 6 := ((f3126 x 6 _ gx rfl).trans (f3100 x 6 _ gx rfl))
        have q3182 : H3121 x 6 = (cu : Int) := k3181.trans ecu
        have k3183 : H3121 x 7 = H x 7 := ((f3126 x 7 _ gx rfl).trans (f3100 x 7 _ gx rfl))
        have q3184 : H3121 x 7 = (dr : Int) := k3183.trans edr
        have h3185 : CEN T H3121 ce8 e8 d8 := (CEN_fr w3099 gce8 f3126 rfl a3106)
        have h3186 : TP T H3121 tc B := (TP_fr w3099 gtc f3126 rfl (TP_fr hW gtc f3100 rfl htc))
        have h3187 : TM T H3121 tm B := (TM_fr w3099 gtm f3126 rfl (TM_fr hW gtm f3100 rfl htm))
        have h3188 : DD T H3121 cu  := (DD_fr w3099 gcu f3126 rfl (DD_fr hW gcu f3100 rfl hcu))
        have h3189 : DD T H3121 dr  := (DD_fr w3099 gdr f3126 rfl (DD_fr hW gdr f3100 rfl hdr))
        have h3190 : DE T H3121 cu  := (DE_fr w3099 gcu f3126 rfl (DE_fr hW gcu f3100 rfl hdec))
        have h3191 : DE T H3121 dr  := (DE_fr w3099 gdr f3126 rfl (DE_fr hW gdr f3100 rfl hded))
        have h3192 : SP T H3121 x C8 := (SP_fr w3099 gx f3126 rfl (SP_fr hW gx f3100 rfl hsp))
        have h3193 : CU T H3121 cu e8 d8 n8 := (CU_fr w3099 gcu f3126 rfl (CU_fr hW gcu f3100 rfl hcu8))
        have h3194 : CY T H3121 cu (d8 0 3) g8 (H cu 17) := (CY_fr w3099 gcu f3126 rfl (CY_fr hW gcu f3100 rfl h3088))
        have k3195 : H3121 x 3 = H x 3 := ((f3126 x 3 _ gx rfl).trans (f3100 x 3 _ gx rfl))
        have q3196 : H3121 x 3 = (ce8 : Int) := k3195.trans ece8
        have h3197 : HDR T H3121 ce8  := (HDR_fr w3099 gce8 f3126 rfl (HDR_fr hW gce8 f3100 rfl hhdr8))
        have h3198 : RY T H3121 m (d8 0 3) g8 (H m 32) := (RY_fr w3099 gm f3126 rfl (RY_fr hW gm f3100 rfl h3089))
        have h3199 : RB T H3121 m e8 d8 := (RB_fr w3099 gm f3126 rfl h3117)
        exact WL.loc hX (by simp) (next T H3121 ⟨⟨w3125, g0, gx, gm, go, by omega, by omega⟩, ⟨_, tc, tm, cu, dr, _, _, _, _, _, ce8, q3178, gtc, h3186, q3180, gtm, h3187, q3182, gcu, q3184, gdr, h3188, h3189, h3190, h3191, h3192, hC1, hC2, h3193, h3199, (h3194).1, (h3198).1, hE, hZ, (by omega), (by assumption), (by omega), (by first | assumption | exact SG_0), q3196, gce8, h3185, h3197, a3137, gm⟩, by omega, by omega⟩ (by omega) (by omega))
      · refine wl_of hX hb cL_717 (rw_iconst (pc' := 718) rfl ?_)
        exfalso
        omega
  · show WL _ _ _ _ 709 [(4, vI i), (3, .ref o), (2, .ref m), (1, .ref x), (0, .ref 0)] [vL z3101] _ H3095
    refine wl_of hX hb cL_709 (rw_aload_n (pc' := 710) (v := .ref m) rfl rfl rfl ?_)
    have k3200 : wKI H3095 m = wKI H m := (wKI_fr hW gm f3100 rfl)
    have k3201 : H3095 x 9 = H x 9 := (f3100 x 9 _ gx rfl)
    have k3202 : H3095 m 6 = H m 6 := (f3100 m 6 _ gm rfl)
    have k3203 : H3095 x 11 = H x 11 := (f3100 x 11 _ gx rfl)
    have k3204 : H3095 m 13 = H m 13 := (f3100 m 13 _ gm rfl)
    have k3205 : H3095 x 8 = H x 8 := (f3100 x 8 _ gx rfl)
    have k3206 : H3095 m 3 = H m 3 := (f3100 m 3 _ gm rfl)
    have h3207 : RB T H3095 m e8 d8 := (RB_fr hW gm f3100 rfl hrb8)
    have h3208 : KNN T H3095 m e8 d8 := (KNN_fr hW gm f3100 rfl hknn8)
    refine wl_of hX hb cL_710 (xc_V (pc' := 713) (r := m) (as := []) (st := [vL z3101]) (lm_11_96) rfl rfl (Nat.le_of_ble_eq_true rfl) w3099 gm sh_42 (by decide) rfl (by decide) (u_246 (e := e8) (d := d8) w3099 gm (by omega) (by assumption) (by assumption) (by assumption) (by assumption) h3207 h3208) (fun R3209 T3210 H3211 p3212 => ?_))
    obtain ⟨e3213, w3215, f3216, z3217, e3214, b3218, p3219⟩ := p3212
    subst e3213
    subst e3214
    rcases p3219 with ⟨a3220, a3221, a3222, a3223⟩ | ⟨a3224, a3225, a3226, a3227⟩
    · show WL _ _ _ _ 713 [(4, vI i), (3, .ref o), (2, .ref m), (1, .ref x), (0, .ref 0)] [vL z3217, vL z3101] _ H3211
      refine wl_of hX hb cL_713 (rw_lcmp (pc' := 714) rfl ⟨b3102.1, b3102.2⟩ ⟨b3218.1, b3218.2⟩ ?_)
      have b3228 := wq_cmp_b z3101 z3217
      refine wl_of hX hb cL_714 (rw_if_eq (p1 := 1654) (p2 := 717) (by decide) rfl ⟨by omega, by omega⟩ (fun c3229 => ?_) (fun c3229 => ?_))
      · have k3230 : H3211 x 9 = H3095 x 9 := (f3216 x 9 _ gx rfl)
        have k3231 : H3211 m 6 = H3095 m 6 := (f3216 m 6 _ gm rfl)
        have k3232 : H3211 x 11 = H3095 x 11 := (f3216 x 11 _ gx rfl)
        have k3233 : H3211 m 13 = H3095 m 13 := (f3216 m 13 _ gm rfl)
        have k3234 : H3211 x 8 = H3095 x 8 := (f3216 x 8 _ gx rfl)
        have k3235 : H3211 m 3 = H3095 m 3 := (f3216 m 3 _ gm rfl)
        have k3236 : H3211 x 0 = H x 0 := ((f3216 x 0 _ gx rfl).trans (f3100 x 0 _ gx rfl))
        have q3237 : H3211 x 0 = (tc : Int) := k3236.trans e0
        have k3238 : H3211 m 5 = H m 5 := ((f3216 m 5 _ gm rfl).trans (f3100 m 5 _ gm rfl))
        have q3239 : H3211 m 5 = (tm : Int) := k3238.trans em
        have k3240 : H3211 x 6 = H x 6 := ((f3216 x 6 _ gx rfl).trans (f3100 x 6 _ gx rfl))
        have q3241 : H3211 x 6 = (cu : Int) := k3240.trans ecu
        have k3242 : H3211 x 7 = H x 7 := ((f3216 x 7 _ gx rfl).trans (f3100 x 7 _ gx rfl))
        have q3243 : H3211 x 7 = (dr : Int) := k3242.trans edr
        have h3244 : CEN T H3211 ce8 e8 d8 := (CEN_fr w3099 gce8 f3216 rfl a3109)
        have h3245 : TP T H3211 tc B := (TP_fr w3099 gtc f3216 rfl (TP_fr hW gtc f3100 rfl htc))
        have h3246 : TM T H3211 tm B := (TM_fr w3099 gtm f3216 rfl (TM_fr hW gtm f3100 rfl htm))
        have h3247 : DD T H3211 cu  := (DD_fr w3099 gcu f3216 rfl (DD_fr hW gcu f3100 rfl hcu))
        have h3248 : DD T H3211 dr  := (DD_fr w3099 gdr f3216 rfl (DD_fr hW gdr f3100 rfl hdr))
        have h3249 : DE T H3211 cu  := (DE_fr w3099 gcu f3216 rfl (DE_fr hW gcu f3100 rfl hdec))
        have h3250 : DE T H3211 dr  := (DE_fr w3099 gdr f3216 rfl (DE_fr hW gdr f3100 rfl hded))
        have h3251 : SP T H3211 x C8 := (SP_fr w3099 gx f3216 rfl (SP_fr hW gx f3100 rfl hsp))
        have h3252 : CU T H3211 cu e8 d8 n8 := (CU_fr w3099 gcu f3216 rfl (CU_fr hW gcu f3100 rfl hcu8))
        have h3253 : CY T H3211 cu (d8 0 3) g8 (H cu 17) := (CY_fr w3099 gcu f3216 rfl (CY_fr hW gcu f3100 rfl h3088))
        have k3254 : H3211 x 3 = H x 3 := ((f3216 x 3 _ gx rfl).trans (f3100 x 3 _ gx rfl))
        have q3255 : H3211 x 3 = (ce8 : Int) := k3254.trans ece8
        have h3256 : HDR T H3211 ce8  := (HDR_fr w3099 gce8 f3216 rfl (HDR_fr hW gce8 f3100 rfl hhdr8))
        have h3257 : RY T H3211 m (d8 0 3) g8 (H m 32) := (RY_fr w3099 gm f3216 rfl (RY_fr hW gm f3100 rfl h3089))
        have h3258 : RB T H3211 m e8 d8 := (RB_fr w3099 gm f3216 rfl h3207)
        exact WL.loc hX (by simp) (next T H3211 ⟨⟨w3215, g0, gx, gm, go, by omega, by omega⟩, ⟨_, tc, tm, cu, dr, _, _, _, _, _, ce8, q3237, gtc, h3245, q3239, gtm, h3246, q3241, gcu, q3243, gdr, h3247, h3248, h3249, h3250, h3251, hC1, hC2, h3252, h3258, (h3253).1, (h3257).1, hE, hZ, (by omega), (by assumption), (by omega), (by first | assumption | exact SG_0), q3255, gce8, h3244, h3256, a3223, gm⟩, by omega, by omega⟩ (by omega) (by omega))
      · refine wl_of hX hb cL_717 (rw_iconst (pc' := 718) rfl ?_)
        exfalso
        omega
    · show WL _ _ _ _ 713 [(4, vI i), (3, .ref o), (2, .ref m), (1, .ref x), (0, .ref 0)] [vL z3217, vL z3101] _ H3211
      refine wl_of hX hb cL_713 (rw_lcmp (pc' := 714) rfl ⟨b3102.1, b3102.2⟩ ⟨b3218.1, b3218.2⟩ ?_)
      have b3259 := wq_cmp_b z3101 z3217
      refine wl_of hX hb cL_714 (rw_if_eq (p1 := 1654) (p2 := 717) (by decide) rfl ⟨by omega, by omega⟩ (fun c3260 => ?_) (fun c3260 => ?_))
      · have k3261 : H3211 x 9 = H3095 x 9 := (f3216 x 9 _ gx rfl)
        have k3262 : H3211 m 6 = H3095 m 6 := (f3216 m 6 _ gm rfl)
        have k3263 : H3211 x 11 = H3095 x 11 := (f3216 x 11 _ gx rfl)
        have k3264 : H3211 m 13 = H3095 m 13 := (f3216 m 13 _ gm rfl)
        have k3265 : H3211 x 8 = H3095 x 8 := (f3216 x 8 _ gx rfl)
        have k3266 : H3211 m 3 = H3095 m 3 := (f3216 m 3 _ gm rfl)
        have k3267 : H3211 x 0 = H x 0 := ((f3216 x 0 _ gx rfl).trans (f3100 x 0 _ gx rfl))
        have q3268 : H3211 x 0 = (tc : Int) := k3267.trans e0
        have k3269 : H3211 m 5 = H m 5 := ((f3216 m 5 _ gm rfl).trans (f3100 m 5 _ gm rfl))
        have q3270 : H3211 m 5 = (tm : Int) := k3269.trans em
        have k3271 : H3211 x 6 = H x 6 := ((f3216 x 6 _ gx rfl).trans (f3100 x 6 _ gx rfl))
        have q3272 : H3211 x 6 = (cu : Int) := k3271.trans ecu
        have k3273 : H3211 x 7 = H x 7 := ((f3216 x 7 _ gx rfl).trans (f3100 x 7 _ gx rfl))
        have q3274 : H3211 x 7 = (dr : Int) := k3273.trans edr
        have h3275 : CEN T H3211 ce8 e8 d8 := (CEN_fr w3099 gce8 f3216 rfl a3109)
        have h3276 : TP T H3211 tc B := (TP_fr w3099 gtc f3216 rfl (TP_fr hW gtc f3100 rfl htc))
        have h3277 : TM T H3211 tm B := (TM_fr w3099 gtm f3216 rfl (TM_fr hW gtm f3100 rfl htm))
        have h3278 : DD T H3211 cu  := (DD_fr w3099 gcu f3216 rfl (DD_fr hW gcu f3100 rfl hcu))
        have h3279 : DD T H3211 dr  := (DD_fr w3099 gdr f3216 rfl (DD_fr hW gdr f3100 rfl hdr))
        have h3280 : DE T H3211 cu  := (DE_fr w3099 gcu f3216 rfl (DE_fr hW gcu f3100 rfl hdec))
        have h3281 : DE T H3211 dr  := (DE_fr w3099 gdr f3216 rfl (DE_fr hW gdr f3100 rfl hded))
        have h3282 : SP T H3211 x C8 := (SP_fr w3099 gx f3216 rfl (SP_fr hW gx f3100 rfl hsp))
        have h3283 : CU T H3211 cu e8 d8 n8 := (CU_fr w3099 gcu f3216 rfl (CU_fr hW gcu f3100 rfl hcu8))
        have h3284 : CY T H3211 cu (d8 0 3) g8 (H cu 17) := (CY_fr w3099 gcu f3216 rfl (CY_fr hW gcu f3100 rfl h3088))
        have k3285 : H3211 x 3 = H x 3 := ((f3216 x 3 _ gx rfl).trans (f3100 x 3 _ gx rfl))
        have q3286 : H3211 x 3 = (ce8 : Int) := k3285.trans ece8
        have h3287 : HDR T H3211 ce8  := (HDR_fr w3099 gce8 f3216 rfl (HDR_fr hW gce8 f3100 rfl hhdr8))
        have h3288 : RY T H3211 m (d8 0 3) g8 (H m 32) := (RY_fr w3099 gm f3216 rfl (RY_fr hW gm f3100 rfl h3089))
        have h3289 : RB T H3211 m e8 d8 := (RB_fr w3099 gm f3216 rfl h3207)
        exact WL.loc hX (by simp) (next T H3211 ⟨⟨w3215, g0, gx, gm, go, by omega, by omega⟩, ⟨_, tc, tm, cu, dr, _, _, _, _, _, ce8, q3268, gtc, h3276, q3270, gtm, h3277, q3272, gcu, q3274, gdr, h3278, h3279, h3280, h3281, h3282, hC1, hC2, h3283, h3289, (h3284).1, (h3288).1, hE, hZ, (by omega), (by assumption), (by omega), (by first | assumption | exact SG_0), q3286, gce8, h3275, h3287, a3227, gm⟩, by omega, by omega⟩ (by omega) (by omega))
      · refine wl_of hX hb cL_717 (rw_iconst (pc' := 718) rfl ?_)
        exfalso
        omega
set_option maxHeartbeats 4000000 in
theorem wl_c18 {kt : Nat → Option mc_E} {CB SB : Nat} {X : mc_S → Prop} {T : wq_T} {H : wq_H} {Len x m o : Nat} {i : Int} (hX : wlX kt CB SB X) (hb : T.2.1 ≤ CB ∧ T.2.2.1 ≤ SB) (hI : wlJ Len x m o T H) (hL : Len ≤ 3072) (hi : 0 ≤ i ∧ i + 6 ≤ Len) (hb2 : T.2.1 + 20 ≤ CB ∧ T.2.2.1 + 500 ≤ SB)  (next : ∀ T' H', wlJ Len x m o T' H' → T'.2.1 ≤ T.2.1 + 20 → T'.2.2.1 ≤ T.2.2.1 + 500 → WL kt CB SB X 1654 (wlL i x m o) [] T' H') : WL kt CB SB X 719 (wlL i x m o) [] T H := by
  obtain ⟨⟨hW, g0, gx, gm, go, hK, hr⟩, hXI, hY1, hY2⟩ := hI
  refine wl_of hX hb cL_719 (rw_aload_n (pc' := 720) (v := .ref x) rfl rfl rfl ?_)
  refine wl_of hX hb cL_720 (rw_aload_n (pc' := 721) (v := .ref 0) rfl rfl rfl ?_)
  refine wl_of hX hb cL_721 (rw_iload (pc' := 723) (z := i) rfl rfl ?_)
  refine wl_of hX hb cL_723 (rw_iconst (pc' := 724) rfl ?_)
  refine wl_of hX hb cL_724 (rw_iadd (pc' := 725) rfl ?_)
  refine wl_of hX hb cL_725 (xa_I (so := 0) (pc' := 726) (a := 0) hW g0 (wsh_s _) (by omega) (wty_s _ _) (by omega) (by omega) rfl (fun b3290 b3291 => ?_))
  refine wl_of hX hb cL_726 (rw_aload_n (pc' := 727) (v := .ref 0) rfl rfl rfl ?_)
  refine wl_of hX hb cL_727 (rw_iload (pc' := 729) (z := i) rfl rfl ?_)
  refine wl_of hX hb cL_729 (rw_iconst (pc' := 730) rfl ?_)
  refine wl_of hX hb cL_730 (rw_iadd (pc' := 731) rfl ?_)
  refine wl_of hX hb cL_731 (xa_I (so := 0) (pc' := 732) (a := 0) hW g0 (wsh_s _) (by omega) (wty_s _ _) (by omega) (by omega) rfl (fun b3292 b3293 => ?_))
  obtain ⟨B, tc, tm, cu, dr, C8, e8, d8, n8, g8, ce8, e0, gtc, htc, em, gtm, htm, ecu, gcu, edr, gdr, hcu, hdr, hdec, hded, hsp, hC1, hC2, hcu8, hrb8, hcg8, hmn8, hE, hZ, hn8, hXA, hV8, hSG, ece8, gce8, hcen8, hhdr8, hknn8, -⟩ := hXI
  have hN3 := RB_n3 hrb8
  have hE13 : ∀ h : Nat, h < 24 → 0 ≤ e8 13 h ∧ e8 13 h ≤ 100 := fun k hk => by
    obtain ⟨s, h1, h2, h3⟩ := hcu8.1.2.2.1
    exact ⟨(h3 k hk).1, (h3 k hk).2.1⟩
  have hXW := hXA.1
  have hXN := hXA.2
  have hE0 : e8 0 3 = d8 0 3 ∧ e8 0 0 = d8 0 0 := by
    have h := hE 0 (by decide)
    exact ⟨congrFun h 3, congrFun h 0⟩
  have u3294 := CU_k hcu8
  have h3295 : CY T H cu (d8 0 3) g8 (H cu 17) := ⟨hcg8, rfl⟩
  have h3296 : RY T H m (d8 0 3) g8 (H m 32) := ⟨hmn8, rfl⟩
  obtain ⟨t9, ht9⟩ : ∃ t : Int, t = H x 9 := ⟨_, rfl⟩
  obtain ⟨y9, hy9⟩ : ∃ y : Int, y = H 0 ((i + 2).toNat) := ⟨_, rfl⟩
  obtain ⟨r3297, q3298, g3299⟩ := hW.ref gx (t' := 6) (n := 13) (j := 2) (p := 0) (q := 0) rfl (by decide) rfl
  refine wl_of hX hb cL_732 (xc_V (pc' := 735) (r := x) (as := [vI (H 0 ((i + 1).toNat)), vI (H 0 ((i + 2).toNat))]) (st := []) (lm_11_97) rfl rfl (Nat.le_of_ble_eq_true rfl) hW gx sh_1 (by decide) rfl (by decide) (u_98 (e := e8) (d := d8) (n := n8) hW gx ⟨by omega, by omega⟩ ⟨by omega, by omega⟩ ecu gcu q3298 g3299 ece8 gce8 (by assumption) (by assumption) (by omega) (by omega) (by omega) (by omega) hcu8 hcen8 hhdr8) (fun R3300 T3301 H3302 p3303 => ?_))
  obtain ⟨e3304, w3306, f3307, z3308, e3305, b3309, p3310⟩ := p3303
  subst e3304
  subst e3305
  show WL _ _ _ _ 735 [(4, vI i), (3, .ref o), (2, .ref m), (1, .ref x), (0, .ref 0)] [vI z3308] _ H3302
  refine wl_of hX hb cL_735 (rw_pop (pc' := 736) rfl rfl ?_)
  refine wl_of hX hb cL_736 (rw_aload_n (pc' := 737) (v := .ref m) rfl rfl rfl ?_)
  refine wl_of hX hb cL_737 (rw_aload_n (pc' := 738) (v := .ref 0) rfl rfl rfl ?_)
  refine wl_of hX hb cL_738 (rw_iload (pc' := 740) (z := i) rfl rfl ?_)
  refine wl_of hX hb cL_740 (rw_iconst (pc' := 741) rfl ?_)
  refine wl_of hX hb cL_741 (rw_iadd (pc' := 742) rfl ?_)
  have k3314 : H3302 0 ((i + 1).toNat) = H 0 ((i + 1).toNat) := (f3307 0 ((i + 1).toNat) _ g0 (wmem_s rfl))
  refine wl_of hX hb cL_742 (xa_I (so := 0) (pc' := 743) (a := 0) w3306 g0 (wsh_s _) (by omega) (wty_s _ _) (by omega) (by omega) rfl (fun b3312 b3313 => ?_))
  refine wl_of hX hb cL_743 (rw_aload_n (pc' := 744) (v := .ref 0) rfl rfl rfl ?_)
  refine wl_of hX hb cL_744 (rw_iload (pc' := 746) (z := i) rfl rfl ?_)
  refine wl_of hX hb cL_746 (rw_iconst (pc' := 747) rfl ?_)
  refine wl_of hX hb cL_747 (rw_iadd (pc' := 748) rfl ?_)
  have k3317 : H3302 0 ((i + 2).toNat) = H 0 ((i + 2).toNat) := (f3307 0 ((i + 2).toNat) _ g0 (wmem_s rfl))
  refine wl_of hX hb cL_748 (xa_I (so := 0) (pc' := 749) (a := 0) w3306 g0 (wsh_s _) (by omega) (wty_s _ _) (by omega) (by omega) rfl (fun b3315 b3316 => ?_))
  have k3318 : wKI H3302 m = wKI H m := (wKI_fr hW gm f3307 rfl)
  have k3319 : H3302 x 9 = H x 9 := (f3307 x 9 _ gx rfl)
  have k3320 : H3302 m 6 = H m 6 := (f3307 m 6 _ gm rfl)
  have k3321 : H3302 x 11 = H x 11 := (f3307 x 11 _ gx rfl)
  have k3322 : H3302 m 13 = H m 13 := (f3307 m 13 _ gm rfl)
  have k3323 : H3302 x 8 = H x 8 := (f3307 x 8 _ gx rfl)
  have k3324 : H3302 m 3 = H m 3 := (f3307 m 3 _ gm rfl)
  rw [show H3302 0 ((i + 2).toNat) = H 0 ((i + 2).toNat) by omega]
  rw [show H3302 0 ((i + 1).toNat) = H 0 ((i + 1).toNat) by omega]
  have h3325 : RB T H3302 m e8 d8 := (RB_fr hW gm f3307 rfl hrb8)
  have h3326 : KNN T H3302 m e8 d8 := (KNN_fr hW gm f3307 rfl hknn8)
  refine wl_of hX hb cL_749 (xc_V (pc' := 752) (r := m) (as := [vI (H 0 ((i + 1).toNat)), vI (H 0 ((i + 2).toNat))]) (st := []) (lm_11_100) rfl rfl (Nat.le_of_ble_eq_true rfl) w3306 gm sh_42 (by decide) rfl (by decide) (u_249 (e := e8) (d := d8) w3306 gm ⟨by omega, by omega⟩ ⟨by omega, by omega⟩ (by omega) (by assumption) (by assumption) (by assumption) (by assumption) h3325 h3326) (fun R3327 T3328 H3329 p3330 => ?_))
  obtain ⟨e3331, w3333, f3334, z3335, e3332, b3336, p3337⟩ := p3330
  subst e3331
  subst e3332
  obtain ⟨a3338, a3339⟩ := p3337
  show WL _ _ _ _ 752 [(4, vI i), (3, .ref o), (2, .ref m), (1, .ref x), (0, .ref 0)] [vI z3335] _ H3329
  refine wl_of hX hb cL_752 (rw_pop (pc' := 753) rfl rfl ?_)
  refine wl_of hX hb cL_753 (rw_goto (p1 := 1654) (by decide) ?_)
  have k3340 : H3329 x 9 = H3302 x 9 := (f3334 x 9 _ gx rfl)
  have k3341 : H3329 m 6 = H3302 m 6 := (f3334 m 6 _ gm rfl)
  have k3342 : H3329 x 11 = H3302 x 11 := (f3334 x 11 _ gx rfl)
  have k3343 : H3329 m 13 = H3302 m 13 := (f3334 m 13 _ gm rfl)
  have k3344 : H3329 x 8 = H3302 x 8 := (f3334 x 8 _ gx rfl)
  have k3345 : H3329 m 3 = H3302 m 3 := (f3334 m 3 _ gm rfl)
  have k3346 : H3329 x 0 = H x 0 := ((f3334 x 0 _ gx rfl).trans (f3307 x 0 _ gx rfl))
  have q3347 : H3329 x 0 = (tc : Int) := k3346.trans e0
  have k3348 : H3329 m 5 = H m 5 := ((f3334 m 5 _ gm rfl).trans (f3307 m 5 _ gm rfl))
  have q3349 : H3329 m 5 = (tm : Int) := k3348.trans em
  have k3350 : H3329 x 6 = H x 6 := ((f3334 x 6 _ gx rfl).trans (f3307 x 6 _ gx rfl))
  have q3351 : H3329 x 6 = (cu : Int) := k3350.trans ecu
  have k3352 : H3329 x 7 = H x 7 := ((f3334 x 7 _ gx rfl).trans (f3307 x 7 _ gx rfl))
  have q3353 : H3329 x 7 = (dr : Int) := k3352.trans edr
  have h3354 : CEN T H3329 ce8 e8 d8 := (CEN_fr w3306 gce8 f3334 rfl p3310)
  have h3355 : TP T H3329 tc B := (TP_fr w3306 gtc f3334 rfl (TP_fr hW gtc f3307 rfl htc))
  have h3356 : TM T H3329 tm B := (TM_fr w3306 gtm f3334 rfl (TM_fr hW gtm f3307 rfl htm))
  have h3357 : DD T H3329 cu  := (DD_fr w3306 gcu f3334 rfl (DD_fr hW gcu f3307 rfl hcu))
  have h3358 : DD T H3329 dr  := (DD_fr w3306 gdr f3334 rfl (DD_fr hW gdr f3307 rfl hdr))
  have h3359 : DE T H3329 cu  := (DE_fr w3306 gcu f3334 rfl (DE_fr hW gcu f3307 rfl hdec))
  have h3360 : DE T H3329 dr  := (DE_fr w3306 gdr f3334 rfl (DE_fr hW gdr f3307 rfl hded))
  have h3361 : SP T H3329 x C8 := (SP_fr w3306 gx f3334 rfl (SP_fr hW gx f3307 rfl hsp))
  have h3362 : CU T H3329 cu e8 d8 n8 := (CU_fr w3306 gcu f3334 rfl (CU_fr hW gcu f3307 rfl hcu8))
  have h3363 : CY T H3329 cu (d8 0 3) g8 (H cu 17) := (CY_fr w3306 gcu f3334 rfl (CY_fr hW gcu f3307 rfl h3295))
  have k3364 : H3329 x 3 = H x 3 := ((f3334 x 3 _ gx rfl).trans (f3307 x 3 _ gx rfl))
  have q3365 : H3329 x 3 = (ce8 : Int) := k3364.trans ece8
  have h3366 : HDR T H3329 ce8  := (HDR_fr w3306 gce8 f3334 rfl (HDR_fr hW gce8 f3307 rfl hhdr8))
  have h3367 : RY T H3329 m (d8 0 3) g8 (H m 32) := (RY_fr w3306 gm f3334 rfl (RY_fr hW gm f3307 rfl h3296))
  have h3368 : RB T H3329 m e8 d8 := (RB_fr w3306 gm f3334 rfl h3325)
  exact WL.loc hX (by simp) (next T H3329 ⟨⟨w3333, g0, gx, gm, go, by omega, by omega⟩, ⟨_, tc, tm, cu, dr, _, _, _, _, _, ce8, q3347, gtc, h3355, q3349, gtm, h3356, q3351, gcu, q3353, gdr, h3357, h3358, h3359, h3360, h3361, hC1, hC2, h3362, h3368, (h3363).1, (h3367).1, hE, hZ, (by omega), (by assumption), (by omega), (by first | assumption | exact SG_0), q3365, gce8, h3354, h3366, a3339, gm⟩, by omega, by omega⟩ (by omega) (by omega))
set_option maxHeartbeats 4000000 in
theorem wl_c19 {kt : Nat → Option mc_E} {CB SB : Nat} {X : mc_S → Prop} {T : wq_T} {H : wq_H} {Len x m o : Nat} {i : Int} (hX : wlX kt CB SB X) (hb : T.2.1 ≤ CB ∧ T.2.2.1 ≤ SB) (hI : wlJ Len x m o T H) (hL : Len ≤ 3072) (hi : 0 ≤ i ∧ i + 6 ≤ Len) (hb2 : T.2.1 + 20 ≤ CB ∧ T.2.2.1 + 500 ≤ SB)  (next : ∀ T' H', wlJ Len x m o T' H' → T'.2.1 ≤ T.2.1 + 20 → T'.2.2.1 ≤ T.2.2.1 + 500 → WL kt CB SB X 1654 (wlL i x m o) [] T' H') : WL kt CB SB X 756 (wlL i x m o) [] T H := by
  obtain ⟨⟨hW, g0, gx, gm, go, hK, hr⟩, hXI, hY1, hY2⟩ := hI
  refine wl_of hX hb cL_756 (rw_aload_n (pc' := 757) (v := .ref x) rfl rfl rfl ?_)
  refine wl_of hX hb cL_757 (rw_aload_n (pc' := 758) (v := .ref 0) rfl rfl rfl ?_)
  refine wl_of hX hb cL_758 (rw_iload (pc' := 760) (z := i) rfl rfl ?_)
  refine wl_of hX hb cL_760 (rw_iconst (pc' := 761) rfl ?_)
  refine wl_of hX hb cL_761 (rw_iadd (pc' := 762) rfl ?_)
  refine wl_of hX hb cL_762 (xa_I (so := 0) (pc' := 763) (a := 0) hW g0 (wsh_s _) (by omega) (wty_s _ _) (by omega) (by omega) rfl (fun b3369 b3370 => ?_))
  refine wl_of hX hb cL_763 (rw_aload_n (pc' := 764) (v := .ref 0) rfl rfl rfl ?_)
  refine wl_of hX hb cL_764 (rw_iload (pc' := 766) (z := i) rfl rfl ?_)
  refine wl_of hX hb cL_766 (rw_iconst (pc' := 767) rfl ?_)
  refine wl_of hX hb cL_767 (rw_iadd (pc' := 768) rfl ?_)
  refine wl_of hX hb cL_768 (xa_I (so := 0) (pc' := 769) (a := 0) hW g0 (wsh_s _) (by omega) (wty_s _ _) (by omega) (by omega) rfl (fun b3371 b3372 => ?_))
  obtain ⟨B, tc, tm, cu, dr, C8, e8, d8, n8, g8, ce8, e0, gtc, htc, em, gtm, htm, ecu, gcu, edr, gdr, hcu, hdr, hdec, hded, hsp, hC1, hC2, hcu8, hrb8, hcg8, hmn8, hE, hZ, hn8, hXA, hV8, hSG, ece8, gce8, hcen8, hhdr8, hknn8, -⟩ := hXI
  have hN3 := RB_n3 hrb8
  have hE13 : ∀ h : Nat, h < 24 → 0 ≤ e8 13 h ∧ e8 13 h ≤ 100 := fun k hk => by
    obtain ⟨s, h1, h2, h3⟩ := hcu8.1.2.2.1
    exact ⟨(h3 k hk).1, (h3 k hk).2.1⟩
  have hXW := hXA.1
  have hXN := hXA.2
  have hE0 : e8 0 3 = d8 0 3 ∧ e8 0 0 = d8 0 0 := by
    have h := hE 0 (by decide)
    exact ⟨congrFun h 3, congrFun h 0⟩
  have u3373 := CU_k hcu8
  have h3374 : CY T H cu (d8 0 3) g8 (H cu 17) := ⟨hcg8, rfl⟩
  have h3375 : RY T H m (d8 0 3) g8 (H m 32) := ⟨hmn8, rfl⟩
  obtain ⟨t9, ht9⟩ : ∃ t : Int, t = H x 9 := ⟨_, rfl⟩
  obtain ⟨y9, hy9⟩ : ∃ y : Int, y = H 0 ((i + 2).toNat) := ⟨_, rfl⟩
  obtain ⟨r3376, q3377, g3378⟩ := hW.ref gx (t' := 6) (n := 13) (j := 2) (p := 0) (q := 0) rfl (by decide) rfl
  refine wl_of hX hb cL_769 (xc_V (pc' := 772) (r := x) (as := [vI (H 0 ((i + 1).toNat)), vI (H 0 ((i + 2).toNat))]) (st := []) (lm_11_101) rfl rfl (Nat.le_of_ble_eq_true rfl) hW gx sh_1 (by decide) rfl (by decide) (u_99 (e := e8) (d := d8) (n := n8) hW gx ⟨by omega, by omega⟩ ⟨by omega, by omega⟩ ecu gcu q3377 g3378 ece8 gce8 (by assumption) (by assumption) (by omega) (by omega) (by omega) (by omega) hcu8 hcen8 hhdr8) (fun R3379 T3380 H3381 p3382 => ?_))
  obtain ⟨e3383, w3385, f3386, z3387, e3384, b3388, p3389⟩ := p3382
  subst e3383
  subst e3384
  show WL _ _ _ _ 772 [(4, vI i), (3, .ref o), (2, .ref m), (1, .ref x), (0, .ref 0)] [vI z3387] _ H3381
  refine wl_of hX hb cL_772 (rw_pop (pc' := 773) rfl rfl ?_)
  refine wl_of hX hb cL_773 (rw_aload_n (pc' := 774) (v := .ref m) rfl rfl rfl ?_)
  refine wl_of hX hb cL_774 (rw_aload_n (pc' := 775) (v := .ref 0) rfl rfl rfl ?_)
  refine wl_of hX hb cL_775 (rw_iload (pc' := 777) (z := i) rfl rfl ?_)
  refine wl_of hX hb cL_777 (rw_iconst (pc' := 778) rfl ?_)
  refine wl_of hX hb cL_778 (rw_iadd (pc' := 779) rfl ?_)
  have k3393 : H3381 0 ((i + 1).toNat) = H 0 ((i + 1).toNat) := (f3386 0 ((i + 1).toNat) _ g0 (wmem_s rfl))
  refine wl_of hX hb cL_779 (xa_I (so := 0) (pc' := 780) (a := 0) w3385 g0 (wsh_s _) (by omega) (wty_s _ _) (by omega) (by omega) rfl (fun b3391 b3392 => ?_))
  refine wl_of hX hb cL_780 (rw_aload_n (pc' := 781) (v := .ref 0) rfl rfl rfl ?_)
  refine wl_of hX hb cL_781 (rw_iload (pc' := 783) (z := i) rfl rfl ?_)
  refine wl_of hX hb cL_783 (rw_iconst (pc' := 784) rfl ?_)
  refine wl_of hX hb cL_784 (rw_iadd (pc' := 785) rfl ?_)
  have k3396 : H3381 0 ((i + 2).toNat) = H 0 ((i + 2).toNat) := (f3386 0 ((i + 2).toNat) _ g0 (wmem_s rfl))
  refine wl_of hX hb cL_785 (xa_I (so := 0) (pc' := 786) (a := 0) w3385 g0 (wsh_s _) (by omega) (wty_s _ _) (by omega) (by omega) rfl (fun b3394 b3395 => ?_))
  have k3397 : wKI H3381 m = wKI H m := (wKI_fr hW gm f3386 rfl)
  have k3398 : H3381 x 9 = H x 9 := (f3386 x 9 _ gx rfl)
  have k3399 : H3381 m 6 = H m 6 := (f3386 m 6 _ gm rfl)
  have k3400 : H3381 x 11 = H x 11 := (f3386 x 11 _ gx rfl)
  have k3401 : H3381 m 13 = H m 13 := (f3386 m 13 _ gm rfl)
  have k3402 : H3381 x 8 = H x 8 := (f3386 x 8 _ gx rfl)
  have k3403 : H3381 m 3 = H m 3 := (f3386 m 3 _ gm rfl)
  rw [show H3381 0 ((i + 2).toNat) = H 0 ((i + 2).toNat) by omega]
  rw [show H3381 0 ((i + 1).toNat) = H 0 ((i + 1).toNat) by omega]
  have h3404 : RB T H3381 m e8 d8 := (RB_fr hW gm f3386 rfl hrb8)
  have h3405 : KNN T H3381 m e8 d8 := (KNN_fr hW gm f3386 rfl hknn8)
  refine wl_of hX hb cL_786 (xc_V (pc' := 789) (r := m) (as := [vI (H 0 ((i + 1).toNat)), vI (H 0 ((i + 2).toNat))]) (st := []) (lm_11_104) rfl rfl (Nat.le_of_ble_eq_true rfl) w3385 gm sh_42 (by decide) rfl (by decide) (u_250 (e := e8) (d := d8) w3385 gm ⟨by omega, by omega⟩ ⟨by omega, by omega⟩ (by omega) (by assumption) (by assumption) (by assumption) (by assumption) h3404 h3405) (fun R3406 T3407 H3408 p3409 => ?_))
  obtain ⟨e3410, w3412, f3413, z3414, e3411, b3415, p3416⟩ := p3409
  subst e3410
  subst e3411
  obtain ⟨a3417, a3418⟩ := p3416
  show WL _ _ _ _ 789 [(4, vI i), (3, .ref o), (2, .ref m), (1, .ref x), (0, .ref 0)] [vI z3414] _ H3408
  refine wl_of hX hb cL_789 (rw_pop (pc' := 790) rfl rfl ?_)
  refine wl_of hX hb cL_790 (rw_goto (p1 := 1654) (by decide) ?_)
  have k3419 : H3408 x 9 = H3381 x 9 := (f3413 x 9 _ gx rfl)
  have k3420 : H3408 m 6 = H3381 m 6 := (f3413 m 6 _ gm rfl)
  have k3421 : H3408 x 11 = H3381 x 11 := (f3413 x 11 _ gx rfl)
  have k3422 : H3408 m 13 = H3381 m 13 := (f3413 m 13 _ gm rfl)
  have k3423 : H3408 x 8 = H3381 x 8 := (f3413 x 8 _ gx rfl)
  have k3424 : H3408 m 3 = H3381 m 3 := (f3413 m 3 _ gm rfl)
  have k3425 : H3408 x 0 = H x 0 := ((f3413 x 0 _ gx rfl).trans (f3386 x 0 _ gx rfl))
  have q3426 : H3408 x 0 = (tc : Int) := k3425.trans e0
  have k3427 : H3408 m 5 = H m 5 := ((f3413 m 5 _ gm rfl).trans (f3386 m 5 _ gm rfl))
  have q3428 : H3408 m 5 = (tm : Int) := k3427.trans em
  have k3429 : H3408 x 6 = H x 6 := ((f3413 x 6 _ gx rfl).trans (f3386 x 6 _ gx rfl))
  have q3430 : H3408 x 6 = (cu : Int) := k3429.trans ecu
  have k3431 : H3408 x 7 = H x 7 := ((f3413 x 7 _ gx rfl).trans (f3386 x 7 _ gx rfl))
  have q3432 : H3408 x 7 = (dr : Int) := k3431.trans edr
  have h3433 : CEN T H3408 ce8 e8 d8 := (CEN_fr w3385 gce8 f3413 rfl p3389)
  have h3434 : TP T H3408 tc B := (TP_fr w3385 gtc f3413 rfl (TP_fr hW gtc f3386 rfl htc))
  have h3435 : TM T H3408 tm B := (TM_fr w3385 gtm f3413 rfl (TM_fr hW gtm f3386 rfl htm))
  have h3436 : DD T H3408 cu  := (DD_fr w3385 gcu f3413 rfl (DD_fr hW gcu f3386 rfl hcu))
  have h3437 : DD T H3408 dr  := (DD_fr w3385 gdr f3413 rfl (DD_fr hW gdr f3386 rfl hdr))
  have h3438 : DE T H3408 cu  := (DE_fr w3385 gcu f3413 rfl (DE_fr hW gcu f3386 rfl hdec))
  have h3439 : DE T H3408 dr  := (DE_fr w3385 gdr f3413 rfl (DE_fr hW gdr f3386 rfl hded))
  have h3440 : SP T H3408 x C8 := (SP_fr w3385 gx f3413 rfl (SP_fr hW gx f3386 rfl hsp))
  have h3441 : CU T H3408 cu e8 d8 n8 := (CU_fr w3385 gcu f3413 rfl (CU_fr hW gcu f3386 rfl hcu8))
  have h3442 : CY T H3408 cu (d8 0 3) g8 (H cu 17) := (CY_fr w3385 gcu f3413 rfl (CY_fr hW gcu f3386 rfl h3374))
  have k3443 : H3408 x 3 = H x 3 := ((f3413 x 3 _ gx rfl).trans (f3386 x 3 _ gx rfl))
  have q3444 : H3408 x 3 = (ce8 : Int) := k3443.trans ece8
  have h3445 : HDR T H3408 ce8  := (HDR_fr w3385 gce8 f3413 rfl (HDR_fr hW gce8 f3386 rfl hhdr8))
  have h3446 : RY T H3408 m (d8 0 3) g8 (H m 32) := (RY_fr w3385 gm f3413 rfl (RY_fr hW gm f3386 rfl h3375))
  have h3447 : RB T H3408 m e8 d8 := (RB_fr w3385 gm f3413 rfl h3404)
  exact WL.loc hX (by simp) (next T H3408 ⟨⟨w3412, g0, gx, gm, go, by omega, by omega⟩, ⟨_, tc, tm, cu, dr, _, _, _, _, _, ce8, q3426, gtc, h3434, q3428, gtm, h3435, q3430, gcu, q3432, gdr, h3436, h3437, h3438, h3439, h3440, hC1, hC2, h3441, h3447, (h3442).1, (h3446).1, hE, hZ, (by omega), (by assumption), (by omega), (by first | assumption | exact SG_0), q3444, gce8, h3433, h3445, a3418, gm⟩, by omega, by omega⟩ (by omega) (by omega))
set_option maxHeartbeats 4000000 in
theorem wl_c20 {kt : Nat → Option mc_E} {CB SB : Nat} {X : mc_S → Prop} {T : wq_T} {H : wq_H} {Len x m o : Nat} {i : Int} (hX : wlX kt CB SB X) (hb : T.2.1 ≤ CB ∧ T.2.2.1 ≤ SB) (hI : wlJ Len x m o T H) (hL : Len ≤ 3072) (hi : 0 ≤ i ∧ i + 6 ≤ Len) (hb2 : T.2.1 + 20 ≤ CB ∧ T.2.2.1 + 500 ≤ SB)  (next : ∀ T' H', wlJ Len x m o T' H' → T'.2.1 ≤ T.2.1 + 20 → T'.2.2.1 ≤ T.2.2.1 + 500 → WL kt CB SB X 1654 (wlL i x m o) [] T' H') : WL kt CB SB X 793 (wlL i x m o) [] T H := by
  obtain ⟨⟨hW, g0, gx, gm, go, hK, hr⟩, hXI, hY1, hY2⟩ := hI
  refine wl_of hX hb cL_793 (rw_aload_n (pc' := 794) (v := .ref x) rfl rfl rfl ?_)
  refine wl_of hX hb cL_794 (rw_aload_n (pc' := 795) (v := .ref 0) rfl rfl rfl ?_)
  refine wl_of hX hb cL_795 (rw_iload (pc' := 797) (z := i) rfl rfl ?_)
  refine wl_of hX hb cL_797 (rw_iconst (pc' := 798) rfl ?_)
  refine wl_of hX hb cL_798 (rw_iadd (pc' := 799) rfl ?_)
  refine wl_of hX hb cL_799 (xa_I (so := 0) (pc' := 800) (a := 0) hW g0 (wsh_s _) (by omega) (wty_s _ _) (by omega) (by omega) rfl (fun b3448 b3449 => ?_))
  refine wl_of hX hb cL_800 (rw_aload_n (pc' := 801) (v := .ref 0) rfl rfl rfl ?_)
  refine wl_of hX hb cL_801 (rw_iload (pc' := 803) (z := i) rfl rfl ?_)
  refine wl_of hX hb cL_803 (rw_iconst (pc' := 804) rfl ?_)
  refine wl_of hX hb cL_804 (rw_iadd (pc' := 805) rfl ?_)
  refine wl_of hX hb cL_805 (xa_I (so := 0) (pc' := 806) (a := 0) hW g0 (wsh_s _) (by omega) (wty_s _ _) (by omega) (by omega) rfl (fun b3450 b3451 => ?_))
  obtain ⟨B, tc, tm, cu, dr, C8, e8, d8, n8, g8, ce8, e0, gtc, htc, em, gtm, htm, ecu, gcu, edr, gdr, hcu, hdr, hdec, hded, hsp, hC1, hC2, hcu8, hrb8, hcg8, hmn8, hE, hZ, hn8, hXA, hV8, hSG, ece8, gce8, hcen8, hhdr8, hknn8, -⟩ := hXI
  have hN3 := RB_n3 hrb8
  have hE13 : ∀ h : Nat, h < 24 → 0 ≤ e8 13 h ∧ e8 13 h ≤ 100 := fun k hk => by
    obtain ⟨s, h1, h2, h3⟩ := hcu8.1.2.2.1
    exact ⟨(h3 k hk).1, (h3 k hk).2.1⟩
  have hXW := hXA.1
  have hXN := hXA.2
  have hE0 : e8 0 3 = d8 0 3 ∧ e8 0 0 = d8 0 0 := by
    have h := hE 0 (by decide)
    exact ⟨congrFun h 3, congrFun h 0⟩
  have u3452 := CU_k hcu8
  have h3453 : CY T H cu (d8 0 3) g8 (H cu 17) := ⟨hcg8, rfl⟩
  have h3454 : RY T H m (d8 0 3) g8 (H m 32) := ⟨hmn8, rfl⟩
  obtain ⟨t9, ht9⟩ : ∃ t : Int, t = H x 9 := ⟨_, rfl⟩
  obtain ⟨y9, hy9⟩ : ∃ y : Int, y = H 0 ((i + 2).toNat) := ⟨_, rfl⟩
  obtain ⟨r3455, q3456, g3457⟩ := hW.ref gx (t' := 6) (n := 13) (j := 2) (p := 0) (q := 0) rfl (by decide) rfl
  refine wl_of hX hb cL_806 (xc_V (pc' := 809) (r := x) (as := [vI (H 0 ((i + 1).toNat)), vI (H 0 ((i + 2).toNat))]) (st := []) (lm_11_105) rfl rfl (Nat.le_of_ble_eq_true rfl) hW gx sh_1 (by decide) rfl (by decide) (u_101 (e := e8) (d := d8) (n := n8) hW gx ⟨by omega, by omega⟩ ⟨by omega, by omega⟩ ecu gcu q3456 g3457 ece8 gce8 (by assumption) (by assumption) (by omega) (by omega) (by omega) (by omega) hcu8 hcen8 hhdr8) (fun R3458 T3459 H3460 p3461 => ?_))
  obtain ⟨e3462, w3464, f3465, z3466, e3463, b3467, p3468⟩ := p3461
  subst e3462
  subst e3463
  show WL _ _ _ _ 809 [(4, vI i), (3, .ref o), (2, .ref m), (1, .ref x), (0, .ref 0)] [vI z3466] _ H3460
  refine wl_of hX hb cL_809 (rw_pop (pc' := 810) rfl rfl ?_)
  refine wl_of hX hb cL_810 (rw_aload_n (pc' := 811) (v := .ref m) rfl rfl rfl ?_)
  refine wl_of hX hb cL_811 (rw_aload_n (pc' := 812) (v := .ref 0) rfl rfl rfl ?_)
  refine wl_of hX hb cL_812 (rw_iload (pc' := 814) (z := i) rfl rfl ?_)
  refine wl_of hX hb cL_814 (rw_iconst (pc' := 815) rfl ?_)
  refine wl_of hX hb cL_815 (rw_iadd (pc' := 816) rfl ?_)
  have k3472 : H3460 0 ((i + 1).toNat) = H 0 ((i + 1).toNat) := (f3465 0 ((i + 1).toNat) _ g0 (wmem_s rfl))
  refine wl_of hX hb cL_816 (xa_I (so := 0) (pc' := 817) (a := 0) w3464 g0 (wsh_s _) (by omega) (wty_s _ _) (by omega) (by omega) rfl (fun b3470 b3471 => ?_))
  refine wl_of hX hb cL_817 (rw_aload_n (pc' := 818) (v := .ref 0) rfl rfl rfl ?_)
  refine wl_of hX hb cL_818 (rw_iload (pc' := 820) (z := i) rfl rfl ?_)
  refine wl_of hX hb cL_820 (rw_iconst (pc' := 821) rfl ?_)
  refine wl_of hX hb cL_821 (rw_iadd (pc' := 822) rfl ?_)
  have k3475 : H3460 0 ((i + 2).toNat) = H 0 ((i + 2).toNat) := (f3465 0 ((i + 2).toNat) _ g0 (wmem_s rfl))
  refine wl_of hX hb cL_822 (xa_I (so := 0) (pc' := 823) (a := 0) w3464 g0 (wsh_s _) (by omega) (wty_s _ _) (by omega) (by omega) rfl (fun b3473 b3474 => ?_))
  have k3476 : wKI H3460 m = wKI H m := (wKI_fr hW gm f3465 rfl)
  have k3477 : H3460 x 9 = H x 9 := (f3465 x 9 _ gx rfl)
  have k3478 : H3460 m 6 = H m 6 := (f3465 m 6 _ gm rfl)
  have k3479 : H3460 x 11 = H x 11 := (f3465 x 11 _ gx rfl)
  have k3480 : H3460 m 13 = H m 13 := (f3465 m 13 _ gm rfl)
  have k3481 : H3460 x 8 = H x 8 := (f3465 x 8 _ gx rfl)
  have k3482 : H3460 m 3 = H m 3 := (f3465 m 3 _ gm rfl)
  rw [show H3460 0 ((i + 2).toNat) = H 0 ((i + 2).toNat) by omega]
  rw [show H3460 0 ((i + 1).toNat) = H 0 ((i + 1).toNat) by omega]
  have h3483 : RB T H3460 m e8 d8 := (RB_fr hW gm f3465 rfl hrb8)
  have h3484 : KNN T H3460 m e8 d8 := (KNN_fr hW gm f3465 rfl hknn8)
  refine wl_of hX hb cL_823 (xc_V (pc' := 826) (r := m) (as := [vI (H 0 ((i + 1).toNat)), vI (H 0 ((i + 2).toNat))]) (st := []) (lm_11_108) rfl rfl (Nat.le_of_ble_eq_true rfl) w3464 gm sh_42 (by decide) rfl (by decide) (u_252 (e := e8) (d := d8) w3464 gm ⟨by omega, by omega⟩ ⟨by omega, by omega⟩ (by omega) (by assumption) (by assumption) (by assumption) (by assumption) h3483 h3484) (fun R3485 T3486 H3487 p3488 => ?_))
  obtain ⟨e3489, w3491, f3492, z3493, e3490, b3494, p3495⟩ := p3488
  subst e3489
  subst e3490
  obtain ⟨a3496, a3497⟩ := p3495
  show WL _ _ _ _ 826 [(4, vI i), (3, .ref o), (2, .ref m), (1, .ref x), (0, .ref 0)] [vI z3493] _ H3487
  refine wl_of hX hb cL_826 (rw_pop (pc' := 827) rfl rfl ?_)
  refine wl_of hX hb cL_827 (rw_goto (p1 := 1654) (by decide) ?_)
  have k3498 : H3487 x 9 = H3460 x 9 := (f3492 x 9 _ gx rfl)
  have k3499 : H3487 m 6 = H3460 m 6 := (f3492 m 6 _ gm rfl)
  have k3500 : H3487 x 11 = H3460 x 11 := (f3492 x 11 _ gx rfl)
  have k3501 : H3487 m 13 = H3460 m 13 := (f3492 m 13 _ gm rfl)
  have k3502 : H3487 x 8 = H3460 x 8 := (f3492 x 8 _ gx rfl)
  have k3503 : H3487 m 3 = H3460 m 3 := (f3492 m 3 _ gm rfl)
  have k3504 : H3487 x 0 = H x 0 := ((f3492 x 0 _ gx rfl).trans (f3465 x 0 _ gx rfl))
  have q3505 : H3487 x 0 = (tc : Int) := k3504.trans e0
  have k3506 : H3487 m 5 = H m 5 := ((f3492 m 5 _ gm rfl).trans (f3465 m 5 _ gm rfl))
  have q3507 : H3487 m 5 = (tm : Int) := k3506.trans em
  have k3508 : H3487 x 6 = H x 6 := ((f3492 x 6 _ gx rfl).trans (f3465 x 6 _ gx rfl))
  have q3509 : H3487 x 6 = (cu : Int) := k3508.trans ecu
  have k3510 : H3487 x 7 = H x 7 := ((f3492 x 7 _ gx rfl).trans (f3465 x 7 _ gx rfl))
  have q3511 : H3487 x 7 = (dr : Int) := k3510.trans edr
  have h3512 : CEN T H3487 ce8 e8 d8 := (CEN_fr w3464 gce8 f3492 rfl p3468)
  have h3513 : TP T H3487 tc B := (TP_fr w3464 gtc f3492 rfl (TP_fr hW gtc f3465 rfl htc))
  have h3514 : TM T H3487 tm B := (TM_fr w3464 gtm f3492 rfl (TM_fr hW gtm f3465 rfl htm))
  have h3515 : DD T H3487 cu  := (DD_fr w3464 gcu f3492 rfl (DD_fr hW gcu f3465 rfl hcu))
  have h3516 : DD T H3487 dr  := (DD_fr w3464 gdr f3492 rfl (DD_fr hW gdr f3465 rfl hdr))
  have h3517 : DE T H3487 cu  := (DE_fr w3464 gcu f3492 rfl (DE_fr hW gcu f3465 rfl hdec))
  have h3518 : DE T H3487 dr  := (DE_fr w3464 gdr f3492 rfl (DE_fr hW gdr f3465 rfl hded))
  have h3519 : SP T H3487 x C8 := (SP_fr w3464 gx f3492 rfl (SP_fr hW gx f3465 rfl hsp))
  have h3520 : CU T H3487 cu e8 d8 n8 := (CU_fr w3464 gcu f3492 rfl (CU_fr hW gcu f3465 rfl hcu8))
  have h3521 : CY T H3487 cu (d8 0 3) g8 (H cu 17) := (CY_fr w3464 gcu f3492 rfl (CY_fr hW gcu f3465 rfl h3453))
  have k3522 : H3487 x 3 = H x 3 := ((f3492 x 3 _ gx rfl).trans (f3465 x 3 _ gx rfl))
  have q3523 : H3487 x 3 = (ce8 : Int) := k3522.trans ece8
  have h3524 : HDR T H3487 ce8  := (HDR_fr w3464 gce8 f3492 rfl (HDR_fr hW gce8 f3465 rfl hhdr8))
  have h3525 : RY T H3487 m (d8 0 3) g8 (H m 32) := (RY_fr w3464 gm f3492 rfl (RY_fr hW gm f3465 rfl h3454))
  have h3526 : RB T H3487 m e8 d8 := (RB_fr w3464 gm f3492 rfl h3483)
  exact WL.loc hX (by simp) (next T H3487 ⟨⟨w3491, g0, gx, gm, go, by omega, by omega⟩, ⟨_, tc, tm, cu, dr, _, _, _, _, _, ce8, q3505, gtc, h3513, q3507, gtm, h3514, q3509, gcu, q3511, gdr, h3515, h3516, h3517, h3518, h3519, hC1, hC2, h3520, h3526, (h3521).1, (h3525).1, hE, hZ, (by omega), (by assumption), (by omega), (by first | assumption | exact SG_0), q3523, gce8, h3512, h3524, a3497, gm⟩, by omega, by omega⟩ (by omega) (by omega))
set_option maxHeartbeats 4000000 in
theorem wl_c21 {kt : Nat → Option mc_E} {CB SB : Nat} {X : mc_S → Prop} {T : wq_T} {H : wq_H} {Len x m o : Nat} {i : Int} (hX : wlX kt CB SB X) (hb : T.2.1 ≤ CB ∧ T.2.2.1 ≤ SB) (hI : wlJ Len x m o T H) (hL : Len ≤ 3072) (hi : 0 ≤ i ∧ i + 6 ≤ Len) (hb2 : T.2.1 + 20 ≤ CB ∧ T.2.2.1 + 500 ≤ SB)  (next : ∀ T' H', wlJ Len x m o T' H' → T'.2.1 ≤ T.2.1 + 20 → T'.2.2.1 ≤ T.2.2.1 + 500 → WL kt CB SB X 1654 (wlL i x m o) [] T' H') : WL kt CB SB X 830 (wlL i x m o) [] T H := by
  obtain ⟨⟨hW, g0, gx, gm, go, hK, hr⟩, hXI, hY1, hY2⟩ := hI
  refine wl_of hX hb cL_830 (rw_aload_n (pc' := 831) (v := .ref x) rfl rfl rfl ?_)
  refine wl_of hX hb cL_831 (rw_aload_n (pc' := 832) (v := .ref 0) rfl rfl rfl ?_)
  refine wl_of hX hb cL_832 (rw_iload (pc' := 834) (z := i) rfl rfl ?_)
  refine wl_of hX hb cL_834 (rw_iconst (pc' := 835) rfl ?_)
  refine wl_of hX hb cL_835 (rw_iadd (pc' := 836) rfl ?_)
  refine wl_of hX hb cL_836 (xa_I (so := 0) (pc' := 837) (a := 0) hW g0 (wsh_s _) (by omega) (wty_s _ _) (by omega) (by omega) rfl (fun b3527 b3528 => ?_))
  refine wl_of hX hb cL_837 (rw_aload_n (pc' := 838) (v := .ref 0) rfl rfl rfl ?_)
  refine wl_of hX hb cL_838 (rw_iload (pc' := 840) (z := i) rfl rfl ?_)
  refine wl_of hX hb cL_840 (rw_iconst (pc' := 841) rfl ?_)
  refine wl_of hX hb cL_841 (rw_iadd (pc' := 842) rfl ?_)
  refine wl_of hX hb cL_842 (xa_I (so := 0) (pc' := 843) (a := 0) hW g0 (wsh_s _) (by omega) (wty_s _ _) (by omega) (by omega) rfl (fun b3529 b3530 => ?_))
  refine wl_of hX hb cL_843 (rw_if_eq (p1 := 850) (p2 := 846) (by decide) rfl ⟨by omega, by omega⟩ (fun c3531 => ?_) (fun c3531 => ?_))
  · refine wl_of hX hb cL_850 (rw_iconst (pc' := 851) rfl ?_)
    obtain ⟨B, tc, tm, cu, dr, C8, e8, d8, n8, g8, ce8, e0, gtc, htc, em, gtm, htm, ecu, gcu, edr, gdr, hcu, hdr, hdec, hded, hsp, hC1, hC2, hcu8, hrb8, hcg8, hmn8, hE, hZ, hn8, hXA, hV8, hSG, ece8, gce8, hcen8, hhdr8, hknn8, -⟩ := hXI
    have hN3 := RB_n3 hrb8
    have hE13 : ∀ h : Nat, h < 24 → 0 ≤ e8 13 h ∧ e8 13 h ≤ 100 := fun k hk => by
      obtain ⟨s, h1, h2, h3⟩ := hcu8.1.2.2.1
      exact ⟨(h3 k hk).1, (h3 k hk).2.1⟩
    have hXW := hXA.1
    have hXN := hXA.2
    have hE0 : e8 0 3 = d8 0 3 ∧ e8 0 0 = d8 0 0 := by
      have h := hE 0 (by decide)
      exact ⟨congrFun h 3, congrFun h 0⟩
    have u3532 := CU_k hcu8
    have h3533 : CY T H cu (d8 0 3) g8 (H cu 17) := ⟨hcg8, rfl⟩
    have h3534 : RY T H m (d8 0 3) g8 (H m 32) := ⟨hmn8, rfl⟩
    obtain ⟨t9, ht9⟩ : ∃ t : Int, t = H x 9 := ⟨_, rfl⟩
    obtain ⟨y9, hy9⟩ : ∃ y : Int, y = 0 := ⟨_, rfl⟩
    obtain ⟨r3535, q3536, g3537⟩ := hW.ref gx (t' := 6) (n := 13) (j := 2) (p := 0) (q := 0) rfl (by decide) rfl
    refine wl_of hX hb cL_851 (xc_V (pc' := 854) (r := x) (as := [vI (H 0 ((i + 1).toNat)), vI 0]) (st := []) (lm_11_109) rfl rfl (Nat.le_of_ble_eq_true rfl) hW gx sh_1 (by decide) rfl (by decide) (u_104 (e := e8) (d := d8) (n := n8) hW gx ⟨by omega, by omega⟩ ⟨by decide, by decide⟩ ecu gcu q3536 g3537 ece8 gce8 (by assumption) (by assumption) (by omega) (by omega) (by omega) (by omega) hcu8 hcen8 hhdr8) (fun R3538 T3539 H3540 p3541 => ?_))
    obtain ⟨e3542, w3544, f3545, z3546, e3543, b3547, p3548⟩ := p3541
    subst e3542
    subst e3543
    show WL _ _ _ _ 854 [(4, vI i), (3, .ref o), (2, .ref m), (1, .ref x), (0, .ref 0)] [vI z3546] _ H3540
    refine wl_of hX hb cL_854 (rw_pop (pc' := 855) rfl rfl ?_)
    refine wl_of hX hb cL_855 (rw_aload_n (pc' := 856) (v := .ref m) rfl rfl rfl ?_)
    refine wl_of hX hb cL_856 (rw_aload_n (pc' := 857) (v := .ref 0) rfl rfl rfl ?_)
    refine wl_of hX hb cL_857 (rw_iload (pc' := 859) (z := i) rfl rfl ?_)
    refine wl_of hX hb cL_859 (rw_iconst (pc' := 860) rfl ?_)
    refine wl_of hX hb cL_860 (rw_iadd (pc' := 861) rfl ?_)
    have k3552 : H3540 0 ((i + 1).toNat) = H 0 ((i + 1).toNat) := (f3545 0 ((i + 1).toNat) _ g0 (wmem_s rfl))
    refine wl_of hX hb cL_861 (xa_I (so := 0) (pc' := 862) (a := 0) w3544 g0 (wsh_s _) (by omega) (wty_s _ _) (by omega) (by omega) rfl (fun b3550 b3551 => ?_))
    refine wl_of hX hb cL_862 (rw_aload_n (pc' := 863) (v := .ref 0) rfl rfl rfl ?_)
    refine wl_of hX hb cL_863 (rw_iload (pc' := 865) (z := i) rfl rfl ?_)
    refine wl_of hX hb cL_865 (rw_iconst (pc' := 866) rfl ?_)
    refine wl_of hX hb cL_866 (rw_iadd (pc' := 867) rfl ?_)
    have k3555 : H3540 0 ((i + 2).toNat) = H 0 ((i + 2).toNat) := (f3545 0 ((i + 2).toNat) _ g0 (wmem_s rfl))
    refine wl_of hX hb cL_867 (xa_I (so := 0) (pc' := 868) (a := 0) w3544 g0 (wsh_s _) (by omega) (wty_s _ _) (by omega) (by omega) rfl (fun b3553 b3554 => ?_))
    refine wl_of hX hb cL_868 (rw_if_eq (p1 := 875) (p2 := 871) (by decide) rfl ⟨by omega, by omega⟩ (fun c3556 => ?_) (fun c3556 => ?_))
    · refine wl_of hX hb cL_875 (rw_iconst (pc' := 876) rfl ?_)
      have k3557 : wKI H3540 m = wKI H m := (wKI_fr hW gm f3545 rfl)
      have k3558 : H3540 x 9 = H x 9 := (f3545 x 9 _ gx rfl)
      have k3559 : H3540 m 6 = H m 6 := (f3545 m 6 _ gm rfl)
      have k3560 : H3540 x 11 = H x 11 := (f3545 x 11 _ gx rfl)
      have k3561 : H3540 m 13 = H m 13 := (f3545 m 13 _ gm rfl)
      have k3562 : H3540 x 8 = H x 8 := (f3545 x 8 _ gx rfl)
      have k3563 : H3540 m 3 = H m 3 := (f3545 m 3 _ gm rfl)
      rw [show H3540 0 ((i + 1).toNat) = H 0 ((i + 1).toNat) by omega]
      have h3564 : RB T H3540 m e8 d8 := (RB_fr hW gm f3545 rfl hrb8)
      have h3565 : KNN T H3540 m e8 d8 := (KNN_fr hW gm f3545 rfl hknn8)
      refine wl_of hX hb cL_876 (xc_V (pc' := 879) (r := m) (as := [vI (H 0 ((i + 1).toNat)), vI 0]) (st := []) (lm_11_113) rfl rfl (Nat.le_of_ble_eq_true rfl) w3544 gm sh_42 (by decide) rfl (by decide) (u_254 (e := e8) (d := d8) w3544 gm ⟨by omega, by omega⟩ ⟨by decide, by decide⟩ (by omega) (by assumption) (by assumption) (by assumption) (by assumption) h3564 h3565) (fun R3566 T3567 H3568 p3569 => ?_))
      obtain ⟨e3570, w3572, f3573, z3574, e3571, b3575, p3576⟩ := p3569
      subst e3570
      subst e3571
      obtain ⟨a3577, a3578⟩ := p3576
      show WL _ _ _ _ 879 [(4, vI i), (3, .ref o), (2, .ref m), (1, .ref x), (0, .ref 0)] [vI z3574] _ H3568
      refine wl_of hX hb cL_879 (rw_pop (pc' := 880) rfl rfl ?_)
      refine wl_of hX hb cL_880 (rw_goto (p1 := 1654) (by decide) ?_)
      have k3579 : H3568 x 9 = H3540 x 9 := (f3573 x 9 _ gx rfl)
      have k3580 : H3568 m 6 = H3540 m 6 := (f3573 m 6 _ gm rfl)
      have k3581 : H3568 x 11 = H3540 x 11 := (f3573 x 11 _ gx rfl)
      have k3582 : H3568 m 13 = H3540 m 13 := (f3573 m 13 _ gm rfl)
      have k3583 : H3568 x 8 = H3540 x 8 := (f3573 x 8 _ gx rfl)
      have k3584 : H3568 m 3 = H3540 m 3 := (f3573 m 3 _ gm rfl)
      have k3585 : H3568 x 0 = H x 0 := ((f3573 x 0 _ gx rfl).trans (f3545 x 0 _ gx rfl))
      have q3586 : H3568 x 0 = (tc : Int) := k3585.trans e0
      have k3587 : H3568 m 5 = H m 5 := ((f3573 m 5 _ gm rfl).trans (f3545 m 5 _ gm rfl))
      have q3588 : H3568 m 5 = (tm : Int) := k3587.trans em
      have k3589 : H3568 x 6 = H x 6 := ((f3573 x 6 _ gx rfl).trans (f3545 x 6 _ gx rfl))
      have q3590 : H3568 x 6 = (cu : Int) := k3589.trans ecu
      have k3591 : H3568 x 7 = H x 7 := ((f3573 x 7 _ gx rfl).trans (f3545 x 7 _ gx rfl))
      have q3592 : H3568 x 7 = (dr : Int) := k3591.trans edr
      have h3593 : CEN T H3568 ce8 e8 d8 := (CEN_fr w3544 gce8 f3573 rfl p3548)
      have h3594 : TP T H3568 tc B := (TP_fr w3544 gtc f3573 rfl (TP_fr hW gtc f3545 rfl htc))
      have h3595 : TM T H3568 tm B := (TM_fr w3544 gtm f3573 rfl (TM_fr hW gtm f3545 rfl htm))
      have h3596 : DD T H3568 cu  := (DD_fr w3544 gcu f3573 rfl (DD_fr hW gcu f3545 rfl hcu))
      have h3597 : DD T H3568 dr  := (DD_fr w3544 gdr f3573 rfl (DD_fr hW gdr f3545 rfl hdr))
      have h3598 : DE T H3568 cu  := (DE_fr w3544 gcu f3573 rfl (DE_fr hW gcu f3545 rfl hdec))
      have h3599 : DE T H3568 dr  := (DE_fr w3544 gdr f3573 rfl (DE_fr hW gdr f3545 rfl hded))
      have h3600 : SP T H3568 x C8 := (SP_fr w3544 gx f3573 rfl (SP_fr hW gx f3545 rfl hsp))
      have h3601 : CU T H3568 cu e8 d8 n8 := (CU_fr w3544 gcu f3573 rfl (CU_fr hW gcu f3545 rfl hcu8))
      have h3602 : CY T H3568 cu (d8 0 3) g8 (H cu 17) := (CY_fr w3544 gcu f3573 rfl (CY_fr hW gcu f3545 rfl h3533))
      have k3603 : H3568 x 3 = H x 3 := ((f3573 x 3 _ gx rfl).trans (f3545 x 3 _ gx rfl))
      have q3604 : H3568 x 3 = (ce8 : Int) := k3603.trans ece8
      have h3605 : HDR T H3568 ce8  := (HDR_fr w3544 gce8 f3573 rfl (HDR_fr hW gce8 f3545 rfl hhdr8))
      have h3606 : RY T H3568 m (d8 0 3) g8 (H m 32) := (RY_fr w3544 gm f3573 rfl (RY_fr hW gm f3545 rfl h3534))
      have h3607 : RB T H3568 m e8 d8 := (RB_fr w3544 gm f3573 rfl h3564)
      exact WL.loc hX (by simp) (next T H3568 ⟨⟨w3572, g0, gx, gm, go, by omega, by omega⟩, ⟨_, tc, tm, cu, dr, _, _, _, _, _, ce8, q3586, gtc, h3594, q3588, gtm, h3595, q3590, gcu, q3592, gdr, h3596, h3597, h3598, h3599, h3600, hC1, hC2, h3601, h3607, (h3602).1, (h3606).1, hE, hZ, (by omega), (by assumption), (by omega), (by first | assumption | exact SG_0), q3604, gce8, h3593, h3605, a3578, gm⟩, by omega, by omega⟩ (by omega) (by omega))
    · exfalso
      omega
  · refine wl_of hX hb cL_846 (rw_iconst (pc' := 847) rfl ?_)
    refine wl_of hX hb cL_847 (rw_goto (p1 := 851) (by decide) ?_)
    obtain ⟨B, tc, tm, cu, dr, C8, e8, d8, n8, g8, ce8, e0, gtc, htc, em, gtm, htm, ecu, gcu, edr, gdr, hcu, hdr, hdec, hded, hsp, hC1, hC2, hcu8, hrb8, hcg8, hmn8, hE, hZ, hn8, hXA, hV8, hSG, ece8, gce8, hcen8, hhdr8, hknn8, -⟩ := hXI
    have hN3 := RB_n3 hrb8
    have hE13 : ∀ h : Nat, h < 24 → 0 ≤ e8 13 h ∧ e8 13 h ≤ 100 := fun k hk => by
      obtain ⟨s, h1, h2, h3⟩ := hcu8.1.2.2.1
      exact ⟨(h3 k hk).1, (h3 k hk).2.1⟩
    have hXW := hXA.1
    have hXN := hXA.2
    have hE0 : e8 0 3 = d8 0 3 ∧ e8 0 0 = d8 0 0 := by
      have h := hE 0 (by decide)
      exact ⟨congrFun h 3, congrFun h 0⟩
    have u3608 := CU_k hcu8
    have h3609 : CY T H cu (d8 0 3) g8 (H cu 17) := ⟨hcg8, rfl⟩
    have h3610 : RY T H m (d8 0 3) g8 (H m 32) := ⟨hmn8, rfl⟩
    obtain ⟨t9, ht9⟩ : ∃ t : Int, t = H x 9 := ⟨_, rfl⟩
    obtain ⟨y9, hy9⟩ : ∃ y : Int, y = 1 := ⟨_, rfl⟩
    obtain ⟨r3611, q3612, g3613⟩ := hW.ref gx (t' := 6) (n := 13) (j := 2) (p := 0) (q := 0) rfl (by decide) rfl
    refine wl_of hX hb cL_851 (xc_V (pc' := 854) (r := x) (as := [vI (H 0 ((i + 1).toNat)), vI 1]) (st := []) (lm_11_109) rfl rfl (Nat.le_of_ble_eq_true rfl) hW gx sh_1 (by decide) rfl (by decide) (u_104 (e := e8) (d := d8) (n := n8) hW gx ⟨by omega, by omega⟩ ⟨by decide, by decide⟩ ecu gcu q3612 g3613 ece8 gce8 (by assumption) (by assumption) (by omega) (by omega) (by omega) (by omega) hcu8 hcen8 hhdr8) (fun R3614 T3615 H3616 p3617 => ?_))
    obtain ⟨e3618, w3620, f3621, z3622, e3619, b3623, p3624⟩ := p3617
    subst e3618
    subst e3619
    show WL _ _ _ _ 854 [(4, vI i), (3, .ref o), (2, .ref m), (1, .ref x), (0, .ref 0)] [vI z3622] _ H3616
    refine wl_of hX hb cL_854 (rw_pop (pc' := 855) rfl rfl ?_)
    refine wl_of hX hb cL_855 (rw_aload_n (pc' := 856) (v := .ref m) rfl rfl rfl ?_)
    refine wl_of hX hb cL_856 (rw_aload_n (pc' := 857) (v := .ref 0) rfl rfl rfl ?_)
    refine wl_of hX hb cL_857 (rw_iload (pc' := 859) (z := i) rfl rfl ?_)
    refine wl_of hX hb cL_859 (rw_iconst (pc' := 860) rfl ?_)
    refine wl_of hX hb cL_860 (rw_iadd (pc' := 861) rfl ?_)
    have k3628 : H3616 0 ((i + 1).toNat) = H 0 ((i + 1).toNat) := (f3621 0 ((i + 1).toNat) _ g0 (wmem_s rfl))
    refine wl_of hX hb cL_861 (xa_I (so := 0) (pc' := 862) (a := 0) w3620 g0 (wsh_s _) (by omega) (wty_s _ _) (by omega) (by omega) rfl (fun b3626 b3627 => ?_))
    refine wl_of hX hb cL_862 (rw_aload_n (pc' := 863) (v := .ref 0) rfl rfl rfl ?_)
    refine wl_of hX hb cL_863 (rw_iload (pc' := 865) (z := i) rfl rfl ?_)
    refine wl_of hX hb cL_865 (rw_iconst (pc' := 866) rfl ?_)
    refine wl_of hX hb cL_866 (rw_iadd (pc' := 867) rfl ?_)
    have k3631 : H3616 0 ((i + 2).toNat) = H 0 ((i + 2).toNat) := (f3621 0 ((i + 2).toNat) _ g0 (wmem_s rfl))
    refine wl_of hX hb cL_867 (xa_I (so := 0) (pc' := 868) (a := 0) w3620 g0 (wsh_s _) (by omega) (wty_s _ _) (by omega) (by omega) rfl (fun b3629 b3630 => ?_))
    refine wl_of hX hb cL_868 (rw_if_eq (p1 := 875) (p2 := 871) (by decide) rfl ⟨by omega, by omega⟩ (fun c3632 => ?_) (fun c3632 => ?_))
    · refine wl_of hX hb cL_875 (rw_iconst (pc' := 876) rfl ?_)
      have k3633 : wKI H3616 m = wKI H m := (wKI_fr hW gm f3621 rfl)
      have k3634 : H3616 x 9 = H x 9 := (f3621 x 9 _ gx rfl)
      have k3635 : H3616 m 6 = H m 6 := (f3621 m 6 _ gm rfl)
      have k3636 : H3616 x 11 = H x 11 := (f3621 x 11 _ gx rfl)
      have k3637 : H3616 m 13 = H m 13 := (f3621 m 13 _ gm rfl)
      have k3638 : H3616 x 8 = H x 8 := (f3621 x 8 _ gx rfl)
      have k3639 : H3616 m 3 = H m 3 := (f3621 m 3 _ gm rfl)
      rw [show H3616 0 ((i + 1).toNat) = H 0 ((i + 1).toNat) by omega]
      have h3640 : RB T H3616 m e8 d8 := (RB_fr hW gm f3621 rfl hrb8)
      have h3641 : KNN T H3616 m e8 d8 := (KNN_fr hW gm f3621 rfl hknn8)
      refine wl_of hX hb cL_876 (xc_V (pc' := 879) (r := m) (as := [vI (H 0 ((i + 1).toNat)), vI 0]) (st := []) (lm_11_113) rfl rfl (Nat.le_of_ble_eq_true rfl) w3620 gm sh_42 (by decide) rfl (by decide) (u_254 (e := e8) (d := d8) w3620 gm ⟨by omega, by omega⟩ ⟨by decide, by decide⟩ (by omega) (by assumption) (by assumption) (by assumption) (by assumption) h3640 h3641) (fun R3642 T3643 H3644 p3645 => ?_))
      obtain ⟨e3646, w3648, f3649, z3650, e3647, b3651, p3652⟩ := p3645
      subst e3646
      subst e3647
      obtain ⟨a3653, a3654⟩ := p3652
      show WL _ _ _ _ 879 [(4, vI i), (3, .ref o), (2, .ref m), (1, .ref x), (0, .ref 0)] [vI z3650] _ H3644
      refine wl_of hX hb cL_879 (rw_pop (pc' := 880) rfl rfl ?_)
      refine wl_of hX hb cL_880 (rw_goto (p1 := 1654) (by decide) ?_)
      have k3655 : H3644 x 9 = H3616 x 9 := (f3649 x 9 _ gx rfl)
      have k3656 : H3644 m 6 = H3616 m 6 := (f3649 m 6 _ gm rfl)
      have k3657 : H3644 x 11 = H3616 x 11 := (f3649 x 11 _ gx rfl)
      have k3658 : H3644 m 13 = H3616 m 13 := (f3649 m 13 _ gm rfl)
      have k3659 : H3644 x 8 = H3616 x 8 := (f3649 x 8 _ gx rfl)
      have k3660 : H3644 m 3 = H3616 m 3 := (f3649 m 3 _ gm rfl)
      have k3661 : H3644 x 0 = H x 0 := ((f3649 x 0 _ gx rfl).trans (f3621 x 0 _ gx rfl))
      have q3662 : H3644 x 0 = (tc : Int) := k3661.trans e0
      have k3663 : H3644 m 5 = H m 5 := ((f3649 m 5 _ gm rfl).trans (f3621 m 5 _ gm rfl))
      have q3664 : H3644 m 5 = (tm : Int) := k3663.trans em
      have k3665 : H3644 x 6 = H x 6 := ((f3649 x 6 _ gx rfl).trans (f3621 x 6 _ gx rfl))
      have q3666 : H3644 x 6 = (cu : Int) := k3665.trans ecu
      have k3667 : H3644 x 7 = H x 7 := ((f3649 x 7 _ gx rfl).trans (f3621 x 7 _ gx rfl))
      have q3668 : H3644 x 7 = (dr : Int) := k3667.trans edr
      have h3669 : CEN T H3644 ce8 e8 d8 := (CEN_fr w3620 gce8 f3649 rfl p3624)
      have h3670 : TP T H3644 tc B := (TP_fr w3620 gtc f3649 rfl (TP_fr hW gtc f3621 rfl htc))
      have h3671 : TM T H3644 tm B := (TM_fr w3620 gtm f3649 rfl (TM_fr hW gtm f3621 rfl htm))
      have h3672 : DD T H3644 cu  := (DD_fr w3620 gcu f3649 rfl (DD_fr hW gcu f3621 rfl hcu))
      have h3673 : DD T H3644 dr  := (DD_fr w3620 gdr f3649 rfl (DD_fr hW gdr f3621 rfl hdr))
      have h3674 : DE T H3644 cu  := (DE_fr w3620 gcu f3649 rfl (DE_fr hW gcu f3621 rfl hdec))
      have h3675 : DE T H3644 dr  := (DE_fr w3620 gdr f3649 rfl (DE_fr hW gdr f3621 rfl hded))
      have h3676 : SP T H3644 x C8 := (SP_fr w3620 gx f3649 rfl (SP_fr hW gx f3621 rfl hsp))
      have h3677 : CU T H3644 cu e8 d8 n8 := (CU_fr w3620 gcu f3649 rfl (CU_fr hW gcu f3621 rfl hcu8))
      have h3678 : CY T H3644 cu (d8 0 3) g8 (H cu 17) := (CY_fr w3620 gcu f3649 rfl (CY_fr hW gcu f3621 rfl h3609))
      have k3679 : H3644 x 3 = H x 3 := ((f3649 x 3 _ gx rfl).trans (f3621 x 3 _ gx rfl))
      have q3680 : H3644 x 3 = (ce8 : Int) := k3679.trans ece8
      have h3681 : HDR T H3644 ce8  := (HDR_fr w3620 gce8 f3649 rfl (HDR_fr hW gce8 f3621 rfl hhdr8))
      have h3682 : RY T H3644 m (d8 0 3) g8 (H m 32) := (RY_fr w3620 gm f3649 rfl (RY_fr hW gm f3621 rfl h3610))
      have h3683 : RB T H3644 m e8 d8 := (RB_fr w3620 gm f3649 rfl h3640)
      exact WL.loc hX (by simp) (next T H3644 ⟨⟨w3648, g0, gx, gm, go, by omega, by omega⟩, ⟨_, tc, tm, cu, dr, _, _, _, _, _, ce8, q3662, gtc, h3670, q3664, gtm, h3671, q3666, gcu, q3668, gdr, h3672, h3673, h3674, h3675, h3676, hC1, hC2, h3677, h3683, (h3678).1, (h3682).1, hE, hZ, (by omega), (by assumption), (by omega), (by first | assumption | exact SG_0), q3680, gce8, h3669, h3681, a3654, gm⟩, by omega, by omega⟩ (by omega) (by omega))
    · refine wl_of hX hb cL_871 (rw_iconst (pc' := 872) rfl ?_)
      refine wl_of hX hb cL_872 (rw_goto (p1 := 876) (by decide) ?_)
      have k3684 : wKI H3616 m = wKI H m := (wKI_fr hW gm f3621 rfl)
      have k3685 : H3616 x 9 = H x 9 := (f3621 x 9 _ gx rfl)
      have k3686 : H3616 m 6 = H m 6 := (f3621 m 6 _ gm rfl)
      have k3687 : H3616 x 11 = H x 11 := (f3621 x 11 _ gx rfl)
      have k3688 : H3616 m 13 = H m 13 := (f3621 m 13 _ gm rfl)
      have k3689 : H3616 x 8 = H x 8 := (f3621 x 8 _ gx rfl)
      have k3690 : H3616 m 3 = H m 3 := (f3621 m 3 _ gm rfl)
      rw [show H3616 0 ((i + 1).toNat) = H 0 ((i + 1).toNat) by omega]
      have h3691 : RB T H3616 m e8 d8 := (RB_fr hW gm f3621 rfl hrb8)
      have h3692 : KNN T H3616 m e8 d8 := (KNN_fr hW gm f3621 rfl hknn8)
      refine wl_of hX hb cL_876 (xc_V (pc' := 879) (r := m) (as := [vI (H 0 ((i + 1).toNat)), vI 1]) (st := []) (lm_11_113) rfl rfl (Nat.le_of_ble_eq_true rfl) w3620 gm sh_42 (by decide) rfl (by decide) (u_254 (e := e8) (d := d8) w3620 gm ⟨by omega, by omega⟩ ⟨by decide, by decide⟩ (by omega) (by assumption) (by assumption) (by assumption) (by assumption) h3691 h3692) (fun R3693 T3694 H3695 p3696 => ?_))
      obtain ⟨e3697, w3699, f3700, z3701, e3698, b3702, p3703⟩ := p3696
      subst e3697
      subst e3698
      obtain ⟨a3704, a3705⟩ := p3703
      show WL _ _ _ _ 879 [(4, vI i), (3, .ref o), (2, .ref m), (1, .ref x), (0, .ref 0)] [vI z3701] _ H3695
      refine wl_of hX hb cL_879 (rw_pop (pc' := 880) rfl rfl ?_)
      refine wl_of hX hb cL_880 (rw_goto (p1 := 1654) (by decide) ?_)
      have k3706 : H3695 x 9 = H3616 x 9 := (f3700 x 9 _ gx rfl)
      have k3707 : H3695 m 6 = H3616 m 6 := (f3700 m 6 _ gm rfl)
      have k3708 : H3695 x 11 = H3616 x 11 := (f3700 x 11 _ gx rfl)
      have k3709 : H3695 m 13 = H3616 m 13 := (f3700 m 13 _ gm rfl)
      have k3710 : H3695 x 8 = H3616 x 8 := (f3700 x 8 _ gx rfl)
      have k3711 : H3695 m 3 = H3616 m 3 := (f3700 m 3 _ gm rfl)
      have k3712 : H3695 x 0 = H x 0 := ((f3700 x 0 _ gx rfl).trans (f3621 x 0 _ gx rfl))
      have q3713 : H3695 x 0 = (tc : Int) := k3712.trans e0
      have k3714 : H3695 m 5 = H m 5 := ((f3700 m 5 _ gm rfl).trans (f3621 m 5 _ gm rfl))
      have q3715 : H3695 m 5 = (tm : Int) := k3714.trans em
      have k3716 : H3695 x 6 = H x 6 := ((f3700 x 6 _ gx rfl).trans (f3621 x 6 _ gx rfl))
      have q3717 : H3695 x 6 = (cu : Int) := k3716.trans ecu
      have k3718 : H3695 x 7 = H x 7 := ((f3700 x 7 _ gx rfl).trans (f3621 x 7 _ gx rfl))
      have q3719 : H3695 x 7 = (dr : Int) := k3718.trans edr
      have h3720 : CEN T H3695 ce8 e8 d8 := (CEN_fr w3620 gce8 f3700 rfl p3624)
      have h3721 : TP T H3695 tc B := (TP_fr w3620 gtc f3700 rfl (TP_fr hW gtc f3621 rfl htc))
      have h3722 : TM T H3695 tm B := (TM_fr w3620 gtm f3700 rfl (TM_fr hW gtm f3621 rfl htm))
      have h3723 : DD T H3695 cu  := (DD_fr w3620 gcu f3700 rfl (DD_fr hW gcu f3621 rfl hcu))
      have h3724 : DD T H3695 dr  := (DD_fr w3620 gdr f3700 rfl (DD_fr hW gdr f3621 rfl hdr))
      have h3725 : DE T H3695 cu  := (DE_fr w3620 gcu f3700 rfl (DE_fr hW gcu f3621 rfl hdec))
      have h3726 : DE T H3695 dr  := (DE_fr w3620 gdr f3700 rfl (DE_fr hW gdr f3621 rfl hded))
      have h3727 : SP T H3695 x C8 := (SP_fr w3620 gx f3700 rfl (SP_fr hW gx f3621 rfl hsp))
      have h3728 : CU T H3695 cu e8 d8 n8 := (CU_fr w3620 gcu f3700 rfl (CU_fr hW gcu f3621 rfl hcu8))
      have h3729 : CY T H3695 cu (d8 0 3) g8 (H cu 17) := (CY_fr w3620 gcu f3700 rfl (CY_fr hW gcu f3621 rfl h3609))
      have k3730 : H3695 x 3 = H x 3 := ((f3700 x 3 _ gx rfl).trans (f3621 x 3 _ gx rfl))
      have q3731 : H3695 x 3 = (ce8 : Int) := k3730.trans ece8
      have h3732 : HDR T H3695 ce8  := (HDR_fr w3620 gce8 f3700 rfl (HDR_fr hW gce8 f3621 rfl hhdr8))
      have h3733 : RY T H3695 m (d8 0 3) g8 (H m 32) := (RY_fr w3620 gm f3700 rfl (RY_fr hW gm f3621 rfl h3610))
      have h3734 : RB T H3695 m e8 d8 := (RB_fr w3620 gm f3700 rfl h3691)
      exact WL.loc hX (by simp) (next T H3695 ⟨⟨w3699, g0, gx, gm, go, by omega, by omega⟩, ⟨_, tc, tm, cu, dr, _, _, _, _, _, ce8, q3713, gtc, h3721, q3715, gtm, h3722, q3717, gcu, q3719, gdr, h3723, h3724, h3725, h3726, h3727, hC1, hC2, h3728, h3734, (h3729).1, (h3733).1, hE, hZ, (by omega), (by assumption), (by omega), (by first | assumption | exact SG_0), q3731, gce8, h3720, h3732, a3705, gm⟩, by omega, by omega⟩ (by omega) (by omega))
