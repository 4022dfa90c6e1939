/-! THE LAW, GONE ON WITH (own work) -/
set_option maxHeartbeats 4000000 in
theorem wl_c16 {kt : Nat → Option mc_E} {CB SB : Nat} {X : mc_S → Prop} {T : wq_T} {H : wq_H} {Len x m o : Nat} {i : Int} (hX : wlX kt CB SB X) (hb : T.2.1 ≤ CB ∧ T.2.2.1 ≤ SB) (hI : wlJ Len x m o T H) (hL : Len ≤ 3072) (hi : 0 ≤ i ∧ i + 6 ≤ Len) (hb2 : T.2.1 + 20 ≤ CB ∧ T.2.2.1 + 500 ≤ SB)  (next : ∀ T' H', wlJ Len x m o T' H' → T'.2.1 ≤ T.2.1 + 20 → T'.2.2.1 ≤ T.2.2.1 + 500 → WL kt CB SB X 1653 (wlL i x m o) [] T' H') : WL kt CB SB X 668 (wlL i x m o) [] T H := by
  obtain ⟨⟨hW, g0, gx, gm, go, hK, hr⟩, hXI, hY1, hY2⟩ := hI
  refine wl_of hX hb cL_668 (rw_aload_n (pc' := 669) (v := .ref x) rfl rfl rfl ?_)
  refine wl_of hX hb cL_669 (rw_aload_n (pc' := 670) (v := .ref 0) rfl rfl rfl ?_)
  refine wl_of hX hb cL_670 (rw_iload (pc' := 672) (z := i) rfl rfl ?_)
  refine wl_of hX hb cL_672 (rw_iconst (pc' := 673) rfl ?_)
  refine wl_of hX hb cL_673 (rw_iadd (pc' := 674) rfl ?_)
  refine wl_of hX hb cL_674 (xa_I (so := 0) (pc' := 675) (a := 0) hW g0 (wsh_s _) (by omega) (wty_s _ _) (by omega) (by omega) rfl (fun b3008 b3009 => ?_))
  refine wl_of hX hb cL_675 (rw_aload_n (pc' := 676) (v := .ref 0) rfl rfl rfl ?_)
  refine wl_of hX hb cL_676 (rw_iload (pc' := 678) (z := i) rfl rfl ?_)
  refine wl_of hX hb cL_678 (rw_iconst (pc' := 679) rfl ?_)
  refine wl_of hX hb cL_679 (rw_iadd (pc' := 680) rfl ?_)
  refine wl_of hX hb cL_680 (xa_I (so := 0) (pc' := 681) (a := 0) hW g0 (wsh_s _) (by omega) (wty_s _ _) (by omega) (by omega) rfl (fun b3010 b3011 => ?_))
  obtain ⟨B, tc, tm, cu, dr, C8, e8, d8, n8, g8, ce8, e0, gtc, htc, em, gtm, htm, ecu, gcu, edr, gdr, hcu, hdr, hdec, hded, hsp, hC1, hC2, hcu8, hrb8, hcg8, hmn8, hE, hZ, hn8, hXA, hV8, hSG, ece8, gce8, hcen8, hhdr8, hknn8, -⟩ := hXI
  have hN3 := RB_n3 hrb8
  have hE13 : ∀ h : Nat, h < 24 → 0 ≤ e8 13 h ∧ e8 13 h ≤ 100 := fun k hk => by
    obtain ⟨s, h1, h2, h3⟩ := hcu8.1.2.2.1
    exact ⟨(h3 k hk).1, (h3 k hk).2.1⟩
  have hXW := hXA.1
  have hXN := hXA.2
  have hE0 : e8 0 3 = d8 0 3 ∧ e8 0 0 = d8 0 0 := by
    have h := hE 0 (by decide)
    exact ⟨congrFun h 3, congrFun h 0⟩
  have u3012 := CU_k hcu8
  have h3013 : CY T H cu (d8 0 3) g8 (H cu 17) := ⟨hcg8, rfl⟩
  have h3014 : RY T H m (d8 0 3) g8 (H m 32) := ⟨hmn8, rfl⟩
  obtain ⟨t9, ht9⟩ : ∃ t : Int, t = H x 9 := ⟨_, rfl⟩
  obtain ⟨y9, hy9⟩ : ∃ y : Int, y = H 0 ((i + 2).toNat) := ⟨_, rfl⟩
  obtain ⟨r3015, q3016, g3017⟩ := hW.ref gx (t' := 6) (n := 13) (j := 2) (p := 0) (q := 0) rfl (by decide) rfl
  refine wl_of hX hb cL_681 (xc_V (pc' := 684) (r := x) (as := [vI (H 0 ((i + 1).toNat)), vI (H 0 ((i + 2).toNat))]) (st := []) (lm_11_88) rfl rfl (Nat.le_of_ble_eq_true rfl) hW gx sh_1 (by decide) rfl (by decide) (u_93 (e := e8) (d := d8) (n := n8) hW gx ⟨by omega, by omega⟩ ⟨by omega, by omega⟩ ecu gcu q3016 g3017 ece8 gce8 (by assumption) (by assumption) (by omega) (by omega) (by omega) (by omega) hcu8 hcen8 hhdr8) (fun R3018 T3019 H3020 p3021 => ?_))
  obtain ⟨e3022, w3024, f3025, z3026, e3023, b3027, p3028⟩ := p3021
  subst e3022
  subst e3023
  show WL _ _ _ _ 684 [(4, vI i), (3, .ref o), (2, .ref m), (1, .ref x), (0, .ref 0)] [vI z3026] _ H3020
  refine wl_of hX hb cL_684 (rw_pop (pc' := 685) rfl rfl ?_)
  refine wl_of hX hb cL_685 (rw_aload_n (pc' := 686) (v := .ref m) rfl rfl rfl ?_)
  refine wl_of hX hb cL_686 (rw_aload_n (pc' := 687) (v := .ref 0) rfl rfl rfl ?_)
  refine wl_of hX hb cL_687 (rw_iload (pc' := 689) (z := i) rfl rfl ?_)
  refine wl_of hX hb cL_689 (rw_iconst (pc' := 690) rfl ?_)
  refine wl_of hX hb cL_690 (rw_iadd (pc' := 691) rfl ?_)
  have k3032 : H3020 0 ((i + 1).toNat) = H 0 ((i + 1).toNat) := (f3025 0 ((i + 1).toNat) _ g0 (wmem_s rfl))
  refine wl_of hX hb cL_691 (xa_I (so := 0) (pc' := 692) (a := 0) w3024 g0 (wsh_s _) (by omega) (wty_s _ _) (by omega) (by omega) rfl (fun b3030 b3031 => ?_))
  refine wl_of hX hb cL_692 (rw_aload_n (pc' := 693) (v := .ref 0) rfl rfl rfl ?_)
  refine wl_of hX hb cL_693 (rw_iload (pc' := 695) (z := i) rfl rfl ?_)
  refine wl_of hX hb cL_695 (rw_iconst (pc' := 696) rfl ?_)
  refine wl_of hX hb cL_696 (rw_iadd (pc' := 697) rfl ?_)
  have k3035 : H3020 0 ((i + 2).toNat) = H 0 ((i + 2).toNat) := (f3025 0 ((i + 2).toNat) _ g0 (wmem_s rfl))
  refine wl_of hX hb cL_697 (xa_I (so := 0) (pc' := 698) (a := 0) w3024 g0 (wsh_s _) (by omega) (wty_s _ _) (by omega) (by omega) rfl (fun b3033 b3034 => ?_))
  have k3036 : wKI H3020 m = wKI H m := (wKI_fr hW gm f3025 rfl)
  have k3037 : H3020 x 9 = H x 9 := (f3025 x 9 _ gx rfl)
  have k3038 : H3020 m 6 = H m 6 := (f3025 m 6 _ gm rfl)
  have k3039 : H3020 x 11 = H x 11 := (f3025 x 11 _ gx rfl)
  have k3040 : H3020 m 13 = H m 13 := (f3025 m 13 _ gm rfl)
  have k3041 : H3020 x 8 = H x 8 := (f3025 x 8 _ gx rfl)
  have k3042 : H3020 m 3 = H m 3 := (f3025 m 3 _ gm rfl)
  rw [show H3020 0 ((i + 2).toNat) = H 0 ((i + 2).toNat) by omega]
  rw [show H3020 0 ((i + 1).toNat) = H 0 ((i + 1).toNat) by omega]
  have h3043 : RB T H3020 m e8 d8 := (RB_fr hW gm f3025 rfl hrb8)
  have h3044 : KNN T H3020 m e8 d8 := (KNN_fr hW gm f3025 rfl hknn8)
  refine wl_of hX hb cL_698 (xc_V (pc' := 701) (r := m) (as := [vI (H 0 ((i + 1).toNat)), vI (H 0 ((i + 2).toNat))]) (st := []) (lm_11_92) rfl rfl (Nat.le_of_ble_eq_true rfl) w3024 gm sh_42 (by decide) rfl (by decide) (u_245 (e := e8) (d := d8) w3024 gm ⟨by omega, by omega⟩ ⟨by omega, by omega⟩ (by omega) (by assumption) (by assumption) (by assumption) (by assumption) h3043 h3044) (fun R3045 T3046 H3047 p3048 => ?_))
  obtain ⟨e3049, w3051, f3052, z3053, e3050, b3054, p3055⟩ := p3048
  subst e3049
  subst e3050
  obtain ⟨a3056, a3057⟩ := p3055
  show WL _ _ _ _ 701 [(4, vI i), (3, .ref o), (2, .ref m), (1, .ref x), (0, .ref 0)] [vI z3053] _ H3047
  refine wl_of hX hb cL_701 (rw_pop (pc' := 702) rfl rfl ?_)
  refine wl_of hX hb cL_702 (rw_goto (p1 := 1653) (by decide) ?_)
  have k3058 : H3047 x 9 = H3020 x 9 := (f3052 x 9 _ gx rfl)
  have k3059 : H3047 m 6 = H3020 m 6 := (f3052 m 6 _ gm rfl)
  have k3060 : H3047 x 11 = H3020 x 11 := (f3052 x 11 _ gx rfl)
  have k3061 : H3047 m 13 = H3020 m 13 := (f3052 m 13 _ gm rfl)
  have k3062 : H3047 x 8 = H3020 x 8 := (f3052 x 8 _ gx rfl)
  have k3063 : H3047 m 3 = H3020 m 3 := (f3052 m 3 _ gm rfl)
  have k3064 : H3047 x 0 = H x 0 := ((f3052 x 0 _ gx rfl).trans (f3025 x 0 _ gx rfl))
  have q3065 : H3047 x 0 = (tc : Int) := k3064.trans e0
  have k3066 : H3047 m 5 = H m 5 := ((f3052 m 5 _ gm rfl).trans (f3025 m 5 _ gm rfl))
  have q3067 : H3047 m 5 = (tm : Int) := k3066.trans em
  have k3068 : H3047 x 6 = H x 6 := ((f3052 x 6 _ gx rfl).trans (f3025 x 6 _ gx rfl))
  have q3069 : H3047 x 6 = (cu : Int) := k3068.trans ecu
  have k3070 : H3047 x 7 = H x 7 := ((f3052 x 7 _ gx rfl).trans (f3025 x 7 _ gx rfl))
  have q3071 : H3047 x 7 = (dr : Int) := k3070.trans edr
  have h3072 : CEN T H3047 ce8 e8 d8 := (CEN_fr w3024 gce8 f3052 rfl p3028)
  have h3073 : TP T H3047 tc B := (TP_fr w3024 gtc f3052 rfl (TP_fr hW gtc f3025 rfl htc))
  have h3074 : TM T H3047 tm B := (TM_fr w3024 gtm f3052 rfl (TM_fr hW gtm f3025 rfl htm))
  have h3075 : DD T H3047 cu  := (DD_fr w3024 gcu f3052 rfl (DD_fr hW gcu f3025 rfl hcu))
  have h3076 : DD T H3047 dr  := (DD_fr w3024 gdr f3052 rfl (DD_fr hW gdr f3025 rfl hdr))
  have h3077 : DE T H3047 cu  := (DE_fr w3024 gcu f3052 rfl (DE_fr hW gcu f3025 rfl hdec))
  have h3078 : DE T H3047 dr  := (DE_fr w3024 gdr f3052 rfl (DE_fr hW gdr f3025 rfl hded))
  have h3079 : SP T H3047 x C8 := (SP_fr w3024 gx f3052 rfl (SP_fr hW gx f3025 rfl hsp))
  have h3080 : CU T H3047 cu e8 d8 n8 := (CU_fr w3024 gcu f3052 rfl (CU_fr hW gcu f3025 rfl hcu8))
  have h3081 : CY T H3047 cu (d8 0 3) g8 (H cu 17) := (CY_fr w3024 gcu f3052 rfl (CY_fr hW gcu f3025 rfl h3013))
  have k3082 : H3047 x 3 = H x 3 := ((f3052 x 3 _ gx rfl).trans (f3025 x 3 _ gx rfl))
  have q3083 : H3047 x 3 = (ce8 : Int) := k3082.trans ece8
  have h3084 : HDR T H3047 ce8  := (HDR_fr w3024 gce8 f3052 rfl (HDR_fr hW gce8 f3025 rfl hhdr8))
  have h3085 : RY T H3047 m (d8 0 3) g8 (H m 32) := (RY_fr w3024 gm f3052 rfl (RY_fr hW gm f3025 rfl h3014))
  have h3086 : RB T H3047 m e8 d8 := (RB_fr w3024 gm f3052 rfl h3043)
  exact WL.loc hX (by simp) (next T H3047 ⟨⟨w3051, g0, gx, gm, go, by omega, by omega⟩, ⟨_, tc, tm, cu, dr, _, _, _, _, _, ce8, q3065, gtc, h3073, q3067, gtm, h3074, q3069, gcu, q3071, gdr, h3075, h3076, h3077, h3078, h3079, hC1, hC2, h3080, h3086, (h3081).1, (h3085).1, hE, hZ, (by omega), (by assumption), (by omega), (by first | assumption | exact SG_0), q3083, gce8, h3072, h3084, a3057, gm⟩, by omega, by omega⟩ (by omega) (by omega))
set_option maxHeartbeats 4000000 in
theorem wl_c17 {kt : Nat → Option mc_E} {CB SB : Nat} {X : mc_S → Prop} {T : wq_T} {H : wq_H} {Len x m o : Nat} {i : Int} (hX : wlX kt CB SB X) (hb : T.2.1 ≤ CB ∧ T.2.2.1 ≤ SB) (hI : wlJ Len x m o T H) (hL : Len ≤ 3072) (hi : 0 ≤ i ∧ i + 6 ≤ Len) (hb2 : T.2.1 + 20 ≤ CB ∧ T.2.2.1 + 500 ≤ SB)  (next : ∀ T' H', wlJ Len x m o T' H' → T'.2.1 ≤ T.2.1 + 20 → T'.2.2.1 ≤ T.2.2.1 + 500 → WL kt CB SB X 1653 (wlL i x m o) [] T' H') : WL kt CB SB X 705 (wlL i x m o) [] T H := by
  obtain ⟨⟨hW, g0, gx, gm, go, hK, hr⟩, hXI, hY1, hY2⟩ := hI
  refine wl_of hX hb cL_705 (rw_aload_n (pc' := 706) (v := .ref x) rfl rfl rfl ?_)
  obtain ⟨B, tc, tm, cu, dr, C8, e8, d8, n8, g8, ce8, e0, gtc, htc, em, gtm, htm, ecu, gcu, edr, gdr, hcu, hdr, hdec, hded, hsp, hC1, hC2, hcu8, hrb8, hcg8, hmn8, hE, hZ, hn8, hXA, hV8, hSG, ece8, gce8, hcen8, hhdr8, hknn8, -⟩ := hXI
  have hN3 := RB_n3 hrb8
  have hE13 : ∀ h : Nat, h < 24 → 0 ≤ e8 13 h ∧ e8 13 h ≤ 100 := fun k hk => by
    obtain ⟨s, h1, h2, h3⟩ := hcu8.1.2.2.1
    exact ⟨(h3 k hk).1, (h3 k hk).2.1⟩
  have hXW := hXA.1
  have hXN := hXA.2
  have hE0 : e8 0 3 = d8 0 3 ∧ e8 0 0 = d8 0 0 := by
    have h := hE 0 (by decide)
    exact ⟨congrFun h 3, congrFun h 0⟩
  have u3087 := CU_k hcu8
  have h3088 : CY T H cu (d8 0 3) g8 (H cu 17) := ⟨hcg8, rfl⟩
  have h3089 : RY T H m (d8 0 3) g8 (H m 32) := ⟨hmn8, rfl⟩
  obtain ⟨t9, ht9⟩ : ∃ t : Int, t = H x 9 := ⟨_, rfl⟩
  obtain ⟨r3090, q3091, g3092⟩ := hW.ref gx (t' := 6) (n := 13) (j := 2) (p := 0) (q := 0) rfl (by decide) rfl
  refine wl_of hX hb cL_706 (xc_V (pc' := 709) (r := x) (as := []) (st := []) (lm_11_93) rfl rfl (Nat.le_of_ble_eq_true rfl) hW gx sh_1 (by decide) rfl (by decide) (u_97 (e := e8) (d := d8) (n := n8) hW gx ecu gcu q3091 g3092 ece8 gce8 (by assumption) (by assumption) (by omega) (by omega) (by omega) (by omega) hcu8 hcen8 hhdr8) (fun R3093 T3094 H3095 p3096 => ?_))
  obtain ⟨e3097, w3099, f3100, z3101, e3098, b3102, p3103⟩ := p3096
  subst e3097
  subst e3098
  show WL _ _ _ _ 709 [(4, vI i), (3, .ref o), (2, .ref m), (1, .ref x), (0, .ref 0)] [vL z3101] _ H3095
  refine wl_of hX hb cL_709 (rw_pop2 (pc' := 710) rfl rfl ?_)
  refine wl_of hX hb cL_710 (rw_aload_n (pc' := 711) (v := .ref m) rfl rfl rfl ?_)
  have k3105 : wKI H3095 m = wKI H m := (wKI_fr hW gm f3100 rfl)
  have k3106 : H3095 x 9 = H x 9 := (f3100 x 9 _ gx rfl)
  have k3107 : H3095 m 6 = H m 6 := (f3100 m 6 _ gm rfl)
  have k3108 : H3095 x 11 = H x 11 := (f3100 x 11 _ gx rfl)
  have k3109 : H3095 m 13 = H m 13 := (f3100 m 13 _ gm rfl)
  have k3110 : H3095 x 8 = H x 8 := (f3100 x 8 _ gx rfl)
  have k3111 : H3095 m 3 = H m 3 := (f3100 m 3 _ gm rfl)
  have h3112 : RB T H3095 m e8 d8 := (RB_fr hW gm f3100 rfl hrb8)
  have h3113 : KNN T H3095 m e8 d8 := (KNN_fr hW gm f3100 rfl hknn8)
  refine wl_of hX hb cL_711 (xc_V (pc' := 714) (r := m) (as := []) (st := []) (lm_11_96) rfl rfl (Nat.le_of_ble_eq_true rfl) w3099 gm sh_42 (by decide) rfl (by decide) (u_246 (e := e8) (d := d8) w3099 gm (by omega) (by assumption) (by assumption) (by assumption) (by assumption) h3112 h3113) (fun R3114 T3115 H3116 p3117 => ?_))
  obtain ⟨e3118, w3120, f3121, z3122, e3119, b3123, p3124⟩ := p3117
  subst e3118
  subst e3119
  obtain ⟨a3125, a3126⟩ := p3124
  show WL _ _ _ _ 714 [(4, vI i), (3, .ref o), (2, .ref m), (1, .ref x), (0, .ref 0)] [vL z3122] _ H3116
  refine wl_of hX hb cL_714 (rw_pop2 (pc' := 715) rfl rfl ?_)
  refine wl_of hX hb cL_715 (rw_goto (p1 := 1653) (by decide) ?_)
  have k3127 : H3116 x 9 = H3095 x 9 := (f3121 x 9 _ gx rfl)
  have k3128 : H3116 m 6 = H3095 m 6 := (f3121 m 6 _ gm rfl)
  have k3129 : H3116 x 11 = H3095 x 11 := (f3121 x 11 _ gx rfl)
  have k3130 : H3116 m 13 = H3095 m 13 := (f3121 m 13 _ gm rfl)
  have k3131 : H3116 x 8 = H3095 x 8 := (f3121 x 8 _ gx rfl)
  have k3132 : H3116 m 3 = H3095 m 3 := (f3121 m 3 _ gm rfl)
  have k3133 : H3116 x 0 = H x 0 := ((f3121 x 0 _ gx rfl).trans (f3100 x 0 _ gx rfl))
  have q3134 : H3116 x 0 = (tc : Int) := k3133.trans e0
  have k3135 : H3116 m 5 = H m 5 := ((f3121 m 5 _ gm rfl).trans (f3100 m 5 _ gm rfl))
  have q3136 : H3116 m 5 = (tm : Int) := k3135.trans em
  have k3137 : H3116 x 6 = H x 6 := ((f3121 x 6 _ gx rfl).trans (f3100 x 6 _ gx rfl))
  have q3138 : H3116 x 6 = (cu : Int) := k3137.trans ecu
  have k3139 : H3116 x 7 = H x 7 := ((f3121 x 7 _ gx rfl).trans (f3100 x 7 _ gx rfl))
  have q3140 : H3116 x 7 = (dr : Int) := k3139.trans edr
  have h3141 : CEN T H3116 ce8 e8 d8 := (CEN_fr w3099 gce8 f3121 rfl p3103)
  have h3142 : TP T H3116 tc B := (TP_fr w3099 gtc f3121 rfl (TP_fr hW gtc f3100 rfl htc))
  have h3143 : TM T H3116 tm B := (TM_fr w3099 gtm f3121 rfl (TM_fr hW gtm f3100 rfl htm))
  have h3144 : DD T H3116 cu  := (DD_fr w3099 gcu f3121 rfl (DD_fr hW gcu f3100 rfl hcu))
  have h3145 : DD T H3116 dr  := (DD_fr w3099 gdr f3121 rfl (DD_fr hW gdr f3100 rfl hdr))
  have h3146 : DE T H3116 cu  := (DE_fr w3099 gcu f3121 rfl (DE_fr hW gcu f3100 rfl hdec))
  have h3147 : DE T H3116 dr  := (DE_fr w3099 gdr f3121 rfl (DE_fr hW gdr f3100 rfl hded))
  have h3148 : SP T H3116 x C8 := (SP_fr w3099 gx f3121 rfl (SP_fr hW gx f3100 rfl hsp))
  have h3149 : CU T H3116 cu e8 d8 n8 := (CU_fr w3099 gcu f3121 rfl (CU_fr hW gcu f3100 rfl hcu8))
  have h3150 : CY T H3116 cu (d8 0 3) g8 (H cu 17) := (CY_fr w3099 gcu f3121 rfl (CY_fr hW gcu f3100 rfl h3088))
  have k3151 : H3116 x 3 = H x 3 := ((f3121 x 3 _ gx rfl).trans (f3100 x 3 _ gx rfl))
  have q3152 : H3116 x 3 = (ce8 : Int) := k3151.trans ece8
  have h3153 : HDR T H3116 ce8  := (HDR_fr w3099 gce8 f3121 rfl (HDR_fr hW gce8 f3100 rfl hhdr8))
  have h3154 : RY T H3116 m (d8 0 3) g8 (H m 32) := (RY_fr w3099 gm f3121 rfl (RY_fr hW gm f3100 rfl h3089))
  have h3155 : RB T H3116 m e8 d8 := (RB_fr w3099 gm f3121 rfl h3112)
  exact WL.loc hX (by simp) (next T H3116 ⟨⟨w3120, g0, gx, gm, go, by omega, by omega⟩, ⟨_, tc, tm, cu, dr, _, _, _, _, _, ce8, q3134, gtc, h3142, q3136, gtm, h3143, q3138, gcu, q3140, gdr, h3144, h3145, h3146, h3147, h3148, hC1, hC2, h3149, h3155, (h3150).1, (h3154).1, hE, hZ, (by omega), (by assumption), (by omega), (by first | assumption | exact SG_0), q3152, gce8, h3141, h3153, a3126, gm⟩, by omega, by omega⟩ (by omega) (by omega))
set_option maxHeartbeats 4000000 in
theorem wl_c18 {kt : Nat → Option mc_E} {CB SB : Nat} {X : mc_S → Prop} {T : wq_T} {H : wq_H} {Len x m o : Nat} {i : Int} (hX : wlX kt CB SB X) (hb : T.2.1 ≤ CB ∧ T.2.2.1 ≤ SB) (hI : wlJ Len x m o T H) (hL : Len ≤ 3072) (hi : 0 ≤ i ∧ i + 6 ≤ Len) (hb2 : T.2.1 + 20 ≤ CB ∧ T.2.2.1 + 500 ≤ SB)  (next : ∀ T' H', wlJ Len x m o T' H' → T'.2.1 ≤ T.2.1 + 20 → T'.2.2.1 ≤ T.2.2.1 + 500 → WL kt CB SB X 1653 (wlL i x m o) [] T' H') : WL kt CB SB X 718 (wlL i x m o) [] T H := by
  obtain ⟨⟨hW, g0, gx, gm, go, hK, hr⟩, hXI, hY1, hY2⟩ := hI
  refine wl_of hX hb cL_718 (rw_aload_n (pc' := 719) (v := .ref x) rfl rfl rfl ?_)
  refine wl_of hX hb cL_719 (rw_aload_n (pc' := 720) (v := .ref 0) rfl rfl rfl ?_)
  refine wl_of hX hb cL_720 (rw_iload (pc' := 722) (z := i) rfl rfl ?_)
  refine wl_of hX hb cL_722 (rw_iconst (pc' := 723) rfl ?_)
  refine wl_of hX hb cL_723 (rw_iadd (pc' := 724) rfl ?_)
  refine wl_of hX hb cL_724 (xa_I (so := 0) (pc' := 725) (a := 0) hW g0 (wsh_s _) (by omega) (wty_s _ _) (by omega) (by omega) rfl (fun b3156 b3157 => ?_))
  refine wl_of hX hb cL_725 (rw_aload_n (pc' := 726) (v := .ref 0) rfl rfl rfl ?_)
  refine wl_of hX hb cL_726 (rw_iload (pc' := 728) (z := i) rfl rfl ?_)
  refine wl_of hX hb cL_728 (rw_iconst (pc' := 729) rfl ?_)
  refine wl_of hX hb cL_729 (rw_iadd (pc' := 730) rfl ?_)
  refine wl_of hX hb cL_730 (xa_I (so := 0) (pc' := 731) (a := 0) hW g0 (wsh_s _) (by omega) (wty_s _ _) (by omega) (by omega) rfl (fun b3158 b3159 => ?_))
  obtain ⟨B, tc, tm, cu, dr, C8, e8, d8, n8, g8, ce8, e0, gtc, htc, em, gtm, htm, ecu, gcu, edr, gdr, hcu, hdr, hdec, hded, hsp, hC1, hC2, hcu8, hrb8, hcg8, hmn8, hE, hZ, hn8, hXA, hV8, hSG, ece8, gce8, hcen8, hhdr8, hknn8, -⟩ := hXI
  have hN3 := RB_n3 hrb8
  have hE13 : ∀ h : Nat, h < 24 → 0 ≤ e8 13 h ∧ e8 13 h ≤ 100 := fun k hk => by
    obtain ⟨s, h1, h2, h3⟩ := hcu8.1.2.2.1
    exact ⟨(h3 k hk).1, (h3 k hk).2.1⟩
  have hXW := hXA.1
  have hXN := hXA.2
  have hE0 : e8 0 3 = d8 0 3 ∧ e8 0 0 = d8 0 0 := by
    have h := hE 0 (by decide)
    exact ⟨congrFun h 3, congrFun h 0⟩
  have u3160 := CU_k hcu8
  have h3161 : CY T H cu (d8 0 3) g8 (H cu 17) := ⟨hcg8, rfl⟩
  have h3162 : RY T H m (d8 0 3) g8 (H m 32) := ⟨hmn8, rfl⟩
  obtain ⟨t9, ht9⟩ : ∃ t : Int, t = H x 9 := ⟨_, rfl⟩
  obtain ⟨y9, hy9⟩ : ∃ y : Int, y = H 0 ((i + 2).toNat) := ⟨_, rfl⟩
  obtain ⟨r3163, q3164, g3165⟩ := hW.ref gx (t' := 6) (n := 13) (j := 2) (p := 0) (q := 0) rfl (by decide) rfl
  refine wl_of hX hb cL_731 (xc_V (pc' := 734) (r := x) (as := [vI (H 0 ((i + 1).toNat)), vI (H 0 ((i + 2).toNat))]) (st := []) (lm_11_97) rfl rfl (Nat.le_of_ble_eq_true rfl) hW gx sh_1 (by decide) rfl (by decide) (u_98 (e := e8) (d := d8) (n := n8) hW gx ⟨by omega, by omega⟩ ⟨by omega, by omega⟩ ecu gcu q3164 g3165 ece8 gce8 (by assumption) (by assumption) (by omega) (by omega) (by omega) (by omega) hcu8 hcen8 hhdr8) (fun R3166 T3167 H3168 p3169 => ?_))
  obtain ⟨e3170, w3172, f3173, z3174, e3171, b3175, p3176⟩ := p3169
  subst e3170
  subst e3171
  show WL _ _ _ _ 734 [(4, vI i), (3, .ref o), (2, .ref m), (1, .ref x), (0, .ref 0)] [vI z3174] _ H3168
  refine wl_of hX hb cL_734 (rw_pop (pc' := 735) rfl rfl ?_)
  refine wl_of hX hb cL_735 (rw_aload_n (pc' := 736) (v := .ref m) rfl rfl rfl ?_)
  refine wl_of hX hb cL_736 (rw_aload_n (pc' := 737) (v := .ref 0) rfl rfl rfl ?_)
  refine wl_of hX hb cL_737 (rw_iload (pc' := 739) (z := i) rfl rfl ?_)
  refine wl_of hX hb cL_739 (rw_iconst (pc' := 740) rfl ?_)
  refine wl_of hX hb cL_740 (rw_iadd (pc' := 741) rfl ?_)
  have k3180 : H3168 0 ((i + 1).toNat) = H 0 ((i + 1).toNat) := (f3173 0 ((i + 1).toNat) _ g0 (wmem_s rfl))
  refine wl_of hX hb cL_741 (xa_I (so := 0) (pc' := 742) (a := 0) w3172 g0 (wsh_s _) (by omega) (wty_s _ _) (by omega) (by omega) rfl (fun b3178 b3179 => ?_))
  refine wl_of hX hb cL_742 (rw_aload_n (pc' := 743) (v := .ref 0) rfl rfl rfl ?_)
  refine wl_of hX hb cL_743 (rw_iload (pc' := 745) (z := i) rfl rfl ?_)
  refine wl_of hX hb cL_745 (rw_iconst (pc' := 746) rfl ?_)
  refine wl_of hX hb cL_746 (rw_iadd (pc' := 747) rfl ?_)
  have k3183 : H3168 0 ((i + 2).toNat) = H 0 ((i + 2).toNat) := (f3173 0 ((i + 2).toNat) _ g0 (wmem_s rfl))
  refine wl_of hX hb cL_747 (xa_I (so := 0) (pc' := 748) (a := 0) w3172 g0 (wsh_s _) (by omega) (wty_s _ _) (by omega) (by omega) rfl (fun b3181 b3182 => ?_))
  have k3184 : wKI H3168 m = wKI H m := (wKI_fr hW gm f3173 rfl)
  have k3185 : H3168 x 9 = H x 9 := (f3173 x 9 _ gx rfl)
  have k3186 : H3168 m 6 = H m 6 := (f3173 m 6 _ gm rfl)
  have k3187 : H3168 x 11 = H x 11 := (f3173 x 11 _ gx rfl)
  have k3188 : H3168 m 13 = H m 13 := (f3173 m 13 _ gm rfl)
  have k3189 : H3168 x 8 = H x 8 := (f3173 x 8 _ gx rfl)
  have k3190 : H3168 m 3 = H m 3 := (f3173 m 3 _ gm rfl)
  rw [show H3168 0 ((i + 2).toNat) = H 0 ((i + 2).toNat) by omega]
  rw [show H3168 0 ((i + 1).toNat) = H 0 ((i + 1).toNat) by omega]
  have h3191 : RB T H3168 m e8 d8 := (RB_fr hW gm f3173 rfl hrb8)
  have h3192 : KNN T H3168 m e8 d8 := (KNN_fr hW gm f3173 rfl hknn8)
  refine wl_of hX hb cL_748 (xc_V (pc' := 751) (r := m) (as := [vI (H 0 ((i + 1).toNat)), vI (H 0 ((i + 2).toNat))]) (st := []) (lm_11_100) rfl rfl (Nat.le_of_ble_eq_true rfl) w3172 gm sh_42 (by decide) rfl (by decide) (u_249 (e := e8) (d := d8) w3172 gm ⟨by omega, by omega⟩ ⟨by omega, by omega⟩ (by omega) (by assumption) (by assumption) (by assumption) (by assumption) h3191 h3192) (fun R3193 T3194 H3195 p3196 => ?_))
  obtain ⟨e3197, w3199, f3200, z3201, e3198, b3202, p3203⟩ := p3196
  subst e3197
  subst e3198
  obtain ⟨a3204, a3205⟩ := p3203
  show WL _ _ _ _ 751 [(4, vI i), (3, .ref o), (2, .ref m), (1, .ref x), (0, .ref 0)] [vI z3201] _ H3195
  refine wl_of hX hb cL_751 (rw_pop (pc' := 752) rfl rfl ?_)
  refine wl_of hX hb cL_752 (rw_goto (p1 := 1653) (by decide) ?_)
  have k3206 : H3195 x 9 = H3168 x 9 := (f3200 x 9 _ gx rfl)
  have k3207 : H3195 m 6 = H3168 m 6 := (f3200 m 6 _ gm rfl)
  have k3208 : H3195 x 11 = H3168 x 11 := (f3200 x 11 _ gx rfl)
  have k3209 : H3195 m 13 = H3168 m 13 := (f3200 m 13 _ gm rfl)
  have k3210 : H3195 x 8 = H3168 x 8 := (f3200 x 8 _ gx rfl)
  have k3211 : H3195 m 3 = H3168 m 3 := (f3200 m 3 _ gm rfl)
  have k3212 : H3195 x 0 = H x 0 := ((f3200 x 0 _ gx rfl).trans (f3173 x 0 _ gx rfl))
  have q3213 : H3195 x 0 = (tc : Int) := k3212.trans e0
  have k3214 : H3195 m 5 = H m 5 := ((f3200 m 5 _ gm rfl).trans (f3173 m 5 _ gm rfl))
  have q3215 : H3195 m 5 = (tm : Int) := k3214.trans em
  have k3216 : H3195 x 6 = H x 6 := ((f3200 x 6 _ gx rfl).trans (f3173 x 6 _ gx rfl))
  have q3217 : H3195 x 6 = (cu : Int) := k3216.trans ecu
  have k3218 : H3195 x 7 = H x 7 := ((f3200 x 7 _ gx rfl).trans (f3173 x 7 _ gx rfl))
  have q3219 : H3195 x 7 = (dr : Int) := k3218.trans edr
  have h3220 : CEN T H3195 ce8 e8 d8 := (CEN_fr w3172 gce8 f3200 rfl p3176)
  have h3221 : TP T H3195 tc B := (TP_fr w3172 gtc f3200 rfl (TP_fr hW gtc f3173 rfl htc))
  have h3222 : TM T H3195 tm B := (TM_fr w3172 gtm f3200 rfl (TM_fr hW gtm f3173 rfl htm))
  have h3223 : DD T H3195 cu  := (DD_fr w3172 gcu f3200 rfl (DD_fr hW gcu f3173 rfl hcu))
  have h3224 : DD T H3195 dr  := (DD_fr w3172 gdr f3200 rfl (DD_fr hW gdr f3173 rfl hdr))
  have h3225 : DE T H3195 cu  := (DE_fr w3172 gcu f3200 rfl (DE_fr hW gcu f3173 rfl hdec))
  have h3226 : DE T H3195 dr  := (DE_fr w3172 gdr f3200 rfl (DE_fr hW gdr f3173 rfl hded))
  have h3227 : SP T H3195 x C8 := (SP_fr w3172 gx f3200 rfl (SP_fr hW gx f3173 rfl hsp))
  have h3228 : CU T H3195 cu e8 d8 n8 := (CU_fr w3172 gcu f3200 rfl (CU_fr hW gcu f3173 rfl hcu8))
  have h3229 : CY T H3195 cu (d8 0 3) g8 (H cu 17) := (CY_fr w3172 gcu f3200 rfl (CY_fr hW gcu f3173 rfl h3161))
  have k3230 : H3195 x 3 = H x 3 := ((f3200 x 3 _ gx rfl).trans (f3173 x 3 _ gx rfl))
  have q3231 : H3195 x 3 = (ce8 : Int) := k3230.trans ece8
  have h3232 : HDR T H3195 ce8  := (HDR_fr w3172 gce8 f3200 rfl (HDR_fr hW gce8 f3173 rfl hhdr8))
  have h3233 : RY T H3195 m (d8 0 3) g8 (H m 32) := (RY_fr w3172 gm f3200 rfl (RY_fr hW gm f3173 rfl h3162))
  have h3234 : RB T H3195 m e8 d8 := (RB_fr w3172 gm f3200 rfl h3191)
  exact WL.loc hX (by simp) (next T H3195 ⟨⟨w3199, g0, gx, gm, go, by omega, by omega⟩, ⟨_, tc, tm, cu, dr, _, _, _, _, _, ce8, q3213, gtc, h3221, q3215, gtm, h3222, q3217, gcu, q3219, gdr, h3223, h3224, h3225, h3226, h3227, hC1, hC2, h3228, h3234, (h3229).1, (h3233).1, hE, hZ, (by omega), (by assumption), (by omega), (by first | assumption | exact SG_0), q3231, gce8, h3220, h3232, a3205, gm⟩, by omega, by omega⟩ (by omega) (by omega))
set_option maxHeartbeats 4000000 in
theorem wl_c19 {kt : Nat → Option mc_E} {CB SB : Nat} {X : mc_S → Prop} {T : wq_T} {H : wq_H} {Len x m o : Nat} {i : Int} (hX : wlX kt CB SB X) (hb : T.2.1 ≤ CB ∧ T.2.2.1 ≤ SB) (hI : wlJ Len x m o T H) (hL : Len ≤ 3072) (hi : 0 ≤ i ∧ i + 6 ≤ Len) (hb2 : T.2.1 + 20 ≤ CB ∧ T.2.2.1 + 500 ≤ SB)  (next : ∀ T' H', wlJ Len x m o T' H' → T'.2.1 ≤ T.2.1 + 20 → T'.2.2.1 ≤ T.2.2.1 + 500 → WL kt CB SB X 1653 (wlL i x m o) [] T' H') : WL kt CB SB X 755 (wlL i x m o) [] T H := by
  obtain ⟨⟨hW, g0, gx, gm, go, hK, hr⟩, hXI, hY1, hY2⟩ := hI
  refine wl_of hX hb cL_755 (rw_aload_n (pc' := 756) (v := .ref x) rfl rfl rfl ?_)
  refine wl_of hX hb cL_756 (rw_aload_n (pc' := 757) (v := .ref 0) rfl rfl rfl ?_)
  refine wl_of hX hb cL_757 (rw_iload (pc' := 759) (z := i) rfl rfl ?_)
  refine wl_of hX hb cL_759 (rw_iconst (pc' := 760) rfl ?_)
  refine wl_of hX hb cL_760 (rw_iadd (pc' := 761) rfl ?_)
  refine wl_of hX hb cL_761 (xa_I (so := 0) (pc' := 762) (a := 0) hW g0 (wsh_s _) (by omega) (wty_s _ _) (by omega) (by omega) rfl (fun b3235 b3236 => ?_))
  refine wl_of hX hb cL_762 (rw_aload_n (pc' := 763) (v := .ref 0) rfl rfl rfl ?_)
  refine wl_of hX hb cL_763 (rw_iload (pc' := 765) (z := i) rfl rfl ?_)
  refine wl_of hX hb cL_765 (rw_iconst (pc' := 766) rfl ?_)
  refine wl_of hX hb cL_766 (rw_iadd (pc' := 767) rfl ?_)
  refine wl_of hX hb cL_767 (xa_I (so := 0) (pc' := 768) (a := 0) hW g0 (wsh_s _) (by omega) (wty_s _ _) (by omega) (by omega) rfl (fun b3237 b3238 => ?_))
  obtain ⟨B, tc, tm, cu, dr, C8, e8, d8, n8, g8, ce8, e0, gtc, htc, em, gtm, htm, ecu, gcu, edr, gdr, hcu, hdr, hdec, hded, hsp, hC1, hC2, hcu8, hrb8, hcg8, hmn8, hE, hZ, hn8, hXA, hV8, hSG, ece8, gce8, hcen8, hhdr8, hknn8, -⟩ := hXI
  have hN3 := RB_n3 hrb8
  have hE13 : ∀ h : Nat, h < 24 → 0 ≤ e8 13 h ∧ e8 13 h ≤ 100 := fun k hk => by
    obtain ⟨s, h1, h2, h3⟩ := hcu8.1.2.2.1
    exact ⟨(h3 k hk).1, (h3 k hk).2.1⟩
  have hXW := hXA.1
  have hXN := hXA.2
  have hE0 : e8 0 3 = d8 0 3 ∧ e8 0 0 = d8 0 0 := by
    have h := hE 0 (by decide)
    exact ⟨congrFun h 3, congrFun h 0⟩
  have u3239 := CU_k hcu8
  have h3240 : CY T H cu (d8 0 3) g8 (H cu 17) := ⟨hcg8, rfl⟩
  have h3241 : RY T H m (d8 0 3) g8 (H m 32) := ⟨hmn8, rfl⟩
  obtain ⟨t9, ht9⟩ : ∃ t : Int, t = H x 9 := ⟨_, rfl⟩
  obtain ⟨y9, hy9⟩ : ∃ y : Int, y = H 0 ((i + 2).toNat) := ⟨_, rfl⟩
  obtain ⟨r3242, q3243, g3244⟩ := hW.ref gx (t' := 6) (n := 13) (j := 2) (p := 0) (q := 0) rfl (by decide) rfl
  refine wl_of hX hb cL_768 (xc_V (pc' := 771) (r := x) (as := [vI (H 0 ((i + 1).toNat)), vI (H 0 ((i + 2).toNat))]) (st := []) (lm_11_101) rfl rfl (Nat.le_of_ble_eq_true rfl) hW gx sh_1 (by decide) rfl (by decide) (u_99 (e := e8) (d := d8) (n := n8) hW gx ⟨by omega, by omega⟩ ⟨by omega, by omega⟩ ecu gcu q3243 g3244 ece8 gce8 (by assumption) (by assumption) (by omega) (by omega) (by omega) (by omega) hcu8 hcen8 hhdr8) (fun R3245 T3246 H3247 p3248 => ?_))
  obtain ⟨e3249, w3251, f3252, z3253, e3250, b3254, p3255⟩ := p3248
  subst e3249
  subst e3250
  show WL _ _ _ _ 771 [(4, vI i), (3, .ref o), (2, .ref m), (1, .ref x), (0, .ref 0)] [vI z3253] _ H3247
  refine wl_of hX hb cL_771 (rw_pop (pc' := 772) rfl rfl ?_)
  refine wl_of hX hb cL_772 (rw_aload_n (pc' := 773) (v := .ref m) rfl rfl rfl ?_)
  refine wl_of hX hb cL_773 (rw_aload_n (pc' := 774) (v := .ref 0) rfl rfl rfl ?_)
  refine wl_of hX hb cL_774 (rw_iload (pc' := 776) (z := i) rfl rfl ?_)
  refine wl_of hX hb cL_776 (rw_iconst (pc' := 777) rfl ?_)
  refine wl_of hX hb cL_777 (rw_iadd (pc' := 778) rfl ?_)
  have k3259 : H3247 0 ((i + 1).toNat) = H 0 ((i + 1).toNat) := (f3252 0 ((i + 1).toNat) _ g0 (wmem_s rfl))
  refine wl_of hX hb cL_778 (xa_I (so := 0) (pc' := 779) (a := 0) w3251 g0 (wsh_s _) (by omega) (wty_s _ _) (by omega) (by omega) rfl (fun b3257 b3258 => ?_))
  refine wl_of hX hb cL_779 (rw_aload_n (pc' := 780) (v := .ref 0) rfl rfl rfl ?_)
  refine wl_of hX hb cL_780 (rw_iload (pc' := 782) (z := i) rfl rfl ?_)
  refine wl_of hX hb cL_782 (rw_iconst (pc' := 783) rfl ?_)
  refine wl_of hX hb cL_783 (rw_iadd (pc' := 784) rfl ?_)
  have k3262 : H3247 0 ((i + 2).toNat) = H 0 ((i + 2).toNat) := (f3252 0 ((i + 2).toNat) _ g0 (wmem_s rfl))
  refine wl_of hX hb cL_784 (xa_I (so := 0) (pc' := 785) (a := 0) w3251 g0 (wsh_s _) (by omega) (wty_s _ _) (by omega) (by omega) rfl (fun b3260 b3261 => ?_))
  have k3263 : wKI H3247 m = wKI H m := (wKI_fr hW gm f3252 rfl)
  have k3264 : H3247 x 9 = H x 9 := (f3252 x 9 _ gx rfl)
  have k3265 : H3247 m 6 = H m 6 := (f3252 m 6 _ gm rfl)
  have k3266 : H3247 x 11 = H x 11 := (f3252 x 11 _ gx rfl)
  have k3267 : H3247 m 13 = H m 13 := (f3252 m 13 _ gm rfl)
  have k3268 : H3247 x 8 = H x 8 := (f3252 x 8 _ gx rfl)
  have k3269 : H3247 m 3 = H m 3 := (f3252 m 3 _ gm rfl)
  rw [show H3247 0 ((i + 2).toNat) = H 0 ((i + 2).toNat) by omega]
  rw [show H3247 0 ((i + 1).toNat) = H 0 ((i + 1).toNat) by omega]
  have h3270 : RB T H3247 m e8 d8 := (RB_fr hW gm f3252 rfl hrb8)
  have h3271 : KNN T H3247 m e8 d8 := (KNN_fr hW gm f3252 rfl hknn8)
  refine wl_of hX hb cL_785 (xc_V (pc' := 788) (r := m) (as := [vI (H 0 ((i + 1).toNat)), vI (H 0 ((i + 2).toNat))]) (st := []) (lm_11_104) rfl rfl (Nat.le_of_ble_eq_true rfl) w3251 gm sh_42 (by decide) rfl (by decide) (u_250 (e := e8) (d := d8) w3251 gm ⟨by omega, by omega⟩ ⟨by omega, by omega⟩ (by omega) (by assumption) (by assumption) (by assumption) (by assumption) h3270 h3271) (fun R3272 T3273 H3274 p3275 => ?_))
  obtain ⟨e3276, w3278, f3279, z3280, e3277, b3281, p3282⟩ := p3275
  subst e3276
  subst e3277
  obtain ⟨a3283, a3284⟩ := p3282
  show WL _ _ _ _ 788 [(4, vI i), (3, .ref o), (2, .ref m), (1, .ref x), (0, .ref 0)] [vI z3280] _ H3274
  refine wl_of hX hb cL_788 (rw_pop (pc' := 789) rfl rfl ?_)
  refine wl_of hX hb cL_789 (rw_goto (p1 := 1653) (by decide) ?_)
  have k3285 : H3274 x 9 = H3247 x 9 := (f3279 x 9 _ gx rfl)
  have k3286 : H3274 m 6 = H3247 m 6 := (f3279 m 6 _ gm rfl)
  have k3287 : H3274 x 11 = H3247 x 11 := (f3279 x 11 _ gx rfl)
  have k3288 : H3274 m 13 = H3247 m 13 := (f3279 m 13 _ gm rfl)
  have k3289 : H3274 x 8 = H3247 x 8 := (f3279 x 8 _ gx rfl)
  have k3290 : H3274 m 3 = H3247 m 3 := (f3279 m 3 _ gm rfl)
  have k3291 : H3274 x 0 = H x 0 := ((f3279 x 0 _ gx rfl).trans (f3252 x 0 _ gx rfl))
  have q3292 : H3274 x 0 = (tc : Int) := k3291.trans e0
  have k3293 : H3274 m 5 = H m 5 := ((f3279 m 5 _ gm rfl).trans (f3252 m 5 _ gm rfl))
  have q3294 : H3274 m 5 = (tm : Int) := k3293.trans em
  have k3295 : H3274 x 6 = H x 6 := ((f3279 x 6 _ gx rfl).trans (f3252 x 6 _ gx rfl))
  have q3296 : H3274 x 6 = (cu : Int) := k3295.trans ecu
  have k3297 : H3274 x 7 = H x 7 := ((f3279 x 7 _ gx rfl).trans (f3252 x 7 _ gx rfl))
  have q3298 : H3274 x 7 = (dr : Int) := k3297.trans edr
  have h3299 : CEN T H3274 ce8 e8 d8 := (CEN_fr w3251 gce8 f3279 rfl p3255)
  have h3300 : TP T H3274 tc B := (TP_fr w3251 gtc f3279 rfl (TP_fr hW gtc f3252 rfl htc))
  have h3301 : TM T H3274 tm B := (TM_fr w3251 gtm f3279 rfl (TM_fr hW gtm f3252 rfl htm))
  have h3302 : DD T H3274 cu  := (DD_fr w3251 gcu f3279 rfl (DD_fr hW gcu f3252 rfl hcu))
  have h3303 : DD T H3274 dr  := (DD_fr w3251 gdr f3279 rfl (DD_fr hW gdr f3252 rfl hdr))
  have h3304 : DE T H3274 cu  := (DE_fr w3251 gcu f3279 rfl (DE_fr hW gcu f3252 rfl hdec))
  have h3305 : DE T H3274 dr  := (DE_fr w3251 gdr f3279 rfl (DE_fr hW gdr f3252 rfl hded))
  have h3306 : SP T H3274 x C8 := (SP_fr w3251 gx f3279 rfl (SP_fr hW gx f3252 rfl hsp))
  have h3307 : CU T H3274 cu e8 d8 n8 := (CU_fr w3251 gcu f3279 rfl (CU_fr hW gcu f3252 rfl hcu8))
  have h3308 : CY T H3274 cu (d8 0 3) g8 (H cu 17) := (CY_fr w3251 gcu f3279 rfl (CY_fr hW gcu f3252 rfl h3240))
  have k3309 : H3274 x 3 = H x 3 := ((f3279 x 3 _ gx rfl).trans (f3252 x 3 _ gx rfl))
  have q3310 : H3274 x 3 = (ce8 : Int) := k3309.trans ece8
  have h3311 : HDR T H3274 ce8  := (HDR_fr w3251 gce8 f3279 rfl (HDR_fr hW gce8 f3252 rfl hhdr8))
  have h3312 : RY T H3274 m (d8 0 3) g8 (H m 32) := (RY_fr w3251 gm f3279 rfl (RY_fr hW gm f3252 rfl h3241))
  have h3313 : RB T H3274 m e8 d8 := (RB_fr w3251 gm f3279 rfl h3270)
  exact WL.loc hX (by simp) (next T H3274 ⟨⟨w3278, g0, gx, gm, go, by omega, by omega⟩, ⟨_, tc, tm, cu, dr, _, _, _, _, _, ce8, q3292, gtc, h3300, q3294, gtm, h3301, q3296, gcu, q3298, gdr, h3302, h3303, h3304, h3305, h3306, hC1, hC2, h3307, h3313, (h3308).1, (h3312).1, hE, hZ, (by omega), (by assumption), (by omega), (by first | assumption | exact SG_0), q3310, gce8, h3299, h3311, a3284, gm⟩, by omega, by omega⟩ (by omega) (by omega))
set_option maxHeartbeats 4000000 in
theorem wl_c20 {kt : Nat → Option mc_E} {CB SB : Nat} {X : mc_S → Prop} {T : wq_T} {H : wq_H} {Len x m o : Nat} {i : Int} (hX : wlX kt CB SB X) (hb : T.2.1 ≤ CB ∧ T.2.2.1 ≤ SB) (hI : wlJ Len x m o T H) (hL : Len ≤ 3072) (hi : 0 ≤ i ∧ i + 6 ≤ Len) (hb2 : T.2.1 + 20 ≤ CB ∧ T.2.2.1 + 500 ≤ SB)  (next : ∀ T' H', wlJ Len x m o T' H' → T'.2.1 ≤ T.2.1 + 20 → T'.2.2.1 ≤ T.2.2.1 + 500 → WL kt CB SB X 1653 (wlL i x m o) [] T' H') : WL kt CB SB X 792 (wlL i x m o) [] T H := by
  obtain ⟨⟨hW, g0, gx, gm, go, hK, hr⟩, hXI, hY1, hY2⟩ := hI
  refine wl_of hX hb cL_792 (rw_aload_n (pc' := 793) (v := .ref x) rfl rfl rfl ?_)
  refine wl_of hX hb cL_793 (rw_aload_n (pc' := 794) (v := .ref 0) rfl rfl rfl ?_)
  refine wl_of hX hb cL_794 (rw_iload (pc' := 796) (z := i) rfl rfl ?_)
  refine wl_of hX hb cL_796 (rw_iconst (pc' := 797) rfl ?_)
  refine wl_of hX hb cL_797 (rw_iadd (pc' := 798) rfl ?_)
  refine wl_of hX hb cL_798 (xa_I (so := 0) (pc' := 799) (a := 0) hW g0 (wsh_s _) (by omega) (wty_s _ _) (by omega) (by omega) rfl (fun b3314 b3315 => ?_))
  refine wl_of hX hb cL_799 (rw_aload_n (pc' := 800) (v := .ref 0) rfl rfl rfl ?_)
  refine wl_of hX hb cL_800 (rw_iload (pc' := 802) (z := i) rfl rfl ?_)
  refine wl_of hX hb cL_802 (rw_iconst (pc' := 803) rfl ?_)
  refine wl_of hX hb cL_803 (rw_iadd (pc' := 804) rfl ?_)
  refine wl_of hX hb cL_804 (xa_I (so := 0) (pc' := 805) (a := 0) hW g0 (wsh_s _) (by omega) (wty_s _ _) (by omega) (by omega) rfl (fun b3316 b3317 => ?_))
  obtain ⟨B, tc, tm, cu, dr, C8, e8, d8, n8, g8, ce8, e0, gtc, htc, em, gtm, htm, ecu, gcu, edr, gdr, hcu, hdr, hdec, hded, hsp, hC1, hC2, hcu8, hrb8, hcg8, hmn8, hE, hZ, hn8, hXA, hV8, hSG, ece8, gce8, hcen8, hhdr8, hknn8, -⟩ := hXI
  have hN3 := RB_n3 hrb8
  have hE13 : ∀ h : Nat, h < 24 → 0 ≤ e8 13 h ∧ e8 13 h ≤ 100 := fun k hk => by
    obtain ⟨s, h1, h2, h3⟩ := hcu8.1.2.2.1
    exact ⟨(h3 k hk).1, (h3 k hk).2.1⟩
  have hXW := hXA.1
  have hXN := hXA.2
  have hE0 : e8 0 3 = d8 0 3 ∧ e8 0 0 = d8 0 0 := by
    have h := hE 0 (by decide)
    exact ⟨congrFun h 3, congrFun h 0⟩
  have u3318 := CU_k hcu8
  have h3319 : CY T H cu (d8 0 3) g8 (H cu 17) := ⟨hcg8, rfl⟩
  have h3320 : RY T H m (d8 0 3) g8 (H m 32) := ⟨hmn8, rfl⟩
  obtain ⟨t9, ht9⟩ : ∃ t : Int, t = H x 9 := ⟨_, rfl⟩
  obtain ⟨y9, hy9⟩ : ∃ y : Int, y = H 0 ((i + 2).toNat) := ⟨_, rfl⟩
  obtain ⟨r3321, q3322, g3323⟩ := hW.ref gx (t' := 6) (n := 13) (j := 2) (p := 0) (q := 0) rfl (by decide) rfl
  refine wl_of hX hb cL_805 (xc_V (pc' := 808) (r := x) (as := [vI (H 0 ((i + 1).toNat)), vI (H 0 ((i + 2).toNat))]) (st := []) (lm_11_105) rfl rfl (Nat.le_of_ble_eq_true rfl) hW gx sh_1 (by decide) rfl (by decide) (u_101 (e := e8) (d := d8) (n := n8) hW gx ⟨by omega, by omega⟩ ⟨by omega, by omega⟩ ecu gcu q3322 g3323 ece8 gce8 (by assumption) (by assumption) (by omega) (by omega) (by omega) (by omega) hcu8 hcen8 hhdr8) (fun R3324 T3325 H3326 p3327 => ?_))
  obtain ⟨e3328, w3330, f3331, z3332, e3329, b3333, p3334⟩ := p3327
  subst e3328
  subst e3329
  rcases p3334 with ⟨a3335, a3336, a3337⟩ | ⟨a3338, a3339, a3340⟩
  · show WL _ _ _ _ 808 [(4, vI i), (3, .ref o), (2, .ref m), (1, .ref x), (0, .ref 0)] [vI z3332] _ H3326
    refine wl_of hX hb cL_808 (rw_aload_n (pc' := 809) (v := .ref m) rfl rfl rfl ?_)
    refine wl_of hX hb cL_809 (rw_aload_n (pc' := 810) (v := .ref 0) rfl rfl rfl ?_)
    refine wl_of hX hb cL_810 (rw_iload (pc' := 812) (z := i) rfl rfl ?_)
    refine wl_of hX hb cL_812 (rw_iconst (pc' := 813) rfl ?_)
    refine wl_of hX hb cL_813 (rw_iadd (pc' := 814) rfl ?_)
    have k3343 : H3326 0 ((i + 1).toNat) = H 0 ((i + 1).toNat) := (f3331 0 ((i + 1).toNat) _ g0 (wmem_s rfl))
    refine wl_of hX hb cL_814 (xa_I (so := 0) (pc' := 815) (a := 0) w3330 g0 (wsh_s _) (by omega) (wty_s _ _) (by omega) (by omega) rfl (fun b3341 b3342 => ?_))
    refine wl_of hX hb cL_815 (rw_aload_n (pc' := 816) (v := .ref 0) rfl rfl rfl ?_)
    refine wl_of hX hb cL_816 (rw_iload (pc' := 818) (z := i) rfl rfl ?_)
    refine wl_of hX hb cL_818 (rw_iconst (pc' := 819) rfl ?_)
    refine wl_of hX hb cL_819 (rw_iadd (pc' := 820) rfl ?_)
    have k3346 : H3326 0 ((i + 2).toNat) = H 0 ((i + 2).toNat) := (f3331 0 ((i + 2).toNat) _ g0 (wmem_s rfl))
    refine wl_of hX hb cL_820 (xa_I (so := 0) (pc' := 821) (a := 0) w3330 g0 (wsh_s _) (by omega) (wty_s _ _) (by omega) (by omega) rfl (fun b3344 b3345 => ?_))
    have k3347 : wKI H3326 m = wKI H m := (wKI_fr hW gm f3331 rfl)
    have k3348 : H3326 x 9 = H x 9 := (f3331 x 9 _ gx rfl)
    have k3349 : H3326 m 6 = H m 6 := (f3331 m 6 _ gm rfl)
    have k3350 : H3326 x 11 = H x 11 := (f3331 x 11 _ gx rfl)
    have k3351 : H3326 m 13 = H m 13 := (f3331 m 13 _ gm rfl)
    have k3352 : H3326 x 8 = H x 8 := (f3331 x 8 _ gx rfl)
    have k3353 : H3326 m 3 = H m 3 := (f3331 m 3 _ gm rfl)
    rw [show H3326 0 ((i + 2).toNat) = H 0 ((i + 2).toNat) by omega]
    rw [show H3326 0 ((i + 1).toNat) = H 0 ((i + 1).toNat) by omega]
    have h3354 : RB T H3326 m e8 d8 := (RB_fr hW gm f3331 rfl hrb8)
    have h3355 : KNN T H3326 m e8 d8 := (KNN_fr hW gm f3331 rfl hknn8)
    refine wl_of hX hb cL_821 (xc_V (pc' := 824) (r := m) (as := [vI (H 0 ((i + 1).toNat)), vI (H 0 ((i + 2).toNat))]) (st := [vI z3332]) (lm_11_108) rfl rfl (Nat.le_of_ble_eq_true rfl) w3330 gm sh_42 (by decide) rfl (by decide) (u_252 (e := e8) (d := d8) w3330 gm ⟨by omega, by omega⟩ ⟨by omega, by omega⟩ (by omega) (by assumption) (by assumption) (by assumption) (by assumption) h3354 h3355) (fun R3356 T3357 H3358 p3359 => ?_))
    obtain ⟨e3360, w3362, f3363, z3364, e3361, b3365, p3366⟩ := p3359
    subst e3360
    subst e3361
    rcases p3366 with ⟨a3367, a3368, a3369, a3370⟩ | ⟨a3371, a3372, a3373, a3374⟩
    · show WL _ _ _ _ 824 [(4, vI i), (3, .ref o), (2, .ref m), (1, .ref x), (0, .ref 0)] [vI z3364, vI z3332] _ H3358
      refine wl_of hX hb cL_824 (rw_icmp_eq (p1 := 1653) (p2 := 827) (by decide) rfl ⟨b3333.1, b3333.2⟩ ⟨b3365.1, b3365.2⟩ (fun c3375 => ?_) (fun c3375 => ?_))
      · have k3376 : H3358 x 9 = H3326 x 9 := (f3363 x 9 _ gx rfl)
        have k3377 : H3358 m 6 = H3326 m 6 := (f3363 m 6 _ gm rfl)
        have k3378 : H3358 x 11 = H3326 x 11 := (f3363 x 11 _ gx rfl)
        have k3379 : H3358 m 13 = H3326 m 13 := (f3363 m 13 _ gm rfl)
        have k3380 : H3358 x 8 = H3326 x 8 := (f3363 x 8 _ gx rfl)
        have k3381 : H3358 m 3 = H3326 m 3 := (f3363 m 3 _ gm rfl)
        have k3382 : H3358 x 0 = H x 0 := ((f3363 x 0 _ gx rfl).trans (f3331 x 0 _ gx rfl))
        have q3383 : H3358 x 0 = (tc : Int) := k3382.trans e0
        have k3384 : H3358 m 5 = H m 5 := ((f3363 m 5 _ gm rfl).trans (f3331 m 5 _ gm rfl))
        have q3385 : H3358 m 5 = (tm : Int) := k3384.trans em
        have k3386 : H3358 x 6 = H x 6 := ((f3363 x 6 _ gx rfl).trans (f3331 x 6 _ gx rfl))
        have q3387 : H3358 x 6 = (cu : Int) := k3386.trans ecu
        have k3388 : H3358 x 7 = H x 7 := ((f3363 x 7 _ gx rfl).trans (f3331 x 7 _ gx rfl))
        have q3389 : H3358 x 7 = (dr : Int) := k3388.trans edr
        have h3390 : CEN T H3358 ce8 e8 d8 := (CEN_fr w3330 gce8 f3363 rfl a3337)
        have h3391 : TP T H3358 tc B := (TP_fr w3330 gtc f3363 rfl (TP_fr hW gtc f3331 rfl htc))
        have h3392 : TM T H3358 tm B := (TM_fr w3330 gtm f3363 rfl (TM_fr hW gtm f3331 rfl htm))
        have h3393 : DD T H3358 cu  := (DD_fr w3330 gcu f3363 rfl (DD_fr hW gcu f3331 rfl hcu))
        have h3394 : DD T H3358 dr  := (DD_fr w3330 gdr f3363 rfl (DD_fr hW gdr f3331 rfl hdr))
        have h3395 : DE T H3358 cu  := (DE_fr w3330 gcu f3363 rfl (DE_fr hW gcu f3331 rfl hdec))
        have h3396 : DE T H3358 dr  := (DE_fr w3330 gdr f3363 rfl (DE_fr hW gdr f3331 rfl hded))
        have h3397 : SP T H3358 x C8 := (SP_fr w3330 gx f3363 rfl (SP_fr hW gx f3331 rfl hsp))
        have h3398 : CU T H3358 cu e8 d8 n8 := (CU_fr w3330 gcu f3363 rfl (CU_fr hW gcu f3331 rfl hcu8))
        have h3399 : CY T H3358 cu (d8 0 3) g8 (H cu 17) := (CY_fr w3330 gcu f3363 rfl (CY_fr hW gcu f3331 rfl h3319))
        have k3400 : H3358 x 3 = H x 3 := ((f3363 x 3 _ gx rfl).trans (f3331 x 3 _ gx rfl))
        have q3401 : H3358 x 3 = (ce8 : Int) := k3400.trans ece8
        have h3402 : HDR T H3358 ce8  := (HDR_fr w3330 gce8 f3363 rfl (HDR_fr hW gce8 f3331 rfl hhdr8))
        have h3403 : RY T H3358 m (d8 0 3) g8 (H m 32) := (RY_fr w3330 gm f3363 rfl (RY_fr hW gm f3331 rfl h3320))
        have h3404 : RB T H3358 m e8 d8 := (RB_fr w3330 gm f3363 rfl h3354)
        exact WL.loc hX (by simp) (next T H3358 ⟨⟨w3362, g0, gx, gm, go, by omega, by omega⟩, ⟨_, tc, tm, cu, dr, _, _, _, _, _, ce8, q3383, gtc, h3391, q3385, gtm, h3392, q3387, gcu, q3389, gdr, h3393, h3394, h3395, h3396, h3397, hC1, hC2, h3398, h3404, (h3399).1, (h3403).1, hE, hZ, (by omega), (by assumption), (by omega), (by first | assumption | exact SG_0), q3401, gce8, h3390, h3402, a3370, gm⟩, by omega, by omega⟩ (by omega) (by omega))
      · exfalso
        omega
    · show WL _ _ _ _ 824 [(4, vI i), (3, .ref o), (2, .ref m), (1, .ref x), (0, .ref 0)] [vI z3364, vI z3332] _ H3358
      refine wl_of hX hb cL_824 (rw_icmp_eq (p1 := 1653) (p2 := 827) (by decide) rfl ⟨b3333.1, b3333.2⟩ ⟨b3365.1, b3365.2⟩ (fun c3405 => ?_) (fun c3405 => ?_))
      · have k3406 : H3358 x 9 = H3326 x 9 := (f3363 x 9 _ gx rfl)
        have k3407 : H3358 m 6 = H3326 m 6 := (f3363 m 6 _ gm rfl)
        have k3408 : H3358 x 11 = H3326 x 11 := (f3363 x 11 _ gx rfl)
        have k3409 : H3358 m 13 = H3326 m 13 := (f3363 m 13 _ gm rfl)
        have k3410 : H3358 x 8 = H3326 x 8 := (f3363 x 8 _ gx rfl)
        have k3411 : H3358 m 3 = H3326 m 3 := (f3363 m 3 _ gm rfl)
        have k3412 : H3358 x 0 = H x 0 := ((f3363 x 0 _ gx rfl).trans (f3331 x 0 _ gx rfl))
        have q3413 : H3358 x 0 = (tc : Int) := k3412.trans e0
        have k3414 : H3358 m 5 = H m 5 := ((f3363 m 5 _ gm rfl).trans (f3331 m 5 _ gm rfl))
        have q3415 : H3358 m 5 = (tm : Int) := k3414.trans em
        have k3416 : H3358 x 6 = H x 6 := ((f3363 x 6 _ gx rfl).trans (f3331 x 6 _ gx rfl))
        have q3417 : H3358 x 6 = (cu : Int) := k3416.trans ecu
        have k3418 : H3358 x 7 = H x 7 := ((f3363 x 7 _ gx rfl).trans (f3331 x 7 _ gx rfl))
        have q3419 : H3358 x 7 = (dr : Int) := k3418.trans edr
        have h3420 : CEN T H3358 ce8 e8 d8 := (CEN_fr w3330 gce8 f3363 rfl a3337)
        have h3421 : TP T H3358 tc B := (TP_fr w3330 gtc f3363 rfl (TP_fr hW gtc f3331 rfl htc))
        have h3422 : TM T H3358 tm B := (TM_fr w3330 gtm f3363 rfl (TM_fr hW gtm f3331 rfl htm))
        have h3423 : DD T H3358 cu  := (DD_fr w3330 gcu f3363 rfl (DD_fr hW gcu f3331 rfl hcu))
        have h3424 : DD T H3358 dr  := (DD_fr w3330 gdr f3363 rfl (DD_fr hW gdr f3331 rfl hdr))
        have h3425 : DE T H3358 cu  := (DE_fr w3330 gcu f3363 rfl (DE_fr hW gcu f3331 rfl hdec))
        have h3426 : DE T H3358 dr  := (DE_fr w3330 gdr f3363 rfl (DE_fr hW gdr f3331 rfl hded))
        have h3427 : SP T H3358 x C8 := (SP_fr w3330 gx f3363 rfl (SP_fr hW gx f3331 rfl hsp))
        have h3428 : CU T H3358 cu e8 d8 n8 := (CU_fr w3330 gcu f3363 rfl (CU_fr hW gcu f3331 rfl hcu8))
        have h3429 : CY T H3358 cu (d8 0 3) g8 (H cu 17) := (CY_fr w3330 gcu f3363 rfl (CY_fr hW gcu f3331 rfl h3319))
        have k3430 : H3358 x 3 = H x 3 := ((f3363 x 3 _ gx rfl).trans (f3331 x 3 _ gx rfl))
        have q3431 : H3358 x 3 = (ce8 : Int) := k3430.trans ece8
        have h3432 : HDR T H3358 ce8  := (HDR_fr w3330 gce8 f3363 rfl (HDR_fr hW gce8 f3331 rfl hhdr8))
        have h3433 : RY T H3358 m (d8 0 3) g8 (H m 32) := (RY_fr w3330 gm f3363 rfl (RY_fr hW gm f3331 rfl h3320))
        have h3434 : RB T H3358 m e8 d8 := (RB_fr w3330 gm f3363 rfl h3354)
        exact WL.loc hX (by simp) (next T H3358 ⟨⟨w3362, g0, gx, gm, go, by omega, by omega⟩, ⟨_, tc, tm, cu, dr, _, _, _, _, _, ce8, q3413, gtc, h3421, q3415, gtm, h3422, q3417, gcu, q3419, gdr, h3423, h3424, h3425, h3426, h3427, hC1, hC2, h3428, h3434, (h3429).1, (h3433).1, hE, hZ, (by omega), (by assumption), (by omega), (by first | assumption | exact SG_0), q3431, gce8, h3420, h3432, a3374, gm⟩, by omega, by omega⟩ (by omega) (by omega))
      · refine wl_of hX hb cL_827 (rw_iconst (pc' := 828) rfl ?_)
        exfalso
        omega
  · show WL _ _ _ _ 808 [(4, vI i), (3, .ref o), (2, .ref m), (1, .ref x), (0, .ref 0)] [vI z3332] _ H3326
    refine wl_of hX hb cL_808 (rw_aload_n (pc' := 809) (v := .ref m) rfl rfl rfl ?_)
    refine wl_of hX hb cL_809 (rw_aload_n (pc' := 810) (v := .ref 0) rfl rfl rfl ?_)
    refine wl_of hX hb cL_810 (rw_iload (pc' := 812) (z := i) rfl rfl ?_)
    refine wl_of hX hb cL_812 (rw_iconst (pc' := 813) rfl ?_)
    refine wl_of hX hb cL_813 (rw_iadd (pc' := 814) rfl ?_)
    have k3437 : H3326 0 ((i + 1).toNat) = H 0 ((i + 1).toNat) := (f3331 0 ((i + 1).toNat) _ g0 (wmem_s rfl))
    refine wl_of hX hb cL_814 (xa_I (so := 0) (pc' := 815) (a := 0) w3330 g0 (wsh_s _) (by omega) (wty_s _ _) (by omega) (by omega) rfl (fun b3435 b3436 => ?_))
    refine wl_of hX hb cL_815 (rw_aload_n (pc' := 816) (v := .ref 0) rfl rfl rfl ?_)
    refine wl_of hX hb cL_816 (rw_iload (pc' := 818) (z := i) rfl rfl ?_)
    refine wl_of hX hb cL_818 (rw_iconst (pc' := 819) rfl ?_)
    refine wl_of hX hb cL_819 (rw_iadd (pc' := 820) rfl ?_)
    have k3440 : H3326 0 ((i + 2).toNat) = H 0 ((i + 2).toNat) := (f3331 0 ((i + 2).toNat) _ g0 (wmem_s rfl))
    refine wl_of hX hb cL_820 (xa_I (so := 0) (pc' := 821) (a := 0) w3330 g0 (wsh_s _) (by omega) (wty_s _ _) (by omega) (by omega) rfl (fun b3438 b3439 => ?_))
    have k3441 : wKI H3326 m = wKI H m := (wKI_fr hW gm f3331 rfl)
    have k3442 : H3326 x 9 = H x 9 := (f3331 x 9 _ gx rfl)
    have k3443 : H3326 m 6 = H m 6 := (f3331 m 6 _ gm rfl)
    have k3444 : H3326 x 11 = H x 11 := (f3331 x 11 _ gx rfl)
    have k3445 : H3326 m 13 = H m 13 := (f3331 m 13 _ gm rfl)
    have k3446 : H3326 x 8 = H x 8 := (f3331 x 8 _ gx rfl)
    have k3447 : H3326 m 3 = H m 3 := (f3331 m 3 _ gm rfl)
    rw [show H3326 0 ((i + 2).toNat) = H 0 ((i + 2).toNat) by omega]
    rw [show H3326 0 ((i + 1).toNat) = H 0 ((i + 1).toNat) by omega]
    have h3448 : RB T H3326 m e8 d8 := (RB_fr hW gm f3331 rfl hrb8)
    have h3449 : KNN T H3326 m e8 d8 := (KNN_fr hW gm f3331 rfl hknn8)
    refine wl_of hX hb cL_821 (xc_V (pc' := 824) (r := m) (as := [vI (H 0 ((i + 1).toNat)), vI (H 0 ((i + 2).toNat))]) (st := [vI z3332]) (lm_11_108) rfl rfl (Nat.le_of_ble_eq_true rfl) w3330 gm sh_42 (by decide) rfl (by decide) (u_252 (e := e8) (d := d8) w3330 gm ⟨by omega, by omega⟩ ⟨by omega, by omega⟩ (by omega) (by assumption) (by assumption) (by assumption) (by assumption) h3448 h3449) (fun R3450 T3451 H3452 p3453 => ?_))
    obtain ⟨e3454, w3456, f3457, z3458, e3455, b3459, p3460⟩ := p3453
    subst e3454
    subst e3455
    rcases p3460 with ⟨a3461, a3462, a3463, a3464⟩ | ⟨a3465, a3466, a3467, a3468⟩
    · show WL _ _ _ _ 824 [(4, vI i), (3, .ref o), (2, .ref m), (1, .ref x), (0, .ref 0)] [vI z3458, vI z3332] _ H3452
      refine wl_of hX hb cL_824 (rw_icmp_eq (p1 := 1653) (p2 := 827) (by decide) rfl ⟨b3333.1, b3333.2⟩ ⟨b3459.1, b3459.2⟩ (fun c3469 => ?_) (fun c3469 => ?_))
      · have k3470 : H3452 x 9 = H3326 x 9 := (f3457 x 9 _ gx rfl)
        have k3471 : H3452 m 6 = H3326 m 6 := (f3457 m 6 _ gm rfl)
        have k3472 : H3452 x 11 = H3326 x 11 := (f3457 x 11 _ gx rfl)
        have k3473 : H3452 m 13 = H3326 m 13 := (f3457 m 13 _ gm rfl)
        have k3474 : H3452 x 8 = H3326 x 8 := (f3457 x 8 _ gx rfl)
        have k3475 : H3452 m 3 = H3326 m 3 := (f3457 m 3 _ gm rfl)
        have k3476 : H3452 x 0 = H x 0 := ((f3457 x 0 _ gx rfl).trans (f3331 x 0 _ gx rfl))
        have q3477 : H3452 x 0 = (tc : Int) := k3476.trans e0
        have k3478 : H3452 m 5 = H m 5 := ((f3457 m 5 _ gm rfl).trans (f3331 m 5 _ gm rfl))
        have q3479 : H3452 m 5 = (tm : Int) := k3478.trans em
        have k3480 : H3452 x 6 = H x 6 := ((f3457 x 6 _ gx rfl).trans (f3331 x 6 _ gx rfl))
        have q3481 : H3452 x 6 = (cu : Int) := k3480.trans ecu
        have k3482 : H3452 x 7 = H x 7 := ((f3457 x 7 _ gx rfl).trans (f3331 x 7 _ gx rfl))
        have q3483 : H3452 x 7 = (dr : Int) := k3482.trans edr
        have h3484 : CEN T H3452 ce8 e8 d8 := (CEN_fr w3330 gce8 f3457 rfl a3340)
        have h3485 : TP T H3452 tc B := (TP_fr w3330 gtc f3457 rfl (TP_fr hW gtc f3331 rfl htc))
        have h3486 : TM T H3452 tm B := (TM_fr w3330 gtm f3457 rfl (TM_fr hW gtm f3331 rfl htm))
        have h3487 : DD T H3452 cu  := (DD_fr w3330 gcu f3457 rfl (DD_fr hW gcu f3331 rfl hcu))
        have h3488 : DD T H3452 dr  := (DD_fr w3330 gdr f3457 rfl (DD_fr hW gdr f3331 rfl hdr))
        have h3489 : DE T H3452 cu  := (DE_fr w3330 gcu f3457 rfl (DE_fr hW gcu f3331 rfl hdec))
        have h3490 : DE T H3452 dr  := (DE_fr w3330 gdr f3457 rfl (DE_fr hW gdr f3331 rfl hded))
        have h3491 : SP T H3452 x C8 := (SP_fr w3330 gx f3457 rfl (SP_fr hW gx f3331 rfl hsp))
        have h3492 : CU T H3452 cu e8 d8 n8 := (CU_fr w3330 gcu f3457 rfl (CU_fr hW gcu f3331 rfl hcu8))
        have h3493 : CY T H3452 cu (d8 0 3) g8 (H cu 17) := (CY_fr w3330 gcu f3457 rfl (CY_fr hW gcu f3331 rfl h3319))
        have k3494 : H3452 x 3 = H x 3 := ((f3457 x 3 _ gx rfl).trans (f3331 x 3 _ gx rfl))
        have q3495 : H3452 x 3 = (ce8 : Int) := k3494.trans ece8
        have h3496 : HDR T H3452 ce8  := (HDR_fr w3330 gce8 f3457 rfl (HDR_fr hW gce8 f3331 rfl hhdr8))
        have h3497 : RY T H3452 m (d8 0 3) g8 (H m 32) := (RY_fr w3330 gm f3457 rfl (RY_fr hW gm f3331 rfl h3320))
        have h3498 : RB T H3452 m e8 d8 := (RB_fr w3330 gm f3457 rfl h3448)
        exact WL.loc hX (by simp) (next T H3452 ⟨⟨w3456, g0, gx, gm, go, by omega, by omega⟩, ⟨_, tc, tm, cu, dr, _, _, _, _, _, ce8, q3477, gtc, h3485, q3479, gtm, h3486, q3481, gcu, q3483, gdr, h3487, h3488, h3489, h3490, h3491, hC1, hC2, h3492, h3498, (h3493).1, (h3497).1, hE, hZ, (by omega), (by assumption), (by omega), (by first | assumption | exact SG_0), q3495, gce8, h3484, h3496, a3464, gm⟩, by omega, by omega⟩ (by omega) (by omega))
      · refine wl_of hX hb cL_827 (rw_iconst (pc' := 828) rfl ?_)
        exfalso
        omega
    · show WL _ _ _ _ 824 [(4, vI i), (3, .ref o), (2, .ref m), (1, .ref x), (0, .ref 0)] [vI z3458, vI z3332] _ H3452
      refine wl_of hX hb cL_824 (rw_icmp_eq (p1 := 1653) (p2 := 827) (by decide) rfl ⟨b3333.1, b3333.2⟩ ⟨b3459.1, b3459.2⟩ (fun c3499 => ?_) (fun c3499 => ?_))
      · have k3500 : H3452 x 9 = H3326 x 9 := (f3457 x 9 _ gx rfl)
        have k3501 : H3452 m 6 = H3326 m 6 := (f3457 m 6 _ gm rfl)
        have k3502 : H3452 x 11 = H3326 x 11 := (f3457 x 11 _ gx rfl)
        have k3503 : H3452 m 13 = H3326 m 13 := (f3457 m 13 _ gm rfl)
        have k3504 : H3452 x 8 = H3326 x 8 := (f3457 x 8 _ gx rfl)
        have k3505 : H3452 m 3 = H3326 m 3 := (f3457 m 3 _ gm rfl)
        have k3506 : H3452 x 0 = H x 0 := ((f3457 x 0 _ gx rfl).trans (f3331 x 0 _ gx rfl))
        have q3507 : H3452 x 0 = (tc : Int) := k3506.trans e0
        have k3508 : H3452 m 5 = H m 5 := ((f3457 m 5 _ gm rfl).trans (f3331 m 5 _ gm rfl))
        have q3509 : H3452 m 5 = (tm : Int) := k3508.trans em
        have k3510 : H3452 x 6 = H x 6 := ((f3457 x 6 _ gx rfl).trans (f3331 x 6 _ gx rfl))
        have q3511 : H3452 x 6 = (cu : Int) := k3510.trans ecu
        have k3512 : H3452 x 7 = H x 7 := ((f3457 x 7 _ gx rfl).trans (f3331 x 7 _ gx rfl))
        have q3513 : H3452 x 7 = (dr : Int) := k3512.trans edr
        have h3514 : CEN T H3452 ce8 e8 d8 := (CEN_fr w3330 gce8 f3457 rfl a3340)
        have h3515 : TP T H3452 tc B := (TP_fr w3330 gtc f3457 rfl (TP_fr hW gtc f3331 rfl htc))
        have h3516 : TM T H3452 tm B := (TM_fr w3330 gtm f3457 rfl (TM_fr hW gtm f3331 rfl htm))
        have h3517 : DD T H3452 cu  := (DD_fr w3330 gcu f3457 rfl (DD_fr hW gcu f3331 rfl hcu))
        have h3518 : DD T H3452 dr  := (DD_fr w3330 gdr f3457 rfl (DD_fr hW gdr f3331 rfl hdr))
        have h3519 : DE T H3452 cu  := (DE_fr w3330 gcu f3457 rfl (DE_fr hW gcu f3331 rfl hdec))
        have h3520 : DE T H3452 dr  := (DE_fr w3330 gdr f3457 rfl (DE_fr hW gdr f3331 rfl hded))
        have h3521 : SP T H3452 x C8 := (SP_fr w3330 gx f3457 rfl (SP_fr hW gx f3331 rfl hsp))
        have h3522 : CU T H3452 cu e8 d8 n8 := (CU_fr w3330 gcu f3457 rfl (CU_fr hW gcu f3331 rfl hcu8))
        have h3523 : CY T H3452 cu (d8 0 3) g8 (H cu 17) := (CY_fr w3330 gcu f3457 rfl (CY_fr hW gcu f3331 rfl h3319))
        have k3524 : H3452 x 3 = H x 3 := ((f3457 x 3 _ gx rfl).trans (f3331 x 3 _ gx rfl))
        have q3525 : H3452 x 3 = (ce8 : Int) := k3524.trans ece8
        have h3526 : HDR T H3452 ce8  := (HDR_fr w3330 gce8 f3457 rfl (HDR_fr hW gce8 f3331 rfl hhdr8))
        have h3527 : RY T H3452 m (d8 0 3) g8 (H m 32) := (RY_fr w3330 gm f3457 rfl (RY_fr hW gm f3331 rfl h3320))
        have h3528 : RB T H3452 m e8 d8 := (RB_fr w3330 gm f3457 rfl h3448)
        exact WL.loc hX (by simp) (next T H3452 ⟨⟨w3456, g0, gx, gm, go, by omega, by omega⟩, ⟨_, tc, tm, cu, dr, _, _, _, _, _, ce8, q3507, gtc, h3515, q3509, gtm, h3516, q3511, gcu, q3513, gdr, h3517, h3518, h3519, h3520, h3521, hC1, hC2, h3522, h3528, (h3523).1, (h3527).1, hE, hZ, (by omega), (by assumption), (by omega), (by first | assumption | exact SG_0), q3525, gce8, h3514, h3526, a3468, gm⟩, by omega, by omega⟩ (by omega) (by omega))
      · refine wl_of hX hb cL_827 (rw_iconst (pc' := 828) rfl ?_)
        exfalso
        omega
set_option maxHeartbeats 4000000 in
theorem wl_c21 {kt : Nat → Option mc_E} {CB SB : Nat} {X : mc_S → Prop} {T : wq_T} {H : wq_H} {Len x m o : Nat} {i : Int} (hX : wlX kt CB SB X) (hb : T.2.1 ≤ CB ∧ T.2.2.1 ≤ SB) (hI : wlJ Len x m o T H) (hL : Len ≤ 3072) (hi : 0 ≤ i ∧ i + 6 ≤ Len) (hb2 : T.2.1 + 20 ≤ CB ∧ T.2.2.1 + 500 ≤ SB)  (next : ∀ T' H', wlJ Len x m o T' H' → T'.2.1 ≤ T.2.1 + 20 → T'.2.2.1 ≤ T.2.2.1 + 500 → WL kt CB SB X 1653 (wlL i x m o) [] T' H') : WL kt CB SB X 829 (wlL i x m o) [] T H := by
  obtain ⟨⟨hW, g0, gx, gm, go, hK, hr⟩, hXI, hY1, hY2⟩ := hI
  refine wl_of hX hb cL_829 (rw_aload_n (pc' := 830) (v := .ref x) rfl rfl rfl ?_)
  refine wl_of hX hb cL_830 (rw_aload_n (pc' := 831) (v := .ref 0) rfl rfl rfl ?_)
  refine wl_of hX hb cL_831 (rw_iload (pc' := 833) (z := i) rfl rfl ?_)
  refine wl_of hX hb cL_833 (rw_iconst (pc' := 834) rfl ?_)
  refine wl_of hX hb cL_834 (rw_iadd (pc' := 835) rfl ?_)
  refine wl_of hX hb cL_835 (xa_I (so := 0) (pc' := 836) (a := 0) hW g0 (wsh_s _) (by omega) (wty_s _ _) (by omega) (by omega) rfl (fun b3529 b3530 => ?_))
  refine wl_of hX hb cL_836 (rw_aload_n (pc' := 837) (v := .ref 0) rfl rfl rfl ?_)
  refine wl_of hX hb cL_837 (rw_iload (pc' := 839) (z := i) rfl rfl ?_)
  refine wl_of hX hb cL_839 (rw_iconst (pc' := 840) rfl ?_)
  refine wl_of hX hb cL_840 (rw_iadd (pc' := 841) rfl ?_)
  refine wl_of hX hb cL_841 (xa_I (so := 0) (pc' := 842) (a := 0) hW g0 (wsh_s _) (by omega) (wty_s _ _) (by omega) (by omega) rfl (fun b3531 b3532 => ?_))
  refine wl_of hX hb cL_842 (rw_if_eq (p1 := 849) (p2 := 845) (by decide) rfl ⟨by omega, by omega⟩ (fun c3533 => ?_) (fun c3533 => ?_))
  · refine wl_of hX hb cL_849 (rw_iconst (pc' := 850) rfl ?_)
    obtain ⟨B, tc, tm, cu, dr, C8, e8, d8, n8, g8, ce8, e0, gtc, htc, em, gtm, htm, ecu, gcu, edr, gdr, hcu, hdr, hdec, hded, hsp, hC1, hC2, hcu8, hrb8, hcg8, hmn8, hE, hZ, hn8, hXA, hV8, hSG, ece8, gce8, hcen8, hhdr8, hknn8, -⟩ := hXI
    have hN3 := RB_n3 hrb8
    have hE13 : ∀ h : Nat, h < 24 → 0 ≤ e8 13 h ∧ e8 13 h ≤ 100 := fun k hk => by
      obtain ⟨s, h1, h2, h3⟩ := hcu8.1.2.2.1
      exact ⟨(h3 k hk).1, (h3 k hk).2.1⟩
    have hXW := hXA.1
    have hXN := hXA.2
    have hE0 : e8 0 3 = d8 0 3 ∧ e8 0 0 = d8 0 0 := by
      have h := hE 0 (by decide)
      exact ⟨congrFun h 3, congrFun h 0⟩
    have u3534 := CU_k hcu8
    have h3535 : CY T H cu (d8 0 3) g8 (H cu 17) := ⟨hcg8, rfl⟩
    have h3536 : RY T H m (d8 0 3) g8 (H m 32) := ⟨hmn8, rfl⟩
    obtain ⟨t9, ht9⟩ : ∃ t : Int, t = H x 9 := ⟨_, rfl⟩
    obtain ⟨y9, hy9⟩ : ∃ y : Int, y = 0 := ⟨_, rfl⟩
    obtain ⟨r3537, q3538, g3539⟩ := hW.ref gx (t' := 6) (n := 13) (j := 2) (p := 0) (q := 0) rfl (by decide) rfl
    refine wl_of hX hb cL_850 (xc_V (pc' := 853) (r := x) (as := [vI (H 0 ((i + 1).toNat)), vI 0]) (st := []) (lm_11_109) rfl rfl (Nat.le_of_ble_eq_true rfl) hW gx sh_1 (by decide) rfl (by decide) (u_104 (e := e8) (d := d8) (n := n8) hW gx ⟨by omega, by omega⟩ ⟨by decide, by decide⟩ ecu gcu q3538 g3539 ece8 gce8 (by assumption) (by assumption) (by omega) (by omega) (by omega) (by omega) hcu8 hcen8 hhdr8) (fun R3540 T3541 H3542 p3543 => ?_))
    obtain ⟨e3544, w3546, f3547, z3548, e3545, b3549, p3550⟩ := p3543
    subst e3544
    subst e3545
    show WL _ _ _ _ 853 [(4, vI i), (3, .ref o), (2, .ref m), (1, .ref x), (0, .ref 0)] [vI z3548] _ H3542
    refine wl_of hX hb cL_853 (rw_pop (pc' := 854) rfl rfl ?_)
    refine wl_of hX hb cL_854 (rw_aload_n (pc' := 855) (v := .ref m) rfl rfl rfl ?_)
    refine wl_of hX hb cL_855 (rw_aload_n (pc' := 856) (v := .ref 0) rfl rfl rfl ?_)
    refine wl_of hX hb cL_856 (rw_iload (pc' := 858) (z := i) rfl rfl ?_)
    refine wl_of hX hb cL_858 (rw_iconst (pc' := 859) rfl ?_)
    refine wl_of hX hb cL_859 (rw_iadd (pc' := 860) rfl ?_)
    have k3554 : H3542 0 ((i + 1).toNat) = H 0 ((i + 1).toNat) := (f3547 0 ((i + 1).toNat) _ g0 (wmem_s rfl))
    refine wl_of hX hb cL_860 (xa_I (so := 0) (pc' := 861) (a := 0) w3546 g0 (wsh_s _) (by omega) (wty_s _ _) (by omega) (by omega) rfl (fun b3552 b3553 => ?_))
    refine wl_of hX hb cL_861 (rw_aload_n (pc' := 862) (v := .ref 0) rfl rfl rfl ?_)
    refine wl_of hX hb cL_862 (rw_iload (pc' := 864) (z := i) rfl rfl ?_)
    refine wl_of hX hb cL_864 (rw_iconst (pc' := 865) rfl ?_)
    refine wl_of hX hb cL_865 (rw_iadd (pc' := 866) rfl ?_)
    have k3557 : H3542 0 ((i + 2).toNat) = H 0 ((i + 2).toNat) := (f3547 0 ((i + 2).toNat) _ g0 (wmem_s rfl))
    refine wl_of hX hb cL_866 (xa_I (so := 0) (pc' := 867) (a := 0) w3546 g0 (wsh_s _) (by omega) (wty_s _ _) (by omega) (by omega) rfl (fun b3555 b3556 => ?_))
    refine wl_of hX hb cL_867 (rw_if_eq (p1 := 874) (p2 := 870) (by decide) rfl ⟨by omega, by omega⟩ (fun c3558 => ?_) (fun c3558 => ?_))
    · refine wl_of hX hb cL_874 (rw_iconst (pc' := 875) rfl ?_)
      have k3559 : wKI H3542 m = wKI H m := (wKI_fr hW gm f3547 rfl)
      have k3560 : H3542 x 9 = H x 9 := (f3547 x 9 _ gx rfl)
      have k3561 : H3542 m 6 = H m 6 := (f3547 m 6 _ gm rfl)
      have k3562 : H3542 x 11 = H x 11 := (f3547 x 11 _ gx rfl)
      have k3563 : H3542 m 13 = H m 13 := (f3547 m 13 _ gm rfl)
      have k3564 : H3542 x 8 = H x 8 := (f3547 x 8 _ gx rfl)
      have k3565 : H3542 m 3 = H m 3 := (f3547 m 3 _ gm rfl)
      rw [show H3542 0 ((i + 1).toNat) = H 0 ((i + 1).toNat) by omega]
      have h3566 : RB T H3542 m e8 d8 := (RB_fr hW gm f3547 rfl hrb8)
      have h3567 : KNN T H3542 m e8 d8 := (KNN_fr hW gm f3547 rfl hknn8)
      refine wl_of hX hb cL_875 (xc_V (pc' := 878) (r := m) (as := [vI (H 0 ((i + 1).toNat)), vI 0]) (st := []) (lm_11_113) rfl rfl (Nat.le_of_ble_eq_true rfl) w3546 gm sh_42 (by decide) rfl (by decide) (u_254 (e := e8) (d := d8) w3546 gm ⟨by omega, by omega⟩ ⟨by decide, by decide⟩ (by omega) (by assumption) (by assumption) (by assumption) (by assumption) h3566 h3567) (fun R3568 T3569 H3570 p3571 => ?_))
      obtain ⟨e3572, w3574, f3575, z3576, e3573, b3577, p3578⟩ := p3571
      subst e3572
      subst e3573
      obtain ⟨a3579, a3580⟩ := p3578
      show WL _ _ _ _ 878 [(4, vI i), (3, .ref o), (2, .ref m), (1, .ref x), (0, .ref 0)] [vI z3576] _ H3570
      refine wl_of hX hb cL_878 (rw_pop (pc' := 879) rfl rfl ?_)
      refine wl_of hX hb cL_879 (rw_goto (p1 := 1653) (by decide) ?_)
      have k3581 : H3570 x 9 = H3542 x 9 := (f3575 x 9 _ gx rfl)
      have k3582 : H3570 m 6 = H3542 m 6 := (f3575 m 6 _ gm rfl)
      have k3583 : H3570 x 11 = H3542 x 11 := (f3575 x 11 _ gx rfl)
      have k3584 : H3570 m 13 = H3542 m 13 := (f3575 m 13 _ gm rfl)
      have k3585 : H3570 x 8 = H3542 x 8 := (f3575 x 8 _ gx rfl)
      have k3586 : H3570 m 3 = H3542 m 3 := (f3575 m 3 _ gm rfl)
      have k3587 : H3570 x 0 = H x 0 := ((f3575 x 0 _ gx rfl).trans (f3547 x 0 _ gx rfl))
      have q3588 : H3570 x 0 = (tc : Int) := k3587.trans e0
      have k3589 : H3570 m 5 = H m 5 := ((f3575 m 5 _ gm rfl).trans (f3547 m 5 _ gm rfl))
      have q3590 : H3570 m 5 = (tm : Int) := k3589.trans em
      have k3591 : H3570 x 6 = H x 6 := ((f3575 x 6 _ gx rfl).trans (f3547 x 6 _ gx rfl))
      have q3592 : H3570 x 6 = (cu : Int) := k3591.trans ecu
      have k3593 : H3570 x 7 = H x 7 := ((f3575 x 7 _ gx rfl).trans (f3547 x 7 _ gx rfl))
      have q3594 : H3570 x 7 = (dr : Int) := k3593.trans edr
      have h3595 : CEN T H3570 ce8 e8 d8 := (CEN_fr w3546 gce8 f3575 rfl p3550)
      have h3596 : TP T H3570 tc B := (TP_fr w3546 gtc f3575 rfl (TP_fr hW gtc f3547 rfl htc))
      have h3597 : TM T H3570 tm B := (TM_fr w3546 gtm f3575 rfl (TM_fr hW gtm f3547 rfl htm))
      have h3598 : DD T H3570 cu  := (DD_fr w3546 gcu f3575 rfl (DD_fr hW gcu f3547 rfl hcu))
      have h3599 : DD T H3570 dr  := (DD_fr w3546 gdr f3575 rfl (DD_fr hW gdr f3547 rfl hdr))
      have h3600 : DE T H3570 cu  := (DE_fr w3546 gcu f3575 rfl (DE_fr hW gcu f3547 rfl hdec))
      have h3601 : DE T H3570 dr  := (DE_fr w3546 gdr f3575 rfl (DE_fr hW gdr f3547 rfl hded))
      have h3602 : SP T H3570 x C8 := (SP_fr w3546 gx f3575 rfl (SP_fr hW gx f3547 rfl hsp))
      have h3603 : CU T H3570 cu e8 d8 n8 := (CU_fr w3546 gcu f3575 rfl (CU_fr hW gcu f3547 rfl hcu8))
      have h3604 : CY T H3570 cu (d8 0 3) g8 (H cu 17) := (CY_fr w3546 gcu f3575 rfl (CY_fr hW gcu f3547 rfl h3535))
      have k3605 : H3570 x 3 = H x 3 := ((f3575 x 3 _ gx rfl).trans (f3547 x 3 _ gx rfl))
      have q3606 : H3570 x 3 = (ce8 : Int) := k3605.trans ece8
      have h3607 : HDR T H3570 ce8  := (HDR_fr w3546 gce8 f3575 rfl (HDR_fr hW gce8 f3547 rfl hhdr8))
      have h3608 : RY T H3570 m (d8 0 3) g8 (H m 32) := (RY_fr w3546 gm f3575 rfl (RY_fr hW gm f3547 rfl h3536))
      have h3609 : RB T H3570 m e8 d8 := (RB_fr w3546 gm f3575 rfl h3566)
      exact WL.loc hX (by simp) (next T H3570 ⟨⟨w3574, g0, gx, gm, go, by omega, by omega⟩, ⟨_, tc, tm, cu, dr, _, _, _, _, _, ce8, q3588, gtc, h3596, q3590, gtm, h3597, q3592, gcu, q3594, gdr, h3598, h3599, h3600, h3601, h3602, hC1, hC2, h3603, h3609, (h3604).1, (h3608).1, hE, hZ, (by omega), (by assumption), (by omega), (by first | assumption | exact SG_0), q3606, gce8, h3595, h3607, a3580, gm⟩, by omega, by omega⟩ (by omega) (by omega))
    · exfalso
      omega
  · refine wl_of hX hb cL_845 (rw_iconst (pc' := 846) rfl ?_)
    refine wl_of hX hb cL_846 (rw_goto (p1 := 850) (by decide) ?_)
    obtain ⟨B, tc, tm, cu, dr, C8, e8, d8, n8, g8, ce8, e0, gtc, htc, em, gtm, htm, ecu, gcu, edr, gdr, hcu, hdr, hdec, hded, hsp, hC1, hC2, hcu8, hrb8, hcg8, hmn8, hE, hZ, hn8, hXA, hV8, hSG, ece8, gce8, hcen8, hhdr8, hknn8, -⟩ := hXI
    have hN3 := RB_n3 hrb8
    have hE13 : ∀ h : Nat, h < 24 → 0 ≤ e8 13 h ∧ e8 13 h ≤ 100 := fun k hk => by
      obtain ⟨s, h1, h2, h3⟩ := hcu8.1.2.2.1
      exact ⟨(h3 k hk).1, (h3 k hk).2.1⟩
    have hXW := hXA.1
    have hXN := hXA.2
    have hE0 : e8 0 3 = d8 0 3 ∧ e8 0 0 = d8 0 0 := by
      have h := hE 0 (by decide)
      exact ⟨congrFun h 3, congrFun h 0⟩
    have u3610 := CU_k hcu8
    have h3611 : CY T H cu (d8 0 3) g8 (H cu 17) := ⟨hcg8, rfl⟩
    have h3612 : RY T H m (d8 0 3) g8 (H m 32) := ⟨hmn8, rfl⟩
    obtain ⟨t9, ht9⟩ : ∃ t : Int, t = H x 9 := ⟨_, rfl⟩
    obtain ⟨y9, hy9⟩ : ∃ y : Int, y = 1 := ⟨_, rfl⟩
    obtain ⟨r3613, q3614, g3615⟩ := hW.ref gx (t' := 6) (n := 13) (j := 2) (p := 0) (q := 0) rfl (by decide) rfl
    refine wl_of hX hb cL_850 (xc_V (pc' := 853) (r := x) (as := [vI (H 0 ((i + 1).toNat)), vI 1]) (st := []) (lm_11_109) rfl rfl (Nat.le_of_ble_eq_true rfl) hW gx sh_1 (by decide) rfl (by decide) (u_104 (e := e8) (d := d8) (n := n8) hW gx ⟨by omega, by omega⟩ ⟨by decide, by decide⟩ ecu gcu q3614 g3615 ece8 gce8 (by assumption) (by assumption) (by omega) (by omega) (by omega) (by omega) hcu8 hcen8 hhdr8) (fun R3616 T3617 H3618 p3619 => ?_))
    obtain ⟨e3620, w3622, f3623, z3624, e3621, b3625, p3626⟩ := p3619
    subst e3620
    subst e3621
    show WL _ _ _ _ 853 [(4, vI i), (3, .ref o), (2, .ref m), (1, .ref x), (0, .ref 0)] [vI z3624] _ H3618
    refine wl_of hX hb cL_853 (rw_pop (pc' := 854) rfl rfl ?_)
    refine wl_of hX hb cL_854 (rw_aload_n (pc' := 855) (v := .ref m) rfl rfl rfl ?_)
    refine wl_of hX hb cL_855 (rw_aload_n (pc' := 856) (v := .ref 0) rfl rfl rfl ?_)
    refine wl_of hX hb cL_856 (rw_iload (pc' := 858) (z := i) rfl rfl ?_)
    refine wl_of hX hb cL_858 (rw_iconst (pc' := 859) rfl ?_)
    refine wl_of hX hb cL_859 (rw_iadd (pc' := 860) rfl ?_)
    have k3630 : H3618 0 ((i + 1).toNat) = H 0 ((i + 1).toNat) := (f3623 0 ((i + 1).toNat) _ g0 (wmem_s rfl))
    refine wl_of hX hb cL_860 (xa_I (so := 0) (pc' := 861) (a := 0) w3622 g0 (wsh_s _) (by omega) (wty_s _ _) (by omega) (by omega) rfl (fun b3628 b3629 => ?_))
    refine wl_of hX hb cL_861 (rw_aload_n (pc' := 862) (v := .ref 0) rfl rfl rfl ?_)
    refine wl_of hX hb cL_862 (rw_iload (pc' := 864) (z := i) rfl rfl ?_)
    refine wl_of hX hb cL_864 (rw_iconst (pc' := 865) rfl ?_)
    refine wl_of hX hb cL_865 (rw_iadd (pc' := 866) rfl ?_)
    have k3633 : H3618 0 ((i + 2).toNat) = H 0 ((i + 2).toNat) := (f3623 0 ((i + 2).toNat) _ g0 (wmem_s rfl))
    refine wl_of hX hb cL_866 (xa_I (so := 0) (pc' := 867) (a := 0) w3622 g0 (wsh_s _) (by omega) (wty_s _ _) (by omega) (by omega) rfl (fun b3631 b3632 => ?_))
    refine wl_of hX hb cL_867 (rw_if_eq (p1 := 874) (p2 := 870) (by decide) rfl ⟨by omega, by omega⟩ (fun c3634 => ?_) (fun c3634 => ?_))
    · refine wl_of hX hb cL_874 (rw_iconst (pc' := 875) rfl ?_)
      have k3635 : wKI H3618 m = wKI H m := (wKI_fr hW gm f3623 rfl)
      have k3636 : H3618 x 9 = H x 9 := (f3623 x 9 _ gx rfl)
      have k3637 : H3618 m 6 = H m 6 := (f3623 m 6 _ gm rfl)
      have k3638 : H3618 x 11 = H x 11 := (f3623 x 11 _ gx rfl)
      have k3639 : H3618 m 13 = H m 13 := (f3623 m 13 _ gm rfl)
      have k3640 : H3618 x 8 = H x 8 := (f3623 x 8 _ gx rfl)
      have k3641 : H3618 m 3 = H m 3 := (f3623 m 3 _ gm rfl)
      rw [show H3618 0 ((i + 1).toNat) = H 0 ((i + 1).toNat) by omega]
      have h3642 : RB T H3618 m e8 d8 := (RB_fr hW gm f3623 rfl hrb8)
      have h3643 : KNN T H3618 m e8 d8 := (KNN_fr hW gm f3623 rfl hknn8)
      refine wl_of hX hb cL_875 (xc_V (pc' := 878) (r := m) (as := [vI (H 0 ((i + 1).toNat)), vI 0]) (st := []) (lm_11_113) rfl rfl (Nat.le_of_ble_eq_true rfl) w3622 gm sh_42 (by decide) rfl (by decide) (u_254 (e := e8) (d := d8) w3622 gm ⟨by omega, by omega⟩ ⟨by decide, by decide⟩ (by omega) (by assumption) (by assumption) (by assumption) (by assumption) h3642 h3643) (fun R3644 T3645 H3646 p3647 => ?_))
      obtain ⟨e3648, w3650, f3651, z3652, e3649, b3653, p3654⟩ := p3647
      subst e3648
      subst e3649
      obtain ⟨a3655, a3656⟩ := p3654
      show WL _ _ _ _ 878 [(4, vI i), (3, .ref o), (2, .ref m), (1, .ref x), (0, .ref 0)] [vI z3652] _ H3646
      refine wl_of hX hb cL_878 (rw_pop (pc' := 879) rfl rfl ?_)
      refine wl_of hX hb cL_879 (rw_goto (p1 := 1653) (by decide) ?_)
      have k3657 : H3646 x 9 = H3618 x 9 := (f3651 x 9 _ gx rfl)
      have k3658 : H3646 m 6 = H3618 m 6 := (f3651 m 6 _ gm rfl)
      have k3659 : H3646 x 11 = H3618 x 11 := (f3651 x 11 _ gx rfl)
      have k3660 : H3646 m 13 = H3618 m 13 := (f3651 m 13 _ gm rfl)
      have k3661 : H3646 x 8 = H3618 x 8 := (f3651 x 8 _ gx rfl)
      have k3662 : H3646 m 3 = H3618 m 3 := (f3651 m 3 _ gm rfl)
      have k3663 : H3646 x 0 = H x 0 := ((f3651 x 0 _ gx rfl).trans (f3623 x 0 _ gx rfl))
      have q3664 : H3646 x 0 = (tc : Int) := k3663.trans e0
      have k3665 : H3646 m 5 = H m 5 := ((f3651 m 5 _ gm rfl).trans (f3623 m 5 _ gm rfl))
      have q3666 : H3646 m 5 = (tm : Int) := k3665.trans em
      have k3667 : H3646 x 6 = H x 6 := ((f3651 x 6 _ gx rfl).trans (f3623 x 6 _ gx rfl))
      have q3668 : H3646 x 6 = (cu : Int) := k3667.trans ecu
      have k3669 : H3646 x 7 = H x 7 := ((f3651 x 7 _ gx rfl).trans (f3623 x 7 _ gx rfl))
      have q3670 : H3646 x 7 = (dr : Int) := k3669.trans edr
      have h3671 : CEN T H3646 ce8 e8 d8 := (CEN_fr w3622 gce8 f3651 rfl p3626)
      have h3672 : TP T H3646 tc B := (TP_fr w3622 gtc f3651 rfl (TP_fr hW gtc f3623 rfl htc))
      have h3673 : TM T H3646 tm B := (TM_fr w3622 gtm f3651 rfl (TM_fr hW gtm f3623 rfl htm))
      have h3674 : DD T H3646 cu  := (DD_fr w3622 gcu f3651 rfl (DD_fr hW gcu f3623 rfl hcu))
      have h3675 : DD T H3646 dr  := (DD_fr w3622 gdr f3651 rfl (DD_fr hW gdr f3623 rfl hdr))
      have h3676 : DE T H3646 cu  := (DE_fr w3622 gcu f3651 rfl (DE_fr hW gcu f3623 rfl hdec))
      have h3677 : DE T H3646 dr  := (DE_fr w3622 gdr f3651 rfl (DE_fr hW gdr f3623 rfl hded))
      have h3678 : SP T H3646 x C8 := (SP_fr w3622 gx f3651 rfl (SP_fr hW gx f3623 rfl hsp))
      have h3679 : CU T H3646 cu e8 d8 n8 := (CU_fr w3622 gcu f3651 rfl (CU_fr hW gcu f3623 rfl hcu8))
      have h3680 : CY T H3646 cu (d8 0 3) g8 (H cu 17) := (CY_fr w3622 gcu f3651 rfl (CY_fr hW gcu f3623 rfl h3611))
      have k3681 : H3646 x 3 = H x 3 := ((f3651 x 3 _ gx rfl).trans (f3623 x 3 _ gx rfl))
      have q3682 : H3646 x 3 = (ce8 : Int) := k3681.trans ece8
      have h3683 : HDR T H3646 ce8  := (HDR_fr w3622 gce8 f3651 rfl (HDR_fr hW gce8 f3623 rfl hhdr8))
      have h3684 : RY T H3646 m (d8 0 3) g8 (H m 32) := (RY_fr w3622 gm f3651 rfl (RY_fr hW gm f3623 rfl h3612))
      have h3685 : RB T H3646 m e8 d8 := (RB_fr w3622 gm f3651 rfl h3642)
      exact WL.loc hX (by simp) (next T H3646 ⟨⟨w3650, g0, gx, gm, go, by omega, by omega⟩, ⟨_, tc, tm, cu, dr, _, _, _, _, _, ce8, q3664, gtc, h3672, q3666, gtm, h3673, q3668, gcu, q3670, gdr, h3674, h3675, h3676, h3677, h3678, hC1, hC2, h3679, h3685, (h3680).1, (h3684).1, hE, hZ, (by omega), (by assumption), (by omega), (by first | assumption | exact SG_0), q3682, gce8, h3671, h3683, a3656, gm⟩, by omega, by omega⟩ (by omega) (by omega))
    · refine wl_of hX hb cL_870 (rw_iconst (pc' := 871) rfl ?_)
      refine wl_of hX hb cL_871 (rw_goto (p1 := 875) (by decide) ?_)
      have k3686 : wKI H3618 m = wKI H m := (wKI_fr hW gm f3623 rfl)
      have k3687 : H3618 x 9 = H x 9 := (f3623 x 9 _ gx rfl)
      have k3688 : H3618 m 6 = H m 6 := (f3623 m 6 _ gm rfl)
      have k3689 : H3618 x 11 = H x 11 := (f3623 x 11 _ gx rfl)
      have k3690 : H3618 m 13 = H m 13 := (f3623 m 13 _ gm rfl)
      have k3691 : H3618 x 8 = H x 8 := (f3623 x 8 _ gx rfl)
      have k3692 : H3618 m 3 = H m 3 := (f3623 m 3 _ gm rfl)
      rw [show H3618 0 ((i + 1).toNat) = H 0 ((i + 1).toNat) by omega]
      have h3693 : RB T H3618 m e8 d8 := (RB_fr hW gm f3623 rfl hrb8)
      have h3694 : KNN T H3618 m e8 d8 := (KNN_fr hW gm f3623 rfl hknn8)
      refine wl_of hX hb cL_875 (xc_V (pc' := 878) (r := m) (as := [vI (H 0 ((i + 1).toNat)), vI 1]) (st := []) (lm_11_113) rfl rfl (Nat.le_of_ble_eq_true rfl) w3622 gm sh_42 (by decide) rfl (by decide) (u_254 (e := e8) (d := d8) w3622 gm ⟨by omega, by omega⟩ ⟨by decide, by decide⟩ (by omega) (by assumption) (by assumption) (by assumption) (by assumption) h3693 h3694) (fun R3695 T3696 H3697 p3698 => ?_))
      obtain ⟨e3699, w3701, f3702, z3703, e3700, b3704, p3705⟩ := p3698
      subst e3699
      subst e3700
      obtain ⟨a3706, a3707⟩ := p3705
      show WL _ _ _ _ 878 [(4, vI i), (3, .ref o), (2, .ref m), (1, .ref x), (0, .ref 0)] [vI z3703] _ H3697
      refine wl_of hX hb cL_878 (rw_pop (pc' := 879) rfl rfl ?_)
      refine wl_of hX hb cL_879 (rw_goto (p1 := 1653) (by decide) ?_)
      have k3708 : H3697 x 9 = H3618 x 9 := (f3702 x 9 _ gx rfl)
      have k3709 : H3697 m 6 = H3618 m 6 := (f3702 m 6 _ gm rfl)
      have k3710 : H3697 x 11 = H3618 x 11 := (f3702 x 11 _ gx rfl)
      have k3711 : H3697 m 13 = H3618 m 13 := (f3702 m 13 _ gm rfl)
      have k3712 : H3697 x 8 = H3618 x 8 := (f3702 x 8 _ gx rfl)
      have k3713 : H3697 m 3 = H3618 m 3 := (f3702 m 3 _ gm rfl)
      have k3714 : H3697 x 0 = H x 0 := ((f3702 x 0 _ gx rfl).trans (f3623 x 0 _ gx rfl))
      have q3715 : H3697 x 0 = (tc : Int) := k3714.trans e0
      have k3716 : H3697 m 5 = H m 5 := ((f3702 m 5 _ gm rfl).trans (f3623 m 5 _ gm rfl))
      have q3717 : H3697 m 5 = (tm : Int) := k3716.trans em
      have k3718 : H3697 x 6 = H x 6 := ((f3702 x 6 _ gx rfl).trans (f3623 x 6 _ gx rfl))
      have q3719 : H3697 x 6 = (cu : Int) := k3718.trans ecu
      have k3720 : H3697 x 7 = H x 7 := ((f3702 x 7 _ gx rfl).trans (f3623 x 7 _ gx rfl))
      have q3721 : H3697 x 7 = (dr : Int) := k3720.trans edr
      have h3722 : CEN T H3697 ce8 e8 d8 := (CEN_fr w3622 gce8 f3702 rfl p3626)
      have h3723 : TP T H3697 tc B := (TP_fr w3622 gtc f3702 rfl (TP_fr hW gtc f3623 rfl htc))
      have h3724 : TM T H3697 tm B := (TM_fr w3622 gtm f3702 rfl (TM_fr hW gtm f3623 rfl htm))
      have h3725 : DD T H3697 cu  := (DD_fr w3622 gcu f3702 rfl (DD_fr hW gcu f3623 rfl hcu))
      have h3726 : DD T H3697 dr  := (DD_fr w3622 gdr f3702 rfl (DD_fr hW gdr f3623 rfl hdr))
      have h3727 : DE T H3697 cu  := (DE_fr w3622 gcu f3702 rfl (DE_fr hW gcu f3623 rfl hdec))
      have h3728 : DE T H3697 dr  := (DE_fr w3622 gdr f3702 rfl (DE_fr hW gdr f3623 rfl hded))
      have h3729 : SP T H3697 x C8 := (SP_fr w3622 gx f3702 rfl (SP_fr hW gx f3623 rfl hsp))
      have h3730 : CU T H3697 cu e8 d8 n8 := (CU_fr w3622 gcu f3702 rfl (CU_fr hW gcu f3623 rfl hcu8))
      have h3731 : CY T H3697 cu (d8 0 3) g8 (H cu 17) := (CY_fr w3622 gcu f3702 rfl (CY_fr hW gcu f3623 rfl h3611))
      have k3732 : H3697 x 3 = H x 3 := ((f3702 x 3 _ gx rfl).trans (f3623 x 3 _ gx rfl))
      have q3733 : H3697 x 3 = (ce8 : Int) := k3732.trans ece8
      have h3734 : HDR T H3697 ce8  := (HDR_fr w3622 gce8 f3702 rfl (HDR_fr hW gce8 f3623 rfl hhdr8))
      have h3735 : RY T H3697 m (d8 0 3) g8 (H m 32) := (RY_fr w3622 gm f3702 rfl (RY_fr hW gm f3623 rfl h3612))
      have h3736 : RB T H3697 m e8 d8 := (RB_fr w3622 gm f3702 rfl h3693)
      exact WL.loc hX (by simp) (next T H3697 ⟨⟨w3701, g0, gx, gm, go, by omega, by omega⟩, ⟨_, tc, tm, cu, dr, _, _, _, _, _, ce8, q3715, gtc, h3723, q3717, gtm, h3724, q3719, gcu, q3721, gdr, h3725, h3726, h3727, h3728, h3729, hC1, hC2, h3730, h3736, (h3731).1, (h3735).1, hE, hZ, (by omega), (by assumption), (by omega), (by first | assumption | exact SG_0), q3733, gce8, h3722, h3734, a3707, gm⟩, by omega, by omega⟩ (by omega) (by omega))
