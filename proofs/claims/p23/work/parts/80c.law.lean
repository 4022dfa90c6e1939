/-! THE LAW, GONE ON WITH (own work) -/
set_option maxHeartbeats 4000000 in
theorem wl_c16 {kt : Nat → Option mc_E} {CB SB : Nat} {X : mc_S → Prop} {T : wq_T} {H : wq_H} {Len x m o : Nat} {i : Int} (hX : wlX kt CB SB X) (hb : T.2.1 ≤ CB ∧ T.2.2.1 ≤ SB) (hI : wlJ Len x m o T H) (hL : Len ≤ 3072) (hi : 0 ≤ i ∧ i + 6 ≤ Len) (hb2 : T.2.1 + 20 ≤ CB ∧ T.2.2.1 + 500 ≤ SB)  (next : ∀ T' H', wlJ Len x m o T' H' → T'.2.1 ≤ T.2.1 + 20 → T'.2.2.1 ≤ T.2.2.1 + 500 → WL kt CB SB X 1653 (wlL i x m o) [] T' H') : WL kt CB SB X 668 (wlL i x m o) [] T H := by
  obtain ⟨⟨hW, g0, gx, gm, go, hK, hr⟩, hXI, hY1, hY2⟩ := hI
  refine wl_of hX hb cL_668 (rw_aload_n (pc' := 669) (v := .ref x) rfl rfl rfl ?_)
  refine wl_of hX hb cL_669 (rw_aload_n (pc' := 670) (v := .ref 0) rfl rfl rfl ?_)
  refine wl_of hX hb cL_670 (rw_iload (pc' := 672) (z := i) rfl rfl ?_)
  refine wl_of hX hb cL_672 (rw_iconst (pc' := 673) rfl ?_)
  refine wl_of hX hb cL_673 (rw_iadd (pc' := 674) rfl ?_)
  refine wl_of hX hb cL_674 (xa_I (so := 0) (pc' := 675) (a := 0) hW g0 (wsh_s _) (by omega) (wty_s _ _) (by omega) (by omega) rfl (fun b3008 b3009 => ?_))
  refine wl_of hX hb cL_675 (rw_aload_n (pc' := 676) (v := .ref 0) rfl rfl rfl ?_)
  refine wl_of hX hb cL_676 (rw_iload (pc' := 678) (z := i) rfl rfl ?_)
  refine wl_of hX hb cL_678 (rw_iconst (pc' := 679) rfl ?_)
  refine wl_of hX hb cL_679 (rw_iadd (pc' := 680) rfl ?_)
  refine wl_of hX hb cL_680 (xa_I (so := 0) (pc' := 681) (a := 0) hW g0 (wsh_s _) (by omega) (wty_s _ _) (by omega) (by omega) rfl (fun b3010 b3011 => ?_))
  obtain ⟨B, tc, tm, cu, dr, C8, e8, d8, n8, g8, ce8, e0, gtc, htc, em, gtm, htm, ecu, gcu, edr, gdr, hcu, hdr, hdec, hded, hsp, hC1, hC2, hcu8, hrb8, hcg8, hmn8, hE, hZ, hn8, hXA, hV8, hSG, ece8, gce8, hcen8, hhdr8, hknn8, -⟩ := hXI
  have hN3 := RB_n3 hrb8
  have hE13 : ∀ h : Nat, h < 24 → 0 ≤ e8 13 h ∧ e8 13 h ≤ 100 := fun k hk => by
    obtain ⟨s, h1, h2, h3⟩ := hcu8.1.2.2.1
    exact ⟨(h3 k hk).1, (h3 k hk).2.1⟩
  have hXW := hXA.1
  have hXN := hXA.2
  have hE0 : e8 0 3 = d8 0 3 ∧ e8 0 0 = d8 0 0 := by
    have h := hE 0 (by decide)
    exact ⟨congrFun h 3, congrFun h 0⟩
  have u3012 := CU_k hcu8
  have h3013 : CY T H cu (d8 0 3) g8 (H cu 17) := ⟨hcg8, rfl⟩
  have h3014 : RY T H m (d8 0 3) g8 (H m 32) := ⟨hmn8, rfl⟩
  obtain ⟨t9, ht9⟩ : ∃ t : Int, t = H x 9 := ⟨_, rfl⟩
  obtain ⟨y9, hy9⟩ : ∃ y : Int, y = H 0 ((i + 2).toNat) := ⟨_, rfl⟩
  obtain ⟨r3015, q3016, g3017⟩ := hW.ref gx (t' := 6) (n := 13) (j := 2) (p := 0) (q := 0) rfl (by decide) rfl
  refine wl_of hX hb cL_681 (xc_V (pc' := 684) (r := x) (as := [vI (H 0 ((i + 1).toNat)), vI (H 0 ((i + 2).toNat))]) (st := []) (lm_11_88) rfl rfl (Nat.le_of_ble_eq_true rfl) hW gx sh_1 (by decide) rfl (by decide) (u_93 (e := e8) (d := d8) (n := n8) hW gx ⟨by omega, by omega⟩ ⟨by omega, by omega⟩ ecu gcu q3016 g3017 ece8 gce8 (by assumption) (by assumption) (by omega) (by omega) (by omega) (by omega) hcu8 hcen8 hhdr8) (fun R3018 T3019 H3020 p3021 => ?_))
  obtain ⟨e3022, w3024, f3025, z3026, e3023, b3027, p3028⟩ := p3021
  subst e3022
  subst e3023
  show WL _ _ _ _ 684 [(4, vI i), (3, .ref o), (2, .ref m), (1, .ref x), (0, .ref 0)] [vI z3026] _ H3020
  refine wl_of hX hb cL_684 (rw_pop (pc' := 685) rfl rfl ?_)
  refine wl_of hX hb cL_685 (rw_aload_n (pc' := 686) (v := .ref m) rfl rfl rfl ?_)
  refine wl_of hX hb cL_686 (rw_aload_n (pc' := 687) (v := .ref 0) rfl rfl rfl ?_)
  refine wl_of hX hb cL_687 (rw_iload (pc' := 689) (z := i) rfl rfl ?_)
  refine wl_of hX hb cL_689 (rw_iconst (pc' := 690) rfl ?_)
  refine wl_of hX hb cL_690 (rw_iadd (pc' := 691) rfl ?_)
  have k3032 : H3020 0 ((i + 1).toNat) = H 0 ((i + 1).toNat) := (f3025 0 ((i + 1).toNat) _ g0 (wmem_s rfl))
  refine wl_of hX hb cL_691 (xa_I (so := 0) (pc' := 692) (a := 0) w3024 g0 (wsh_s _) (by omega) (wty_s _ _) (by omega) (by omega) rfl (fun b3030 b3031 => ?_))
  refine wl_of hX hb cL_692 (rw_aload_n (pc' := 693) (v := .ref 0) rfl rfl rfl ?_)
  refine wl_of hX hb cL_693 (rw_iload (pc' := 695) (z := i) rfl rfl ?_)
  refine wl_of hX hb cL_695 (rw_iconst (pc' := 696) rfl ?_)
  refine wl_of hX hb cL_696 (rw_iadd (pc' := 697) rfl ?_)
  have k3035 : H3020 0 ((i + 2).toNat) = H 0 ((i + 2).toNat) := (f3025 0 ((i + 2).toNat) _ g0 (wmem_s rfl))
  refine wl_of hX hb cL_697 (xa_I (so := 0) (pc' := 698) (a := 0) w3024 g0 (wsh_s _) (by omega) (wty_s _ _) (by omega) (by omega) rfl (fun b3033 b3034 => ?_))
  have k3036 : wKI H3020 m = wKI H m := (wKI_fr hW gm f3025 rfl)
  have k3037 : H3020 x 9 = H x 9 := (f3025 x 9 _ gx rfl)
  have k3038 : H3020 m 6 = H m 6 := (f3025 m 6 _ gm rfl)
  have k3039 : H3020 x 11 = H x 11 := (f3025 x 11 _ gx rfl)
  have k3040 : H3020 m 13 = H m 13 := (f3025 m 13 _ gm rfl)
  have k3041 : H3020 x 8 = H x 8 := (f3025 x 8 _ gx rfl)
  have k3042 : H3020 m 3 = H m 3 := (f3025 m 3 _ gm rfl)
  rw [show H3020 0 ((i + 2).toNat) = H 0 ((i + 2).toNat) by omega]
  rw [show H3020 0 ((i + 1).toNat) = H 0 ((i + 1).toNat) by omega]
  have h3043 : RB T H3020 m e8 d8 := (RB_fr hW gm f3025 rfl hrb8)
  have h3044 : KNN T H3020 m e8 d8 := (KNN_fr hW gm f3025 rfl hknn8)
  refine wl_of hX hb cL_698 (xc_V (pc' := 701) (r := m) (as := [vI (H 0 ((i + 1).toNat)), vI (H 0 ((i + 2).toNat))]) (st := []) (lm_11_92) rfl rfl (Nat.le_of_ble_eq_true rfl) w3024 gm sh_42 (by decide) rfl (by decide) (u_245 (e := e8) (d := d8) w3024 gm ⟨by omega, by omega⟩ ⟨by omega, by omega⟩ (by omega) (by assumption) (by assumption) (by assumption) (by assumption) h3043 h3044) (fun R3045 T3046 H3047 p3048 => ?_))
  obtain ⟨e3049, w3051, f3052, z3053, e3050, b3054, p3055⟩ := p3048
  subst e3049
  subst e3050
  obtain ⟨a3056, a3057⟩ := p3055
  show WL _ _ _ _ 701 [(4, vI i), (3, .ref o), (2, .ref m), (1, .ref x), (0, .ref 0)] [vI z3053] _ H3047
  refine wl_of hX hb cL_701 (rw_pop (pc' := 702) rfl rfl ?_)
  refine wl_of hX hb cL_702 (rw_goto (p1 := 1653) (by decide) ?_)
  have k3058 : H3047 x 9 = H3020 x 9 := (f3052 x 9 _ gx rfl)
  have k3059 : H3047 m 6 = H3020 m 6 := (f3052 m 6 _ gm rfl)
  have k3060 : H3047 x 11 = H3020 x 11 := (f3052 x 11 _ gx rfl)
  have k3061 : H3047 m 13 = H3020 m 13 := (f3052 m 13 _ gm rfl)
  have k3062 : H3047 x 8 = H3020 x 8 := (f3052 x 8 _ gx rfl)
  have k3063 : H3047 m 3 = H3020 m 3 := (f3052 m 3 _ gm rfl)
  have k3064 : H3047 x 0 = H x 0 := ((f3052 x 0 _ gx rfl).trans (f3025 x 0 _ gx rfl))
  have q3065 : H3047 x 0 = (tc : Int) := k3064.trans e0
  have k3066 : H3047 m 5 = H m 5 := ((f3052 m 5 _ gm rfl).trans (f3025 m 5 _ gm rfl))
  have q3067 : H3047 m 5 = (tm : Int) := k3066.trans em
  have k3068 : H3047 x 6 = H x 6 := ((f3052 x 6 _ gx rfl).trans (f3025 x 6 _ gx rfl))
  have q3069 : H3047 x 6 = (cu : Int) := k3068.trans ecu
  have k3070 : H3047 x 7 = H x 7 := ((f3052 x 7 _ gx rfl).trans (f3025 x 7 _ gx rfl))
  have q3071 : H3047 x 7 = (dr : Int) := k3070.trans edr
  have h3072 : CEN T H3047 ce8 e8 d8 := (CEN_fr w3024 gce8 f3052 rfl p3028)
  have h3073 : TP T H3047 tc B := (TP_fr w3024 gtc f3052 rfl (TP_fr hW gtc f3025 rfl htc))
  have h3074 : TM T H3047 tm B := (TM_fr w3024 gtm f3052 rfl (TM_fr hW gtm f3025 rfl htm))
  have h3075 : DD T H3047 cu  := (DD_fr w3024 gcu f3052 rfl (DD_fr hW gcu f3025 rfl hcu))
  have h3076 : DD T H3047 dr  := (DD_fr w3024 gdr f3052 rfl (DD_fr hW gdr f3025 rfl hdr))
  have h3077 : DE T H3047 cu  := (DE_fr w3024 gcu f3052 rfl (DE_fr hW gcu f3025 rfl hdec))
  have h3078 : DE T H3047 dr  := (DE_fr w3024 gdr f3052 rfl (DE_fr hW gdr f3025 rfl hded))
  have h3079 : SP T H3047 x C8 := (SP_fr w3024 gx f3052 rfl (SP_fr hW gx f3025 rfl hsp))
  have h3080 : CU T H3047 cu e8 d8 n8 := (CU_fr w3024 gcu f3052 rfl (CU_fr hW gcu f3025 rfl hcu8))
  have h3081 : CY T H3047 cu (d8 0 3) g8 (H cu 17) := (CY_fr w3024 gcu f3052 rfl (CY_fr hW gcu f3025 rfl h3013))
  have k3082 : H3047 x 3 = H x 3 := ((f3052 x 3 _ gx rfl).trans (f3025 x 3 _ gx rfl))
  have q3083 : H3047 x 3 = (ce8 : Int) := k3082.trans ece8
  have h3084 : HDR T H3047 ce8  := (HDR_fr w3024 gce8 f3052 rfl (HDR_fr hW gce8 f3025 rfl hhdr8))
  have h3085 : RY T H3047 m (d8 0 3) g8 (H m 32) := (RY_fr w3024 gm f3052 rfl (RY_fr hW gm f3025 rfl h3014))
  have h3086 : RB T H3047 m e8 d8 := (RB_fr w3024 gm f3052 rfl h3043)
  exact WL.loc hX (by simp) (next T H3047 ⟨⟨w3051, g0, gx, gm, go, by omega, by omega⟩, ⟨_, tc, tm, cu, dr, _, _, _, _, _, ce8, q3065, gtc, h3073, q3067, gtm, h3074, q3069, gcu, q3071, gdr, h3075, h3076, h3077, h3078, h3079, hC1, hC2, h3080, h3086, (h3081).1, (h3085).1, hE, hZ, (by omega), (by assumption), (by omega), (by first | assumption | exact SG_0), q3083, gce8, h3072, h3084, a3057, gm⟩, by omega, by omega⟩ (by omega) (by omega))
set_option maxHeartbeats 4000000 in
theorem wl_c17 {kt : Nat → Option mc_E} {CB SB : Nat} {X : mc_S → Prop} {T : wq_T} {H : wq_H} {Len x m o : Nat} {i : Int} (hX : wlX kt CB SB X) (hb : T.2.1 ≤ CB ∧ T.2.2.1 ≤ SB) (hI : wlJ Len x m o T H) (hL : Len ≤ 3072) (hi : 0 ≤ i ∧ i + 6 ≤ Len) (hb2 : T.2.1 + 20 ≤ CB ∧ T.2.2.1 + 500 ≤ SB)  (next : ∀ T' H', wlJ Len x m o T' H' → T'.2.1 ≤ T.2.1 + 20 → T'.2.2.1 ≤ T.2.2.1 + 500 → WL kt CB SB X 1653 (wlL i x m o) [] T' H') : WL kt CB SB X 705 (wlL i x m o) [] T H := by
  obtain ⟨⟨hW, g0, gx, gm, go, hK, hr⟩, hXI, hY1, hY2⟩ := hI
  refine wl_of hX hb cL_705 (rw_aload_n (pc' := 706) (v := .ref x) rfl rfl rfl ?_)
  obtain ⟨B, tc, tm, cu, dr, C8, e8, d8, n8, g8, ce8, e0, gtc, htc, em, gtm, htm, ecu, gcu, edr, gdr, hcu, hdr, hdec, hded, hsp, hC1, hC2, hcu8, hrb8, hcg8, hmn8, hE, hZ, hn8, hXA, hV8, hSG, ece8, gce8, hcen8, hhdr8, hknn8, -⟩ := hXI
  have hN3 := RB_n3 hrb8
  have hE13 : ∀ h : Nat, h < 24 → 0 ≤ e8 13 h ∧ e8 13 h ≤ 100 := fun k hk => by
    obtain ⟨s, h1, h2, h3⟩ := hcu8.1.2.2.1
    exact ⟨(h3 k hk).1, (h3 k hk).2.1⟩
  have hXW := hXA.1
  have hXN := hXA.2
  have hE0 : e8 0 3 = d8 0 3 ∧ e8 0 0 = d8 0 0 := by
    have h := hE 0 (by decide)
    exact ⟨congrFun h 3, congrFun h 0⟩
  have u3087 := CU_k hcu8
  have h3088 : CY T H cu (d8 0 3) g8 (H cu 17) := ⟨hcg8, rfl⟩
  have h3089 : RY T H m (d8 0 3) g8 (H m 32) := ⟨hmn8, rfl⟩
  obtain ⟨t9, ht9⟩ : ∃ t : Int, t = H x 9 := ⟨_, rfl⟩
  obtain ⟨r3090, q3091, g3092⟩ := hW.ref gx (t' := 6) (n := 13) (j := 2) (p := 0) (q := 0) rfl (by decide) rfl
  refine wl_of hX hb cL_706 (xc_V (pc' := 709) (r := x) (as := []) (st := []) (lm_11_93) rfl rfl (Nat.le_of_ble_eq_true rfl) hW gx sh_1 (by decide) rfl (by decide) (u_97 (e := e8) (d := d8) (n := n8) hW gx ecu gcu q3091 g3092 ece8 gce8 (by assumption) (by assumption) (by omega) (by omega) (by omega) (by omega) hcu8 hcen8 hhdr8) (fun R3093 T3094 H3095 p3096 => ?_))
  obtain ⟨e3097, w3099, f3100, z3101, e3098, b3102, p3103⟩ := p3096
  subst e3097
  subst e3098
  show WL _ _ _ _ 709 [(4, vI i), (3, .ref o), (2, .ref m), (1, .ref x), (0, .ref 0)] [vL z3101] _ H3095
  refine wl_of hX hb cL_709 (rw_pop2 (pc' := 710) rfl rfl ?_)
  refine wl_of hX hb cL_710 (rw_aload_n (pc' := 711) (v := .ref m) rfl rfl rfl ?_)
  have k3105 : wKI H3095 m = wKI H m := (wKI_fr hW gm f3100 rfl)
  have k3106 : H3095 x 9 = H x 9 := (f3100 x 9 _ gx rfl)
  have k3107 : H3095 m 6 = H m 6 := (f3100 m 6 _ gm rfl)
  have k3108 : H3095 x 11 = H x 11 := (f3100 x 11 _ gx rfl)
  have k3109 : H3095 m 13 = H m 13 := (f3100 m 13 _ gm rfl)
  have k3110 : H3095 x 8 = H x 8 := (f3100 x 8 _ gx rfl)
  have k3111 : H3095 m 3 = H m 3 := (f3100 m 3 _ gm rfl)
  have h3112 : RB T H3095 m e8 d8 := (RB_fr hW gm f3100 rfl hrb8)
  have h3113 : KNN T H3095 m e8 d8 := (KNN_fr hW gm f3100 rfl hknn8)
  refine wl_of hX hb cL_711 (xc_V (pc' := 714) (r := m) (as := []) (st := []) (lm_11_96) rfl rfl (Nat.le_of_ble_eq_true rfl) w3099 gm sh_42 (by decide) rfl (by decide) (u_246 (e := e8) (d := d8) w3099 gm (by omega) (by assumption) (by assumption) (by assumption) (by assumption) h3112 h3113) (fun R3114 T3115 H3116 p3117 => ?_))
  obtain ⟨e3118, w3120, f3121, z3122, e3119, b3123, p3124⟩ := p3117
  subst e3118
  subst e3119
  obtain ⟨a3125, a3126⟩ := p3124
  show WL _ _ _ _ 714 [(4, vI i), (3, .ref o), (2, .ref m), (1, .ref x), (0, .ref 0)] [vL z3122] _ H3116
  refine wl_of hX hb cL_714 (rw_pop2 (pc' := 715) rfl rfl ?_)
  refine wl_of hX hb cL_715 (rw_goto (p1 := 1653) (by decide) ?_)
  have k3127 : H3116 x 9 = H3095 x 9 := (f3121 x 9 _ gx rfl)
  have k3128 : H3116 m 6 = H3095 m 6 := (f3121 m 6 _ gm rfl)
  have k3129 : H3116 x 11 = H3095 x 11 := (f3121 x 11 _ gx rfl)
  have k3130 : H3116 m 13 = H3095 m 13 := (f3121 m 13 _ gm rfl)
  have k3131 : H3116 x 8 = H3095 x 8 := (f3121 x 8 _ gx rfl)
  have k3132 : H3116 m 3 = H3095 m 3 := (f3121 m 3 _ gm rfl)
  have k3133 : H3116 x 0 = H x 0 := ((f3121 x 0 _ gx rfl).trans (f3100 x 0 _ gx rfl))
  have q3134 : H3116 x 0 = (tc : Int) := k3133.trans e0
  have k3135 : H3116 m 5 = H m 5 := ((f3121 m 5 _ gm rfl).trans (f3100 m 5 _ gm rfl))
  have q3136 : H3116 m 5 = (tm : Int) := k3135.trans em
  have k3137 : H3116 x 6 = H x 6 := ((f3121 x 6 _ gx rfl).trans (f3100 x 6 _ gx rfl))
  have q3138 : H3116 x 6 = (cu : Int) := k3137.trans ecu
  have k3139 : H3116 x 7 = H x 7 := ((f3121 x 7 _ gx rfl).trans (f3100 x 7 _ gx rfl))
  have q3140 : H3116 x 7 = (dr : Int) := k3139.trans edr
  have h3141 : CEN T H3116 ce8 e8 d8 := (CEN_fr w3099 gce8 f3121 rfl p3103)
  have h3142 : TP T H3116 tc B := (TP_fr w3099 gtc f3121 rfl (TP_fr hW gtc f3100 rfl htc))
  have h3143 : TM T H3116 tm B := (TM_fr w3099 gtm f3121 rfl (TM_fr hW gtm f3100 rfl htm))
  have h3144 : DD T H3116 cu  := (DD_fr w3099 gcu f3121 rfl (DD_fr hW gcu f3100 rfl hcu))
  have h3145 : DD T H3116 dr  := (DD_fr w3099 gdr f3121 rfl (DD_fr hW gdr f3100 rfl hdr))
  have h3146 : DE T H3116 cu  := (DE_fr w3099 gcu f3121 rfl (DE_fr hW gcu f3100 rfl hdec))
  have h3147 : DE T H3116 dr  := (DE_fr w3099 gdr f3121 rfl (DE_fr hW gdr f3100 rfl hded))
  have h3148 : SP T H3116 x C8 := (SP_fr w3099 gx f3121 rfl (SP_fr hW gx f3100 rfl hsp))
  have h3149 : CU T H3116 cu e8 d8 n8 := (CU_fr w3099 gcu f3121 rfl (CU_fr hW gcu f3100 rfl hcu8))
  have h3150 : CY T H3116 cu (d8 0 3) g8 (H cu 17) := (CY_fr w3099 gcu f3121 rfl (CY_fr hW gcu f3100 rfl h3088))
  have k3151 : H3116 x 3 = H x 3 := ((f3121 x 3 _ gx rfl).trans (f3100 x 3 _ gx rfl))
  have q3152 : H3116 x 3 = (ce8 : Int) := k3151.trans ece8
  have h3153 : HDR T H3116 ce8  := (HDR_fr w3099 gce8 f3121 rfl (HDR_fr hW gce8 f3100 rfl hhdr8))
  have h3154 : RY T H3116 m (d8 0 3) g8 (H m 32) := (RY_fr w3099 gm f3121 rfl (RY_fr hW gm f3100 rfl h3089))
  have h3155 : RB T H3116 m e8 d8 := (RB_fr w3099 gm f3121 rfl h3112)
  exact WL.loc hX (by simp) (next T H3116 ⟨⟨w3120, g0, gx, gm, go, by omega, by omega⟩, ⟨_, tc, tm, cu, dr, _, _, _, _, _, ce8, q3134, gtc, h3142, q3136, gtm, h3143, q3138, gcu, q3140, gdr, h3144, h3145, h3146, h3147, h3148, hC1, hC2, h3149, h3155, (h3150).1, (h3154).1, hE, hZ, (by omega), (by assumption), (by omega), (by first | assumption | exact SG_0), q3152, gce8, h3141, h3153, a3126, gm⟩, by omega, by omega⟩ (by omega) (by omega))
set_option maxHeartbeats 4000000 in
theorem wl_c18 {kt : Nat → Option mc_E} {CB SB : Nat} {X : mc_S → Prop} {T : wq_T} {H : wq_H} {Len x m o : Nat} {i : Int} (hX : wlX kt CB SB X) (hb : T.2.1 ≤ CB ∧ T.2.2.1 ≤ SB) (hI : wlJ Len x m o T H) (hL : Len ≤ 3072) (hi : 0 ≤ i ∧ i + 6 ≤ Len) (hb2 : T.2.1 + 20 ≤ CB ∧ T.2.2.1 + 500 ≤ SB)  (next : ∀ T' H', wlJ Len x m o T' H' → T'.2.1 ≤ T.2.1 + 20 → T'.2.2.1 ≤ T.2.2.1 + 500 → WL kt CB SB X 1653 (wlL i x m o) [] T' H') : WL kt CB SB X 718 (wlL i x m o) [] T H := by
  obtain ⟨⟨hW, g0, gx, gm, go, hK, hr⟩, hXI, hY1, hY2⟩ := hI
  refine wl_of hX hb cL_718 (rw_aload_n (pc' := 719) (v := .ref x) rfl rfl rfl ?_)
  refine wl_of hX hb cL_719 (rw_aload_n (pc' := 720) (v := .ref 0) rfl rfl rfl ?_)
  refine wl_of hX hb cL_720 (rw_iload (pc' := 722) (z := i) rfl rfl ?_)
  refine wl_of hX hb cL_722 (rw_iconst (pc' := 723) rfl ?_)
  refine wl_of hX hb cL_723 (rw_iadd (pc' := 724) rfl ?_)
  refine wl_of hX hb cL_724 (xa_I (so := 0) (pc' := 725) (a := 0) hW g0 (wsh_s _) (by omega) (wty_s _ _) (by omega) (by omega) rfl (fun b3156 b3157 => ?_))
  refine wl_of hX hb cL_725 (rw_aload_n (pc' := 726) (v := .ref 0) rfl rfl rfl ?_)
  refine wl_of hX hb cL_726 (rw_iload (pc' := 728) (z := i) rfl rfl ?_)
  refine wl_of hX hb cL_728 (rw_iconst (pc' := 729) rfl ?_)
  refine wl_of hX hb cL_729 (rw_iadd (pc' := 730) rfl ?_)
  refine wl_of hX hb cL_730 (xa_I (so := 0) (pc' := 731) (a := 0) hW g0 (wsh_s _) (by omega) (wty_s _ _) (by omega) (by omega) rfl (fun b3158 b3159 => ?_))
  obtain ⟨B, tc, tm, cu, dr, C8, e8, d8, n8, g8, ce8, e0, gtc, htc, em, gtm, htm, ecu, gcu, edr, gdr, hcu, hdr, hdec, hded, hsp, hC1, hC2, hcu8, hrb8, hcg8, hmn8, hE, hZ, hn8, hXA, hV8, hSG, ece8, gce8, hcen8, hhdr8, hknn8, -⟩ := hXI
  have hN3 := RB_n3 hrb8
  have hE13 : ∀ h : Nat, h < 24 → 0 ≤ e8 13 h ∧ e8 13 h ≤ 100 := fun k hk => by
    obtain ⟨s, h1, h2, h3⟩ := hcu8.1.2.2.1
    exact ⟨(h3 k hk).1, (h3 k hk).2.1⟩
  have hXW := hXA.1
  have hXN := hXA.2
  have hE0 : e8 0 3 = d8 0 3 ∧ e8 0 0 = d8 0 0 := by
    have h := hE 0 (by decide)
    exact ⟨congrFun h 3, congrFun h 0⟩
  have u3160 := CU_k hcu8
  have h3161 : CY T H cu (d8 0 3) g8 (H cu 17) := ⟨hcg8, rfl⟩
  have h3162 : RY T H m (d8 0 3) g8 (H m 32) := ⟨hmn8, rfl⟩
  obtain ⟨t9, ht9⟩ : ∃ t : Int, t = H x 9 := ⟨_, rfl⟩
  obtain ⟨y9, hy9⟩ : ∃ y : Int, y = H 0 ((i + 2).toNat) := ⟨_, rfl⟩
  obtain ⟨r3163, q3164, g3165⟩ := hW.ref gx (t' := 6) (n := 13) (j := 2) (p := 0) (q := 0) rfl (by decide) rfl
  refine wl_of hX hb cL_731 (xc_V (pc' := 734) (r := x) (as := [vI (H 0 ((i + 1).toNat)), vI (H 0 ((i + 2).toNat))]) (st := []) (lm_11_97) rfl rfl (Nat.le_of_ble_eq_true rfl) hW gx sh_1 (by decide) rfl (by decide) (u_98 (e := e8) (d := d8) (n := n8) hW gx ⟨by omega, by omega⟩ ⟨by omega, by omega⟩ ecu gcu q3164 g3165 ece8 gce8 (by assumption) (by assumption) (by omega) (by omega) (by omega) (by omega) hcu8 hcen8 hhdr8) (fun R3166 T3167 H3168 p3169 => ?_))
  obtain ⟨e3170, w3172, f3173, z3174, e3171, b3175, p3176⟩ := p3169
  subst e3170
  subst e3171
  show WL _ _ _ _ 734 [(4, vI i), (3, .ref o), (2, .ref m), (1, .ref x), (0, .ref 0)] [vI z3174] _ H3168
  refine wl_of hX hb cL_734 (rw_pop (pc' := 735) rfl rfl ?_)
  refine wl_of hX hb cL_735 (rw_aload_n (pc' := 736) (v := .ref m) rfl rfl rfl ?_)
  refine wl_of hX hb cL_736 (rw_aload_n (pc' := 737) (v := .ref 0) rfl rfl rfl ?_)
  refine wl_of hX hb cL_737 (rw_iload (pc' := 739) (z := i) rfl rfl ?_)
  refine wl_of hX hb cL_739 (rw_iconst (pc' := 740) rfl ?_)
  refine wl_of hX hb cL_740 (rw_iadd (pc' := 741) rfl ?_)
  have k3180 : H3168 0 ((i + 1).toNat) = H 0 ((i + 1).toNat) := (f3173 0 ((i + 1).toNat) _ g0 (wmem_s rfl))
  refine wl_of hX hb cL_741 (xa_I (so := 0) (pc' := 742) (a := 0) w3172 g0 (wsh_s _) (by omega) (wty_s _ _) (by omega) (by omega) rfl (fun b3178 b3179 => ?_))
  refine wl_of hX hb cL_742 (rw_aload_n (pc' := 743) (v := .ref 0) rfl rfl rfl ?_)
  refine wl_of hX hb cL_743 (rw_iload (pc' := 745) (z := i) rfl rfl ?_)
  refine wl_of hX hb cL_745 (rw_iconst (pc' := 746) rfl ?_)
  refine wl_of hX hb cL_746 (rw_iadd (pc' := 747) rfl ?_)
  have k3183 : H3168 0 ((i + 2).toNat) = H 0 ((i + 2).toNat) := (f3173 0 ((i + 2).toNat) _ g0 (wmem_s rfl))
  refine wl_of hX hb cL_747 (xa_I (so := 0) (pc' := 748) (a := 0) w3172 g0 (wsh_s _) (by omega) (wty_s _ _) (by omega) (by omega) rfl (fun b3181 b3182 => ?_))
  have k3184 : wKI H3168 m = wKI H m := (wKI_fr hW gm f3173 rfl)
  have k3185 : H3168 x 9 = H x 9 := (f3173 x 9 _ gx rfl)
  have k3186 : H3168 m 6 = H m 6 := (f3173 m 6 _ gm rfl)
  have k3187 : H3168 x 11 = H x 11 := (f3173 x 11 _ gx rfl)
  have k3188 : H3168 m 13 = H m 13 := (f3173 m 13 _ gm rfl)
  have k3189 : H3168 x 8 = H x 8 := (f3173 x 8 _ gx rfl)
  have k3190 : H3168 m 3 = H m 3 := (f3173 m 3 _ gm rfl)
  rw [show H3168 0 ((i + 2).toNat) = H 0 ((i + 2).toNat) by omega]
  rw [show H3168 0 ((i + 1).toNat) = H 0 ((i + 1).toNat) by omega]
  have h3191 : RB T H3168 m e8 d8 := (RB_fr hW gm f3173 rfl hrb8)
  have h3192 : KNN T H3168 m e8 d8 := (KNN_fr hW gm f3173 rfl hknn8)
  refine wl_of hX hb cL_748 (xc_V (pc' := 751) (r := m) (as := [vI (H 0 ((i + 1).toNat)), vI (H 0 ((i + 2).toNat))]) (st := []) (lm_11_100) rfl rfl (Nat.le_of_ble_eq_true rfl) w3172 gm sh_42 (by decide) rfl (by decide) (u_249 (e := e8) (d := d8) w3172 gm ⟨by omega, by omega⟩ ⟨by omega, by omega⟩ (by omega) (by assumption) (by assumption) (by assumption) (by assumption) h3191 h3192) (fun R3193 T3194 H3195 p3196 => ?_))
  obtain ⟨e3197, w3199, f3200, z3201, e3198, b3202, p3203⟩ := p3196
  subst e3197
  subst e3198
  obtain ⟨a3204, a3205⟩ := p3203
  show WL _ _ _ _ 751 [(4, vI i), (3, .ref o), (2, .ref m), (1, .ref x), (0, .ref 0)] [vI z3201] _ H3195
  refine wl_of hX hb cL_751 (rw_pop (pc' := 752) rfl rfl ?_)
  refine wl_of hX hb cL_752 (rw_goto (p1 := 1653) (by decide) ?_)
  have k3206 : H3195 x 9 = H3168 x 9 := (f3200 x 9 _ gx rfl)
  have k3207 : H3195 m 6 = H3168 m 6 := (f3200 m 6 _ gm rfl)
  have k3208 : H3195 x 11 = H3168 x 11 := (f3200 x 11 _ gx rfl)
  have k3209 : H3195 m 13 = H3168 m 13 := (f3200 m 13 _ gm rfl)
  have k3210 : H3195 x 8 = H3168 x 8 := (f3200 x 8 _ gx rfl)
  have k3211 : H3195 m 3 = H3168 m 3 := (f3200 m 3 _ gm rfl)
  have k3212 : H3195 x 0 = H x 0 := ((f3200 x 0 _ gx rfl).trans (f3173 x 0 _ gx rfl))
  have q3213 : H3195 x 0 = (tc : Int) := k3212.trans e0
  have k3214 : H3195 m 5 = H m 5 := ((f3200 m 5 _ gm rfl).trans (f3173 m 5 _ gm rfl))
  have q3215 : H3195 m 5 = (tm : Int) := k3214.trans em
  have k3216 : H3195 x 6 = H x 6 := ((f3200 x 6 _ gx rfl).trans (f3173 x 6 _ gx rfl))
  have q3217 : H3195 x 6 = (cu : Int) := k3216.trans ecu
  have k3218 : H3195 x 7 = H x 7 := ((f3200 x 7 _ gx rfl).trans (f3173 x 7 _ gx rfl))
  have q3219 : H3195 x 7 = (dr : Int) := k3218.trans edr
  have h3220 : CEN T H3195 ce8 e8 d8 := (CEN_fr w3172 gce8 f3200 rfl p3176)
  have h3221 : TP T H3195 tc B := (TP_fr w3172 gtc f3200 rfl (TP_fr hW gtc f3173 rfl htc))
  have h3222 : TM T H3195 tm B := (TM_fr w3172 gtm f3200 rfl (TM_fr hW gtm f3173 rfl htm))
  have h3223 : DD T H3195 cu  := (DD_fr w3172 gcu f3200 rfl (DD_fr hW gcu f3173 rfl hcu))
  have h3224 : DD T H3195 dr  := (DD_fr w3172 gdr f3200 rfl (DD_fr hW gdr f3173 rfl hdr))
  have h3225 : DE T H3195 cu  := (DE_fr w3172 gcu f3200 rfl (DE_fr hW gcu f3173 rfl hdec))
  have h3226 : DE T H3195 dr  := (DE_fr w3172 gdr f3200 rfl (DE_fr hW gdr f3173 rfl hded))
  have h3227 : SP T H3195 x C8 := (SP_fr w3172 gx f3200 rfl (SP_fr hW gx f3173 rfl hsp))
  have h3228 : CU T H3195 cu e8 d8 n8 := (CU_fr w3172 gcu f3200 rfl (CU_fr hW gcu f3173 rfl hcu8))
  have h3229 : CY T H3195 cu (d8 0 3) g8 (H cu 17) := (CY_fr w3172 gcu f3200 rfl (CY_fr hW gcu f3173 rfl h3161))
  have k3230 : H3195 x 3 = H x 3 := ((f3200 x 3 _ gx rfl).trans (f3173 x 3 _ gx rfl))
  have q3231 : H3195 x 3 = (ce8 : Int) := k3230.trans ece8
  have h3232 : HDR T H3195 ce8  := (HDR_fr w3172 gce8 f3200 rfl (HDR_fr hW gce8 f3173 rfl hhdr8))
  have h3233 : RY T H3195 m (d8 0 3) g8 (H m 32) := (RY_fr w3172 gm f3200 rfl (RY_fr hW gm f3173 rfl h3162))
  have h3234 : RB T H3195 m e8 d8 := (RB_fr w3172 gm f3200 rfl h3191)
  exact WL.loc hX (by simp) (next T H3195 ⟨⟨w3199, g0, gx, gm, go, by omega, by omega⟩, ⟨_, tc, tm, cu, dr, _, _, _, _, _, ce8, q3213, gtc, h3221, q3215, gtm, h3222, q3217, gcu, q3219, gdr, h3223, h3224, h3225, h3226, h3227, hC1, hC2, h3228, h3234, (h3229).1, (h3233).1, hE, hZ, (by omega), (by assumption), (by omega), (by first | assumption | exact SG_0), q3231, gce8, h3220, h3232, a3205, gm⟩, by omega, by omega⟩ (by omega) (by omega))
set_option maxHeartbeats 4000000 in
theorem wl_c19 {kt : Nat → Option mc_E} {CB SB : Nat} {X : mc_S → Prop} {T : wq_T} {H : wq_H} {Len x m o : Nat} {i : Int} (hX : wlX kt CB SB X) (hb : T.2.1 ≤ CB ∧ T.2.2.1 ≤ SB) (hI : wlJ Len x m o T H) (hL : Len ≤ 3072) (hi : 0 ≤ i ∧ i + 6 ≤ Len) (hb2 : T.2.1 + 20 ≤ CB ∧ T.2.2.1 + 500 ≤ SB)  (next : ∀ T' H', wlJ Len x m o T' H' → T'.2.1 ≤ T.2.1 + 20 → T'.2.2.1 ≤ T.2.2.1 + 500 → WL kt CB SB X 1653 (wlL i x m o) [] T' H') : WL kt CB SB X 755 (wlL i x m o) [] T H := by
  obtain ⟨⟨hW, g0, gx, gm, go, hK, hr⟩, hXI, hY1, hY2⟩ := hI
  refine wl_of hX hb cL_755 (rw_aload_n (pc' := 756) (v := .ref x) rfl rfl rfl ?_)
  refine wl_of hX hb cL_756 (rw_aload_n (pc' := 757) (v := .ref 0) rfl rfl rfl ?_)
  refine wl_of hX hb cL_757 (rw_iload (pc' := 759) (z := i) rfl rfl ?_)
  refine wl_of hX hb cL_759 (rw_iconst (pc' := 760) rfl ?_)
  refine wl_of hX hb cL_760 (rw_iadd (pc' := 761) rfl ?_)
  refine wl_of hX hb cL_761 (xa_I (so := 0) (pc' := 762) (a := 0) hW g0 (wsh_s _) (by omega) (wty_s _ _) (by omega) (by omega) rfl (fun b3235 b3236 => ?_))
  refine wl_of hX hb cL_762 (rw_aload_n (pc' := 763) (v := .ref 0) rfl rfl rfl ?_)
  refine wl_of hX hb cL_763 (rw_iload (pc' := 765) (z := i) rfl rfl ?_)
  refine wl_of hX hb cL_765 (rw_iconst (pc' := 766) rfl ?_)
  refine wl_of hX hb cL_766 (rw_iadd (pc' := 767) rfl ?_)
  refine wl_of hX hb cL_767 (xa_I (so := 0) (pc' := 768) (a := 0) hW g0 (wsh_s _) (by omega) (wty_s _ _) (by omega) (by omega) rfl (fun b3237 b3238 => ?_))
  obtain ⟨B, tc, tm, cu, dr, C8, e8, d8, n8, g8, ce8, e0, gtc, htc, em, gtm, htm, ecu, gcu, edr, gdr, hcu, hdr, hdec, hded, hsp, hC1, hC2, hcu8, hrb8, hcg8, hmn8, hE, hZ, hn8, hXA, hV8, hSG, ece8, gce8, hcen8, hhdr8, hknn8, -⟩ := hXI
  have hN3 := RB_n3 hrb8
  have hE13 : ∀ h : Nat, h < 24 → 0 ≤ e8 13 h ∧ e8 13 h ≤ 100 := fun k hk => by
    obtain ⟨s, h1, h2, h3⟩ := hcu8.1.2.2.1
    exact ⟨(h3 k hk).1, (h3 k hk).2.1⟩
  have hXW := hXA.1
  have hXN := hXA.2
  have hE0 : e8 0 3 = d8 0 3 ∧ e8 0 0 = d8 0 0 := by
    have h := hE 0 (by decide)
    exact ⟨congrFun h 3, congrFun h 0⟩
  have u3239 := CU_k hcu8
  have h3240 : CY T H cu (d8 0 3) g8 (H cu 17) := ⟨hcg8, rfl⟩
  have h3241 : RY T H m (d8 0 3) g8 (H m 32) := ⟨hmn8, rfl⟩
  obtain ⟨t9, ht9⟩ : ∃ t : Int, t = H x 9 := ⟨_, rfl⟩
  obtain ⟨y9, hy9⟩ : ∃ y : Int, y = H 0 ((i + 2).toNat) := ⟨_, rfl⟩
  obtain ⟨r3242, q3243, g3244⟩ := hW.ref gx (t' := 6) (n := 13) (j := 2) (p := 0) (q := 0) rfl (by decide) rfl
  refine wl_of hX hb cL_768 (xc_V (pc' := 771) (r := x) (as := [vI (H 0 ((i + 1).toNat)), vI (H 0 ((i + 2).toNat))]) (st := []) (lm_11_101) rfl rfl (Nat.le_of_ble_eq_true rfl) hW gx sh_1 (by decide) rfl (by decide) (u_99 (e := e8) (d := d8) (n := n8) hW gx ⟨by omega, by omega⟩ ⟨by omega, by omega⟩ ecu gcu q3243 g3244 ece8 gce8 (by assumption) (by assumption) (by omega) (by omega) (by omega) (by omega) hcu8 hcen8 hhdr8) (fun R3245 T3246 H3247 p3248 => ?_))
  obtain ⟨e3249, w3251, f3252, z3253, e3250, b3254, p3255⟩ := p3248
  subst e3249
  subst e3250
  show WL _ _ _ _ 771 [(4, vI i), (3, .ref o), (2, .ref m), (1, .ref x), (0, .ref 0)] [vI z3253] _ H3247
  refine wl_of hX hb cL_771 (rw_pop (pc' := 772) rfl rfl ?_)
  refine wl_of hX hb cL_772 (rw_aload_n (pc' := 773) (v := .ref m) rfl rfl rfl ?_)
  refine wl_of hX hb cL_773 (rw_aload_n (pc' := 774) (v := .ref 0) rfl rfl rfl ?_)
  refine wl_of hX hb cL_774 (rw_iload (pc' := 776) (z := i) rfl rfl ?_)
  refine wl_of hX hb cL_776 (rw_iconst (pc' := 777) rfl ?_)
  refine wl_of hX hb cL_777 (rw_iadd (pc' := 778) rfl ?_)
  have k3259 : H3247 0 ((i + 1).toNat) = H 0 ((i + 1).toNat) := (f3252 0 ((i + 1).toNat) _ g0 (wmem_s rfl))
  refine wl_of hX hb cL_778 (xa_I (so := 0) (pc' := 779) (a := 0) w3251 g0 (wsh_s _) (by omega) (wty_s _ _) (by omega) (by omega) rfl (fun b3257 b3258 => ?_))
  refine wl_of hX hb cL_779 (rw_aload_n (pc' := 780) (v := .ref 0) rfl rfl rfl ?_)
  refine wl_of hX hb cL_780 (rw_iload (pc' := 782) (z := i) rfl rfl ?_)
  refine wl_of hX hb cL_782 (rw_iconst (pc' := 783) rfl ?_)
  refine wl_of hX hb cL_783 (rw_iadd (pc' := 784) rfl ?_)
  have k3262 : H3247 0 ((i + 2).toNat) = H 0 ((i + 2).toNat) := (f3252 0 ((i + 2).toNat) _ g0 (wmem_s rfl))
  refine wl_of hX hb cL_784 (xa_I (so := 0) (pc' := 785) (a := 0) w3251 g0 (wsh_s _) (by omega) (wty_s _ _) (by omega) (by omega) rfl (fun b3260 b3261 => ?_))
  have k3263 : wKI H3247 m = wKI H m := (wKI_fr hW gm f3252 rfl)
  have k3264 : H3247 x 9 = H x 9 := (f3252 x 9 _ gx rfl)
  have k3265 : H3247 m 6 = H m 6 := (f3252 m 6 _ gm rfl)
  have k3266 : H3247 x 11 = H x 11 := (f3252 x 11 _ gx rfl)
  have k3267 : H3247 m 13 = H m 13 := (f3252 m 13 _ gm rfl)
  have k3268 : H3247 x 8 = H x 8 := (f3252 x 8 _ gx rfl)
  have k3269 : H3247 m 3 = H m 3 := (f3252 m 3 _ gm rfl)
  rw [show H3247 0 ((i + 2).toNat) = H 0 ((i + 2).toNat) by omega]
  rw [show H3247 0 ((i + 1).toNat) = H 0 ((i + 1).toNat) by omega]
  have h3270 : RB T H3247 m e8 d8 := (RB_fr hW gm f3252 rfl hrb8)
  have h3271 : KNN T H3247 m e8 d8 := (KNN_fr hW gm f3252 rfl hknn8)
  refine wl_of hX hb cL_785 (xc_V (pc' := 788) (r := m) (as := [vI (H 0 ((i + 1).toNat)), vI (H 0 ((i + 2).toNat))]) (st := []) (lm_11_104) rfl rfl (Nat.le_of_ble_eq_true rfl) w3251 gm sh_42 (by decide) rfl (by decide) (u_250 (e := e8) (d := d8) w3251 gm ⟨by omega, by omega⟩ ⟨by omega, by omega⟩ (by omega) (by assumption) (by assumption) (by assumption) (by assumption) h3270 h3271) (fun R3272 T3273 H3274 p3275 => ?_))
  obtain ⟨e3276, w3278, f3279, z3280, e3277, b3281, p3282⟩ := p3275
  subst e3276
  subst e3277
  obtain ⟨a3283, a3284⟩ := p3282
  show WL _ _ _ _ 788 [(4, vI i), (3, .ref o), (2, .ref m), (1, .ref x), (0, .ref 0)] [vI z3280] _ H3274
  refine wl_of hX hb cL_788 (rw_pop (pc' := 789) rfl rfl ?_)
  refine wl_of hX hb cL_789 (rw_goto (p1 := 1653) (by decide) ?_)
  have k3285 : H3274 x 9 = H3247 x 9 := (f3279 x 9 _ gx rfl)
  have k3286 : H3274 m 6 = H3247 m 6 := (f3279 m 6 _ gm rfl)
  have k3287 : H3274 x 11 = H3247 x 11 := (f3279 x 11 _ gx rfl)
  have k3288 : H3274 m 13 = H3247 m 13 := (f3279 m 13 _ gm rfl)
  have k3289 : H3274 x 8 = H3247 x 8 := (f3279 x 8 _ gx rfl)
  have k3290 : H3274 m 3 = H3247 m 3 := (f3279 m 3 _ gm rfl)
  have k3291 : H3274 x 0 = H x 0 := ((f3279 x 0 _ gx rfl).trans (f3252 x 0 _ gx rfl))
  have q3292 : H3274 x 0 = (tc : Int) := k3291.trans e0
  have k3293 : H3274 m 5 = H m 5 := ((f3279 m 5 _ gm rfl).trans (f3252 m 5 _ gm rfl))
  have q3294 : H3274 m 5 = (tm : Int) := k3293.trans em
  have k3295 : H3274 x 6 = H x 6 := ((f3279 x 6 _ gx rfl).trans (f3252 x 6 _ gx rfl))
  have q3296 : H3274 x 6 = (cu : Int) := k3295.trans ecu
  have k3297 : H3274 x 7 = H x 7 := ((f3279 x 7 _ gx rfl).trans (f3252 x 7 _ gx rfl))
  have q3298 : H3274 x 7 = (dr : Int) := k3297.trans edr
  have h3299 : CEN T H3274 ce8 e8 d8 := (CEN_fr w3251 gce8 f3279 rfl p3255)
  have h3300 : TP T H3274 tc B := (TP_fr w3251 gtc f3279 rfl (TP_fr hW gtc f3252 rfl htc))
  have h3301 : TM T H3274 tm B := (TM_fr w3251 gtm f3279 rfl (TM_fr hW gtm f3252 rfl htm))
  have h3302 : DD T H3274 cu  := (DD_fr w3251 gcu f3279 rfl (DD_fr hW gcu f3252 rfl hcu))
  have h3303 : DD T H3274 dr  := (DD_fr w3251 gdr f3279 rfl (DD_fr hW gdr f3252 rfl hdr))
  have h3304 : DE T H3274 cu  := (DE_fr w3251 gcu f3279 rfl (DE_fr hW gcu f3252 rfl hdec))
  have h3305 : DE T H3274 dr  := (DE_fr w3251 gdr f3279 rfl (DE_fr hW gdr f3252 rfl hded))
  have h3306 : SP T H3274 x C8 := (SP_fr w3251 gx f3279 rfl (SP_fr hW gx f3252 rfl hsp))
  have h3307 : CU T H3274 cu e8 d8 n8 := (CU_fr w3251 gcu f3279 rfl (CU_fr hW gcu f3252 rfl hcu8))
  have h3308 : CY T H3274 cu (d8 0 3) g8 (H cu 17) := (CY_fr w3251 gcu f3279 rfl (CY_fr hW gcu f3252 rfl h3240))
  have k3309 : H3274 x 3 = H x 3 := ((f3279 x 3 _ gx rfl).trans (f3252 x 3 _ gx rfl))
  have q3310 : H3274 x 3 = (ce8 : Int) := k3309.trans ece8
  have h3311 : HDR T H3274 ce8  := (HDR_fr w3251 gce8 f3279 rfl (HDR_fr hW gce8 f3252 rfl hhdr8))
  have h3312 : RY T H3274 m (d8 0 3) g8 (H m 32) := (RY_fr w3251 gm f3279 rfl (RY_fr hW gm f3252 rfl h3241))
  have h3313 : RB T H3274 m e8 d8 := (RB_fr w3251 gm f3279 rfl h3270)
  exact WL.loc hX (by simp) (next T H3274 ⟨⟨w3278, g0, gx, gm, go, by omega, by omega⟩, ⟨_, tc, tm, cu, dr, _, _, _, _, _, ce8, q3292, gtc, h3300, q3294, gtm, h3301, q3296, gcu, q3298, gdr, h3302, h3303, h3304, h3305, h3306, hC1, hC2, h3307, h3313, (h3308).1, (h3312).1, hE, hZ, (by omega), (by assumption), (by omega), (by first | assumption | exact SG_0), q3310, gce8, h3299, h3311, a3284, gm⟩, by omega, by omega⟩ (by omega) (by omega))
set_option maxHeartbeats 4000000 in
theorem wl_c20 {kt : Nat → Option mc_E} {CB SB : Nat} {X : mc_S → Prop} {T : wq_T} {H : wq_H} {Len x m o : Nat} {i : Int} (hX : wlX kt CB SB X) (hb : T.2.1 ≤ CB ∧ T.2.2.1 ≤ SB) (hI : wlJ Len x m o T H) (hL : Len ≤ 3072) (hi : 0 ≤ i ∧ i + 6 ≤ Len) (hb2 : T.2.1 + 20 ≤ CB ∧ T.2.2.1 + 500 ≤ SB)  (next : ∀ T' H', wlJ Len x m o T' H' → T'.2.1 ≤ T.2.1 + 20 → T'.2.2.1 ≤ T.2.2.1 + 500 → WL kt CB SB X 1653 (wlL i x m o) [] T' H') : WL kt CB SB X 792 (wlL i x m o) [] T H := by
  obtain ⟨⟨hW, g0, gx, gm, go, hK, hr⟩, hXI, hY1, hY2⟩ := hI
  refine wl_of hX hb cL_792 (rw_aload_n (pc' := 793) (v := .ref x) rfl rfl rfl ?_)
  refine wl_of hX hb cL_793 (rw_aload_n (pc' := 794) (v := .ref 0) rfl rfl rfl ?_)
  refine wl_of hX hb cL_794 (rw_iload (pc' := 796) (z := i) rfl rfl ?_)
  refine wl_of hX hb cL_796 (rw_iconst (pc' := 797) rfl ?_)
  refine wl_of hX hb cL_797 (rw_iadd (pc' := 798) rfl ?_)
  refine wl_of hX hb cL_798 (xa_I (so := 0) (pc' := 799) (a := 0) hW g0 (wsh_s _) (by omega) (wty_s _ _) (by omega) (by omega) rfl (fun b3314 b3315 => ?_))
  refine wl_of hX hb cL_799 (rw_aload_n (pc' := 800) (v := .ref 0) rfl rfl rfl ?_)
  refine wl_of hX hb cL_800 (rw_iload (pc' := 802) (z := i) rfl rfl ?_)
  refine wl_of hX hb cL_802 (rw_iconst (pc' := 803) rfl ?_)
  refine wl_of hX hb cL_803 (rw_iadd (pc' := 804) rfl ?_)
  refine wl_of hX hb cL_804 (xa_I (so := 0) (pc' := 805) (a := 0) hW g0 (wsh_s _) (by omega) (wty_s _ _) (by omega) (by omega) rfl (fun b3316 b3317 => ?_))
  obtain ⟨B, tc, tm, cu, dr, C8, e8, d8, n8, g8, ce8, e0, gtc, htc, em, gtm, htm, ecu, gcu, edr, gdr, hcu, hdr, hdec, hded, hsp, hC1, hC2, hcu8, hrb8, hcg8, hmn8, hE, hZ, hn8, hXA, hV8, hSG, ece8, gce8, hcen8, hhdr8, hknn8, -⟩ := hXI
  have hN3 := RB_n3 hrb8
  have hE13 : ∀ h : Nat, h < 24 → 0 ≤ e8 13 h ∧ e8 13 h ≤ 100 := fun k hk => by
    obtain ⟨s, h1, h2, h3⟩ := hcu8.1.2.2.1
    exact ⟨(h3 k hk).1, (h3 k hk).2.1⟩
  have hXW := hXA.1
  have hXN := hXA.2
  have hE0 : e8 0 3 = d8 0 3 ∧ e8 0 0 = d8 0 0 := by
    have h := hE 0 (by decide)
    exact ⟨congrFun h 3, congrFun h 0⟩
  have u3318 := CU_k hcu8
  have h3319 : CY T H cu (d8 0 3) g8 (H cu 17) := ⟨hcg8, rfl⟩
  have h3320 : RY T H m (d8 0 3) g8 (H m 32) := ⟨hmn8, rfl⟩
  obtain ⟨t9, ht9⟩ : ∃ t : Int, t = H x 9 := ⟨_, rfl⟩
  obtain ⟨y9, hy9⟩ : ∃ y : Int, y = H 0 ((i + 2).toNat) := ⟨_, rfl⟩
  obtain ⟨r3321, q3322, g3323⟩ := hW.ref gx (t' := 6) (n := 13) (j := 2) (p := 0) (q := 0) rfl (by decide) rfl
  refine wl_of hX hb cL_805 (xc_V (pc' := 808) (r := x) (as := [vI (H 0 ((i + 1).toNat)), vI (H 0 ((i + 2).toNat))]) (st := []) (lm_11_105) rfl rfl (Nat.le_of_ble_eq_true rfl) hW gx sh_1 (by decide) rfl (by decide) (u_101 (e := e8) (d := d8) (n := n8) hW gx ⟨by omega, by omega⟩ ⟨by omega, by omega⟩ ecu gcu q3322 g3323 ece8 gce8 (by assumption) (by assumption) (by omega) (by omega) (by omega) (by omega) hcu8 hcen8 hhdr8) (fun R3324 T3325 H3326 p3327 => ?_))
  obtain ⟨e3328, w3330, f3331, z3332, e3329, b3333, p3334⟩ := p3327
  subst e3328
  subst e3329
  show WL _ _ _ _ 808 [(4, vI i), (3, .ref o), (2, .ref m), (1, .ref x), (0, .ref 0)] [vI z3332] _ H3326
  refine wl_of hX hb cL_808 (rw_pop (pc' := 809) rfl rfl ?_)
  refine wl_of hX hb cL_809 (rw_aload_n (pc' := 810) (v := .ref m) rfl rfl rfl ?_)
  refine wl_of hX hb cL_810 (rw_aload_n (pc' := 811) (v := .ref 0) rfl rfl rfl ?_)
  refine wl_of hX hb cL_811 (rw_iload (pc' := 813) (z := i) rfl rfl ?_)
  refine wl_of hX hb cL_813 (rw_iconst (pc' := 814) rfl ?_)
  refine wl_of hX hb cL_814 (rw_iadd (pc' := 815) rfl ?_)
  have k3338 : H3326 0 ((i + 1).toNat) = H 0 ((i + 1).toNat) := (f3331 0 ((i + 1).toNat) _ g0 (wmem_s rfl))
  refine wl_of hX hb cL_815 (xa_I (so := 0) (pc' := 816) (a := 0) w3330 g0 (wsh_s _) (by omega) (wty_s _ _) (by omega) (by omega) rfl (fun b3336 b3337 => ?_))
  refine wl_of hX hb cL_816 (rw_aload_n (pc' := 817) (v := .ref 0) rfl rfl rfl ?_)
  refine wl_of hX hb cL_817 (rw_iload (pc' := 819) (z := i) rfl rfl ?_)
  refine wl_of hX hb cL_819 (rw_iconst (pc' := 820) rfl ?_)
  refine wl_of hX hb cL_820 (rw_iadd (pc' := 821) rfl ?_)
  have k3341 : H3326 0 ((i + 2).toNat) = H 0 ((i + 2).toNat) := (f3331 0 ((i + 2).toNat) _ g0 (wmem_s rfl))
  refine wl_of hX hb cL_821 (xa_I (so := 0) (pc' := 822) (a := 0) w3330 g0 (wsh_s _) (by omega) (wty_s _ _) (by omega) (by omega) rfl (fun b3339 b3340 => ?_))
  have k3342 : wKI H3326 m = wKI H m := (wKI_fr hW gm f3331 rfl)
  have k3343 : H3326 x 9 = H x 9 := (f3331 x 9 _ gx rfl)
  have k3344 : H3326 m 6 = H m 6 := (f3331 m 6 _ gm rfl)
  have k3345 : H3326 x 11 = H x 11 := (f3331 x 11 _ gx rfl)
  have k3346 : H3326 m 13 = H m 13 := (f3331 m 13 _ gm rfl)
  have k3347 : H3326 x 8 = H x 8 := (f3331 x 8 _ gx rfl)
  have k3348 : H3326 m 3 = H m 3 := (f3331 m 3 _ gm rfl)
  rw [show H3326 0 ((i + 2).toNat) = H 0 ((i + 2).toNat) by omega]
  rw [show H3326 0 ((i + 1).toNat) = H 0 ((i + 1).toNat) by omega]
  have h3349 : RB T H3326 m e8 d8 := (RB_fr hW gm f3331 rfl hrb8)
  have h3350 : KNN T H3326 m e8 d8 := (KNN_fr hW gm f3331 rfl hknn8)
  refine wl_of hX hb cL_822 (xc_V (pc' := 825) (r := m) (as := [vI (H 0 ((i + 1).toNat)), vI (H 0 ((i + 2).toNat))]) (st := []) (lm_11_108) rfl rfl (Nat.le_of_ble_eq_true rfl) w3330 gm sh_42 (by decide) rfl (by decide) (u_252 (e := e8) (d := d8) w3330 gm ⟨by omega, by omega⟩ ⟨by omega, by omega⟩ (by omega) (by assumption) (by assumption) (by assumption) (by assumption) h3349 h3350) (fun R3351 T3352 H3353 p3354 => ?_))
  obtain ⟨e3355, w3357, f3358, z3359, e3356, b3360, p3361⟩ := p3354
  subst e3355
  subst e3356
  obtain ⟨a3362, a3363⟩ := p3361
  show WL _ _ _ _ 825 [(4, vI i), (3, .ref o), (2, .ref m), (1, .ref x), (0, .ref 0)] [vI z3359] _ H3353
  refine wl_of hX hb cL_825 (rw_pop (pc' := 826) rfl rfl ?_)
  refine wl_of hX hb cL_826 (rw_goto (p1 := 1653) (by decide) ?_)
  have k3364 : H3353 x 9 = H3326 x 9 := (f3358 x 9 _ gx rfl)
  have k3365 : H3353 m 6 = H3326 m 6 := (f3358 m 6 _ gm rfl)
  have k3366 : H3353 x 11 = H3326 x 11 := (f3358 x 11 _ gx rfl)
  have k3367 : H3353 m 13 = H3326 m 13 := (f3358 m 13 _ gm rfl)
  have k3368 : H3353 x 8 = H3326 x 8 := (f3358 x 8 _ gx rfl)
  have k3369 : H3353 m 3 = H3326 m 3 := (f3358 m 3 _ gm rfl)
  have k3370 : H3353 x 0 = H x 0 := ((f3358 x 0 _ gx rfl).trans (f3331 x 0 _ gx rfl))
  have q3371 : H3353 x 0 = (tc : Int) := k3370.trans e0
  have k3372 : H3353 m 5 = H m 5 := ((f3358 m 5 _ gm rfl).trans (f3331 m 5 _ gm rfl))
  have q3373 : H3353 m 5 = (tm : Int) := k3372.trans em
  have k3374 : H3353 x 6 = H x 6 := ((f3358 x 6 _ gx rfl).trans (f3331 x 6 _ gx rfl))
  have q3375 : H3353 x 6 = (cu : Int) := k3374.trans ecu
  have k3376 : H3353 x 7 = H x 7 := ((f3358 x 7 _ gx rfl).trans (f3331 x 7 _ gx rfl))
  have q3377 : H3353 x 7 = (dr : Int) := k3376.trans edr
  have h3378 : CEN T H3353 ce8 e8 d8 := (CEN_fr w3330 gce8 f3358 rfl p3334)
  have h3379 : TP T H3353 tc B := (TP_fr w3330 gtc f3358 rfl (TP_fr hW gtc f3331 rfl htc))
  have h3380 : TM T H3353 tm B := (TM_fr w3330 gtm f3358 rfl (TM_fr hW gtm f3331 rfl htm))
  have h3381 : DD T H3353 cu  := (DD_fr w3330 gcu f3358 rfl (DD_fr hW gcu f3331 rfl hcu))
  have h3382 : DD T H3353 dr  := (DD_fr w3330 gdr f3358 rfl (DD_fr hW gdr f3331 rfl hdr))
  have h3383 : DE T H3353 cu  := (DE_fr w3330 gcu f3358 rfl (DE_fr hW gcu f3331 rfl hdec))
  have h3384 : DE T H3353 dr  := (DE_fr w3330 gdr f3358 rfl (DE_fr hW gdr f3331 rfl hded))
  have h3385 : SP T H3353 x C8 := (SP_fr w3330 gx f3358 rfl (SP_fr hW gx f3331 rfl hsp))
  have h3386 : CU T H3353 cu e8 d8 n8 := (CU_fr w3330 gcu f3358 rfl (CU_fr hW gcu f3331 rfl hcu8))
  have h3387 : CY T H3353 cu (d8 0 3) g8 (H cu 17) := (CY_fr w3330 gcu f3358 rfl (CY_fr hW gcu f3331 rfl h3319))
  have k3388 : H3353 x 3 = H x 3 := ((f3358 x 3 _ gx rfl).trans (f3331 x 3 _ gx rfl))
  have q3389 : H3353 x 3 = (ce8 : Int) := k3388.trans ece8
  have h3390 : HDR T H3353 ce8  := (HDR_fr w3330 gce8 f3358 rfl (HDR_fr hW gce8 f3331 rfl hhdr8))
  have h3391 : RY T H3353 m (d8 0 3) g8 (H m 32) := (RY_fr w3330 gm f3358 rfl (RY_fr hW gm f3331 rfl h3320))
  have h3392 : RB T H3353 m e8 d8 := (RB_fr w3330 gm f3358 rfl h3349)
  exact WL.loc hX (by simp) (next T H3353 ⟨⟨w3357, g0, gx, gm, go, by omega, by omega⟩, ⟨_, tc, tm, cu, dr, _, _, _, _, _, ce8, q3371, gtc, h3379, q3373, gtm, h3380, q3375, gcu, q3377, gdr, h3381, h3382, h3383, h3384, h3385, hC1, hC2, h3386, h3392, (h3387).1, (h3391).1, hE, hZ, (by omega), (by assumption), (by omega), (by first | assumption | exact SG_0), q3389, gce8, h3378, h3390, a3363, gm⟩, by omega, by omega⟩ (by omega) (by omega))
set_option maxHeartbeats 4000000 in
theorem wl_c21 {kt : Nat → Option mc_E} {CB SB : Nat} {X : mc_S → Prop} {T : wq_T} {H : wq_H} {Len x m o : Nat} {i : Int} (hX : wlX kt CB SB X) (hb : T.2.1 ≤ CB ∧ T.2.2.1 ≤ SB) (hI : wlJ Len x m o T H) (hL : Len ≤ 3072) (hi : 0 ≤ i ∧ i + 6 ≤ Len) (hb2 : T.2.1 + 20 ≤ CB ∧ T.2.2.1 + 500 ≤ SB)  (next : ∀ T' H', wlJ Len x m o T' H' → T'.2.1 ≤ T.2.1 + 20 → T'.2.2.1 ≤ T.2.2.1 + 500 → WL kt CB SB X 1653 (wlL i x m o) [] T' H') : WL kt CB SB X 829 (wlL i x m o) [] T H := by
  obtain ⟨⟨hW, g0, gx, gm, go, hK, hr⟩, hXI, hY1, hY2⟩ := hI
  refine wl_of hX hb cL_829 (rw_aload_n (pc' := 830) (v := .ref x) rfl rfl rfl ?_)
  refine wl_of hX hb cL_830 (rw_aload_n (pc' := 831) (v := .ref 0) rfl rfl rfl ?_)
  refine wl_of hX hb cL_831 (rw_iload (pc' := 833) (z := i) rfl rfl ?_)
  refine wl_of hX hb cL_833 (rw_iconst (pc' := 834) rfl ?_)
  refine wl_of hX hb cL_834 (rw_iadd (pc' := 835) rfl ?_)
  refine wl_of hX hb cL_835 (xa_I (so := 0) (pc' := 836) (a := 0) hW g0 (wsh_s _) (by omega) (wty_s _ _) (by omega) (by omega) rfl (fun b3393 b3394 => ?_))
  refine wl_of hX hb cL_836 (rw_aload_n (pc' := 837) (v := .ref 0) rfl rfl rfl ?_)
  refine wl_of hX hb cL_837 (rw_iload (pc' := 839) (z := i) rfl rfl ?_)
  refine wl_of hX hb cL_839 (rw_iconst (pc' := 840) rfl ?_)
  refine wl_of hX hb cL_840 (rw_iadd (pc' := 841) rfl ?_)
  refine wl_of hX hb cL_841 (xa_I (so := 0) (pc' := 842) (a := 0) hW g0 (wsh_s _) (by omega) (wty_s _ _) (by omega) (by omega) rfl (fun b3395 b3396 => ?_))
  refine wl_of hX hb cL_842 (rw_if_eq (p1 := 849) (p2 := 845) (by decide) rfl ⟨by omega, by omega⟩ (fun c3397 => ?_) (fun c3397 => ?_))
  · refine wl_of hX hb cL_849 (rw_iconst (pc' := 850) rfl ?_)
    obtain ⟨B, tc, tm, cu, dr, C8, e8, d8, n8, g8, ce8, e0, gtc, htc, em, gtm, htm, ecu, gcu, edr, gdr, hcu, hdr, hdec, hded, hsp, hC1, hC2, hcu8, hrb8, hcg8, hmn8, hE, hZ, hn8, hXA, hV8, hSG, ece8, gce8, hcen8, hhdr8, hknn8, -⟩ := hXI
    have hN3 := RB_n3 hrb8
    have hE13 : ∀ h : Nat, h < 24 → 0 ≤ e8 13 h ∧ e8 13 h ≤ 100 := fun k hk => by
      obtain ⟨s, h1, h2, h3⟩ := hcu8.1.2.2.1
      exact ⟨(h3 k hk).1, (h3 k hk).2.1⟩
    have hXW := hXA.1
    have hXN := hXA.2
    have hE0 : e8 0 3 = d8 0 3 ∧ e8 0 0 = d8 0 0 := by
      have h := hE 0 (by decide)
      exact ⟨congrFun h 3, congrFun h 0⟩
    have u3398 := CU_k hcu8
    have h3399 : CY T H cu (d8 0 3) g8 (H cu 17) := ⟨hcg8, rfl⟩
    have h3400 : RY T H m (d8 0 3) g8 (H m 32) := ⟨hmn8, rfl⟩
    obtain ⟨t9, ht9⟩ : ∃ t : Int, t = H x 9 := ⟨_, rfl⟩
    obtain ⟨y9, hy9⟩ : ∃ y : Int, y = 0 := ⟨_, rfl⟩
    obtain ⟨r3401, q3402, g3403⟩ := hW.ref gx (t' := 6) (n := 13) (j := 2) (p := 0) (q := 0) rfl (by decide) rfl
    refine wl_of hX hb cL_850 (xc_V (pc' := 853) (r := x) (as := [vI (H 0 ((i + 1).toNat)), vI 0]) (st := []) (lm_11_109) rfl rfl (Nat.le_of_ble_eq_true rfl) hW gx sh_1 (by decide) rfl (by decide) (u_104 (e := e8) (d := d8) (n := n8) hW gx ⟨by omega, by omega⟩ ⟨by decide, by decide⟩ ecu gcu q3402 g3403 ece8 gce8 (by assumption) (by assumption) (by omega) (by omega) (by omega) (by omega) hcu8 hcen8 hhdr8) (fun R3404 T3405 H3406 p3407 => ?_))
    obtain ⟨e3408, w3410, f3411, z3412, e3409, b3413, p3414⟩ := p3407
    subst e3408
    subst e3409
    rcases p3414 with ⟨a3415, a3416, a3417⟩ | ⟨a3418, a3419, a3420⟩
    · show WL _ _ _ _ 853 [(4, vI i), (3, .ref o), (2, .ref m), (1, .ref x), (0, .ref 0)] [vI z3412] _ H3406
      refine wl_of hX hb cL_853 (rw_aload_n (pc' := 854) (v := .ref m) rfl rfl rfl ?_)
      refine wl_of hX hb cL_854 (rw_aload_n (pc' := 855) (v := .ref 0) rfl rfl rfl ?_)
      refine wl_of hX hb cL_855 (rw_iload (pc' := 857) (z := i) rfl rfl ?_)
      refine wl_of hX hb cL_857 (rw_iconst (pc' := 858) rfl ?_)
      refine wl_of hX hb cL_858 (rw_iadd (pc' := 859) rfl ?_)
      have k3423 : H3406 0 ((i + 1).toNat) = H 0 ((i + 1).toNat) := (f3411 0 ((i + 1).toNat) _ g0 (wmem_s rfl))
      refine wl_of hX hb cL_859 (xa_I (so := 0) (pc' := 860) (a := 0) w3410 g0 (wsh_s _) (by omega) (wty_s _ _) (by omega) (by omega) rfl (fun b3421 b3422 => ?_))
      refine wl_of hX hb cL_860 (rw_aload_n (pc' := 861) (v := .ref 0) rfl rfl rfl ?_)
      refine wl_of hX hb cL_861 (rw_iload (pc' := 863) (z := i) rfl rfl ?_)
      refine wl_of hX hb cL_863 (rw_iconst (pc' := 864) rfl ?_)
      refine wl_of hX hb cL_864 (rw_iadd (pc' := 865) rfl ?_)
      have k3426 : H3406 0 ((i + 2).toNat) = H 0 ((i + 2).toNat) := (f3411 0 ((i + 2).toNat) _ g0 (wmem_s rfl))
      refine wl_of hX hb cL_865 (xa_I (so := 0) (pc' := 866) (a := 0) w3410 g0 (wsh_s _) (by omega) (wty_s _ _) (by omega) (by omega) rfl (fun b3424 b3425 => ?_))
      refine wl_of hX hb cL_866 (rw_if_eq (p1 := 873) (p2 := 869) (by decide) rfl ⟨by omega, by omega⟩ (fun c3427 => ?_) (fun c3427 => ?_))
      · refine wl_of hX hb cL_873 (rw_iconst (pc' := 874) rfl ?_)
        have k3428 : wKI H3406 m = wKI H m := (wKI_fr hW gm f3411 rfl)
        have k3429 : H3406 x 9 = H x 9 := (f3411 x 9 _ gx rfl)
        have k3430 : H3406 m 6 = H m 6 := (f3411 m 6 _ gm rfl)
        have k3431 : H3406 x 11 = H x 11 := (f3411 x 11 _ gx rfl)
        have k3432 : H3406 m 13 = H m 13 := (f3411 m 13 _ gm rfl)
        have k3433 : H3406 x 8 = H x 8 := (f3411 x 8 _ gx rfl)
        have k3434 : H3406 m 3 = H m 3 := (f3411 m 3 _ gm rfl)
        rw [show H3406 0 ((i + 1).toNat) = H 0 ((i + 1).toNat) by omega]
        have h3435 : RB T H3406 m e8 d8 := (RB_fr hW gm f3411 rfl hrb8)
        have h3436 : KNN T H3406 m e8 d8 := (KNN_fr hW gm f3411 rfl hknn8)
        refine wl_of hX hb cL_874 (xc_V (pc' := 877) (r := m) (as := [vI (H 0 ((i + 1).toNat)), vI 0]) (st := [vI z3412]) (lm_11_113) rfl rfl (Nat.le_of_ble_eq_true rfl) w3410 gm sh_42 (by decide) rfl (by decide) (u_254 (e := e8) (d := d8) w3410 gm ⟨by omega, by omega⟩ ⟨by decide, by decide⟩ (by omega) (by assumption) (by assumption) (by assumption) (by assumption) h3435 h3436) (fun R3437 T3438 H3439 p3440 => ?_))
        obtain ⟨e3441, w3443, f3444, z3445, e3442, b3446, p3447⟩ := p3440
        subst e3441
        subst e3442
        rcases p3447 with ⟨a3448, a3449, a3450, a3451⟩ | ⟨a3452, a3453, a3454, a3455⟩
        · show WL _ _ _ _ 877 [(4, vI i), (3, .ref o), (2, .ref m), (1, .ref x), (0, .ref 0)] [vI z3445, vI z3412] _ H3439
          refine wl_of hX hb cL_877 (rw_icmp_eq (p1 := 1653) (p2 := 880) (by decide) rfl ⟨b3413.1, b3413.2⟩ ⟨b3446.1, b3446.2⟩ (fun c3456 => ?_) (fun c3456 => ?_))
          · have k3457 : H3439 x 9 = H3406 x 9 := (f3444 x 9 _ gx rfl)
            have k3458 : H3439 m 6 = H3406 m 6 := (f3444 m 6 _ gm rfl)
            have k3459 : H3439 x 11 = H3406 x 11 := (f3444 x 11 _ gx rfl)
            have k3460 : H3439 m 13 = H3406 m 13 := (f3444 m 13 _ gm rfl)
            have k3461 : H3439 x 8 = H3406 x 8 := (f3444 x 8 _ gx rfl)
            have k3462 : H3439 m 3 = H3406 m 3 := (f3444 m 3 _ gm rfl)
            have k3463 : H3439 x 0 = H x 0 := ((f3444 x 0 _ gx rfl).trans (f3411 x 0 _ gx rfl))
            have q3464 : H3439 x 0 = (tc : Int) := k3463.trans e0
            have k3465 : H3439 m 5 = H m 5 := ((f3444 m 5 _ gm rfl).trans (f3411 m 5 _ gm rfl))
            have q3466 : H3439 m 5 = (tm : Int) := k3465.trans em
            have k3467 : H3439 x 6 = H x 6 := ((f3444 x 6 _ gx rfl).trans (f3411 x 6 _ gx rfl))
            have q3468 : H3439 x 6 = (cu : Int) := k3467.trans ecu
            have k3469 : H3439 x 7 = H x 7 := ((f3444 x 7 _ gx rfl).trans (f3411 x 7 _ gx rfl))
            have q3470 : H3439 x 7 = (dr : Int) := k3469.trans edr
            have h3471 : CEN T H3439 ce8 e8 d8 := (CEN_fr w3410 gce8 f3444 rfl a3417)
            have h3472 : TP T H3439 tc B := (TP_fr w3410 gtc f3444 rfl (TP_fr hW gtc f3411 rfl htc))
            have h3473 : TM T H3439 tm B := (TM_fr w3410 gtm f3444 rfl (TM_fr hW gtm f3411 rfl htm))
            have h3474 : DD T H3439 cu  := (DD_fr w3410 gcu f3444 rfl (DD_fr hW gcu f3411 rfl hcu))
            have h3475 : DD T H3439 dr  := (DD_fr w3410 gdr f3444 rfl (DD_fr hW gdr f3411 rfl hdr))
            have h3476 : DE T H3439 cu  := (DE_fr w3410 gcu f3444 rfl (DE_fr hW gcu f3411 rfl hdec))
            have h3477 : DE T H3439 dr  := (DE_fr w3410 gdr f3444 rfl (DE_fr hW gdr f3411 rfl hded))
            have h3478 : SP T H3439 x C8 := (SP_fr w3410 gx f3444 rfl (SP_fr hW gx f3411 rfl hsp))
            have h3479 : CU T H3439 cu e8 d8 n8 := (CU_fr w3410 gcu f3444 rfl (CU_fr hW gcu f3411 rfl hcu8))
            have h3480 : CY T H3439 cu (d8 0 3) g8 (H cu 17) := (CY_fr w3410 gcu f3444 rfl (CY_fr hW gcu f3411 rfl h3399))
            have k3481 : H3439 x 3 = H x 3 := ((f3444 x 3 _ gx rfl).trans (f3411 x 3 _ gx rfl))
            have q3482 : H3439 x 3 = (ce8 : Int) := k3481.trans ece8
            have h3483 : HDR T H3439 ce8  := (HDR_fr w3410 gce8 f3444 rfl (HDR_fr hW gce8 f3411 rfl hhdr8))
            have h3484 : RY T H3439 m (d8 0 3) g8 (H m 32) := (RY_fr w3410 gm f3444 rfl (RY_fr hW gm f3411 rfl h3400))
            have h3485 : RB T H3439 m e8 d8 := (RB_fr w3410 gm f3444 rfl h3435)
            exact WL.loc hX (by simp) (next T H3439 ⟨⟨w3443, g0, gx, gm, go, by omega, by omega⟩, ⟨_, tc, tm, cu, dr, _, _, _, _, _, ce8, q3464, gtc, h3472, q3466, gtm, h3473, q3468, gcu, q3470, gdr, h3474, h3475, h3476, h3477, h3478, hC1, hC2, h3479, h3485, (h3480).1, (h3484).1, hE, hZ, (by omega), (by assumption), (by omega), (by first | assumption | exact SG_0), q3482, gce8, h3471, h3483, a3451, gm⟩, by omega, by omega⟩ (by omega) (by omega))
          · exfalso
            omega
        · show WL _ _ _ _ 877 [(4, vI i), (3, .ref o), (2, .ref m), (1, .ref x), (0, .ref 0)] [vI z3445, vI z3412] _ H3439
          refine wl_of hX hb cL_877 (rw_icmp_eq (p1 := 1653) (p2 := 880) (by decide) rfl ⟨b3413.1, b3413.2⟩ ⟨b3446.1, b3446.2⟩ (fun c3486 => ?_) (fun c3486 => ?_))
          · have k3487 : H3439 x 9 = H3406 x 9 := (f3444 x 9 _ gx rfl)
            have k3488 : H3439 m 6 = H3406 m 6 := (f3444 m 6 _ gm rfl)
            have k3489 : H3439 x 11 = H3406 x 11 := (f3444 x 11 _ gx rfl)
            have k3490 : H3439 m 13 = H3406 m 13 := (f3444 m 13 _ gm rfl)
            have k3491 : H3439 x 8 = H3406 x 8 := (f3444 x 8 _ gx rfl)
            have k3492 : H3439 m 3 = H3406 m 3 := (f3444 m 3 _ gm rfl)
            have k3493 : H3439 x 0 = H x 0 := ((f3444 x 0 _ gx rfl).trans (f3411 x 0 _ gx rfl))
            have q3494 : H3439 x 0 = (tc : Int) := k3493.trans e0
            have k3495 : H3439 m 5 = H m 5 := ((f3444 m 5 _ gm rfl).trans (f3411 m 5 _ gm rfl))
            have q3496 : H3439 m 5 = (tm : Int) := k3495.trans em
            have k3497 : H3439 x 6 = H x 6 := ((f3444 x 6 _ gx rfl).trans (f3411 x 6 _ gx rfl))
            have q3498 : H3439 x 6 = (cu : Int) := k3497.trans ecu
            have k3499 : H3439 x 7 = H x 7 := ((f3444 x 7 _ gx rfl).trans (f3411 x 7 _ gx rfl))
            have q3500 : H3439 x 7 = (dr : Int) := k3499.trans edr
            have h3501 : CEN T H3439 ce8 e8 d8 := (CEN_fr w3410 gce8 f3444 rfl a3417)
            have h3502 : TP T H3439 tc B := (TP_fr w3410 gtc f3444 rfl (TP_fr hW gtc f3411 rfl htc))
            have h3503 : TM T H3439 tm B := (TM_fr w3410 gtm f3444 rfl (TM_fr hW gtm f3411 rfl htm))
            have h3504 : DD T H3439 cu  := (DD_fr w3410 gcu f3444 rfl (DD_fr hW gcu f3411 rfl hcu))
            have h3505 : DD T H3439 dr  := (DD_fr w3410 gdr f3444 rfl (DD_fr hW gdr f3411 rfl hdr))
            have h3506 : DE T H3439 cu  := (DE_fr w3410 gcu f3444 rfl (DE_fr hW gcu f3411 rfl hdec))
            have h3507 : DE T H3439 dr  := (DE_fr w3410 gdr f3444 rfl (DE_fr hW gdr f3411 rfl hded))
            have h3508 : SP T H3439 x C8 := (SP_fr w3410 gx f3444 rfl (SP_fr hW gx f3411 rfl hsp))
            have h3509 : CU T H3439 cu e8 d8 n8 := (CU_fr w3410 gcu f3444 rfl (CU_fr hW gcu f3411 rfl hcu8))
            have h3510 : CY T H3439 cu (d8 0 3) g8 (H cu 17) := (CY_fr w3410 gcu f3444 rfl (CY_fr hW gcu f3411 rfl h3399))
            have k3511 : H3439 x 3 = H x 3 := ((f3444 x 3 _ gx rfl).trans (f3411 x 3 _ gx rfl))
            have q3512 : H3439 x 3 = (ce8 : Int) := k3511.trans ece8
            have h3513 : HDR T H3439 ce8  := (HDR_fr w3410 gce8 f3444 rfl (HDR_fr hW gce8 f3411 rfl hhdr8))
            have h3514 : RY T H3439 m (d8 0 3) g8 (H m 32) := (RY_fr w3410 gm f3444 rfl (RY_fr hW gm f3411 rfl h3400))
            have h3515 : RB T H3439 m e8 d8 := (RB_fr w3410 gm f3444 rfl h3435)
            exact WL.loc hX (by simp) (next T H3439 ⟨⟨w3443, g0, gx, gm, go, by omega, by omega⟩, ⟨_, tc, tm, cu, dr, _, _, _, _, _, ce8, q3494, gtc, h3502, q3496, gtm, h3503, q3498, gcu, q3500, gdr, h3504, h3505, h3506, h3507, h3508, hC1, hC2, h3509, h3515, (h3510).1, (h3514).1, hE, hZ, (by omega), (by assumption), (by omega), (by first | assumption | exact SG_0), q3512, gce8, h3501, h3513, a3455, gm⟩, by omega, by omega⟩ (by omega) (by omega))
          · refine wl_of hX hb cL_880 (rw_iconst (pc' := 881) rfl ?_)
            exfalso
            omega
      · exfalso
        omega
    · show WL _ _ _ _ 853 [(4, vI i), (3, .ref o), (2, .ref m), (1, .ref x), (0, .ref 0)] [vI z3412] _ H3406
      refine wl_of hX hb cL_853 (rw_aload_n (pc' := 854) (v := .ref m) rfl rfl rfl ?_)
      refine wl_of hX hb cL_854 (rw_aload_n (pc' := 855) (v := .ref 0) rfl rfl rfl ?_)
      refine wl_of hX hb cL_855 (rw_iload (pc' := 857) (z := i) rfl rfl ?_)
      refine wl_of hX hb cL_857 (rw_iconst (pc' := 858) rfl ?_)
      refine wl_of hX hb cL_858 (rw_iadd (pc' := 859) rfl ?_)
      have k3518 : H3406 0 ((i + 1).toNat) = H 0 ((i + 1).toNat) := (f3411 0 ((i + 1).toNat) _ g0 (wmem_s rfl))
      refine wl_of hX hb cL_859 (xa_I (so := 0) (pc' := 860) (a := 0) w3410 g0 (wsh_s _) (by omega) (wty_s _ _) (by omega) (by omega) rfl (fun b3516 b3517 => ?_))
      refine wl_of hX hb cL_860 (rw_aload_n (pc' := 861) (v := .ref 0) rfl rfl rfl ?_)
      refine wl_of hX hb cL_861 (rw_iload (pc' := 863) (z := i) rfl rfl ?_)
      refine wl_of hX hb cL_863 (rw_iconst (pc' := 864) rfl ?_)
      refine wl_of hX hb cL_864 (rw_iadd (pc' := 865) rfl ?_)
      have k3521 : H3406 0 ((i + 2).toNat) = H 0 ((i + 2).toNat) := (f3411 0 ((i + 2).toNat) _ g0 (wmem_s rfl))
      refine wl_of hX hb cL_865 (xa_I (so := 0) (pc' := 866) (a := 0) w3410 g0 (wsh_s _) (by omega) (wty_s _ _) (by omega) (by omega) rfl (fun b3519 b3520 => ?_))
      refine wl_of hX hb cL_866 (rw_if_eq (p1 := 873) (p2 := 869) (by decide) rfl ⟨by omega, by omega⟩ (fun c3522 => ?_) (fun c3522 => ?_))
      · refine wl_of hX hb cL_873 (rw_iconst (pc' := 874) rfl ?_)
        have k3523 : wKI H3406 m = wKI H m := (wKI_fr hW gm f3411 rfl)
        have k3524 : H3406 x 9 = H x 9 := (f3411 x 9 _ gx rfl)
        have k3525 : H3406 m 6 = H m 6 := (f3411 m 6 _ gm rfl)
        have k3526 : H3406 x 11 = H x 11 := (f3411 x 11 _ gx rfl)
        have k3527 : H3406 m 13 = H m 13 := (f3411 m 13 _ gm rfl)
        have k3528 : H3406 x 8 = H x 8 := (f3411 x 8 _ gx rfl)
        have k3529 : H3406 m 3 = H m 3 := (f3411 m 3 _ gm rfl)
        rw [show H3406 0 ((i + 1).toNat) = H 0 ((i + 1).toNat) by omega]
        have h3530 : RB T H3406 m e8 d8 := (RB_fr hW gm f3411 rfl hrb8)
        have h3531 : KNN T H3406 m e8 d8 := (KNN_fr hW gm f3411 rfl hknn8)
        refine wl_of hX hb cL_874 (xc_V (pc' := 877) (r := m) (as := [vI (H 0 ((i + 1).toNat)), vI 0]) (st := [vI z3412]) (lm_11_113) rfl rfl (Nat.le_of_ble_eq_true rfl) w3410 gm sh_42 (by decide) rfl (by decide) (u_254 (e := e8) (d := d8) w3410 gm ⟨by omega, by omega⟩ ⟨by decide, by decide⟩ (by omega) (by assumption) (by assumption) (by assumption) (by assumption) h3530 h3531) (fun R3532 T3533 H3534 p3535 => ?_))
        obtain ⟨e3536, w3538, f3539, z3540, e3537, b3541, p3542⟩ := p3535
        subst e3536
        subst e3537
        rcases p3542 with ⟨a3543, a3544, a3545, a3546⟩ | ⟨a3547, a3548, a3549, a3550⟩
        · show WL _ _ _ _ 877 [(4, vI i), (3, .ref o), (2, .ref m), (1, .ref x), (0, .ref 0)] [vI z3540, vI z3412] _ H3534
          refine wl_of hX hb cL_877 (rw_icmp_eq (p1 := 1653) (p2 := 880) (by decide) rfl ⟨b3413.1, b3413.2⟩ ⟨b3541.1, b3541.2⟩ (fun c3551 => ?_) (fun c3551 => ?_))
          · have k3552 : H3534 x 9 = H3406 x 9 := (f3539 x 9 _ gx rfl)
            have k3553 : H3534 m 6 = H3406 m 6 := (f3539 m 6 _ gm rfl)
            have k3554 : H3534 x 11 = H3406 x 11 := (f3539 x 11 _ gx rfl)
            have k3555 : H3534 m 13 = H3406 m 13 := (f3539 m 13 _ gm rfl)
            have k3556 : H3534 x 8 = H3406 x 8 := (f3539 x 8 _ gx rfl)
            have k3557 : H3534 m 3 = H3406 m 3 := (f3539 m 3 _ gm rfl)
            have k3558 : H3534 x 0 = H x 0 := ((f3539 x 0 _ gx rfl).trans (f3411 x 0 _ gx rfl))
            have q3559 : H3534 x 0 = (tc : Int) := k3558.trans e0
            have k3560 : H3534 m 5 = H m 5 := ((f3539 m 5 _ gm rfl).trans (f3411 m 5 _ gm rfl))
            have q3561 : H3534 m 5 = (tm : Int) := k3560.trans em
            have k3562 : H3534 x 6 = H x 6 := ((f3539 x 6 _ gx rfl).trans (f3411 x 6 _ gx rfl))
            have q3563 : H3534 x 6 = (cu : Int) := k3562.trans ecu
            have k3564 : H3534 x 7 = H x 7 := ((f3539 x 7 _ gx rfl).trans (f3411 x 7 _ gx rfl))
            have q3565 : H3534 x 7 = (dr : Int) := k3564.trans edr
            have h3566 : CEN T H3534 ce8 e8 d8 := (CEN_fr w3410 gce8 f3539 rfl a3420)
            have h3567 : TP T H3534 tc B := (TP_fr w3410 gtc f3539 rfl (TP_fr hW gtc f3411 rfl htc))
            have h3568 : TM T H3534 tm B := (TM_fr w3410 gtm f3539 rfl (TM_fr hW gtm f3411 rfl htm))
            have h3569 : DD T H3534 cu  := (DD_fr w3410 gcu f3539 rfl (DD_fr hW gcu f3411 rfl hcu))
            have h3570 : DD T H3534 dr  := (DD_fr w3410 gdr f3539 rfl (DD_fr hW gdr f3411 rfl hdr))
            have h3571 : DE T H3534 cu  := (DE_fr w3410 gcu f3539 rfl (DE_fr hW gcu f3411 rfl hdec))
            have h3572 : DE T H3534 dr  := (DE_fr w3410 gdr f3539 rfl (DE_fr hW gdr f3411 rfl hded))
            have h3573 : SP T H3534 x C8 := (SP_fr w3410 gx f3539 rfl (SP_fr hW gx f3411 rfl hsp))
            have h3574 : CU T H3534 cu e8 d8 n8 := (CU_fr w3410 gcu f3539 rfl (CU_fr hW gcu f3411 rfl hcu8))
            have h3575 : CY T H3534 cu (d8 0 3) g8 (H cu 17) := (CY_fr w3410 gcu f3539 rfl (CY_fr hW gcu f3411 rfl h3399))
            have k3576 : H3534 x 3 = H x 3 := ((f3539 x 3 _ gx rfl).trans (f3411 x 3 _ gx rfl))
            have q3577 : H3534 x 3 = (ce8 : Int) := k3576.trans ece8
            have h3578 : HDR T H3534 ce8  := (HDR_fr w3410 gce8 f3539 rfl (HDR_fr hW gce8 f3411 rfl hhdr8))
            have h3579 : RY T H3534 m (d8 0 3) g8 (H m 32) := (RY_fr w3410 gm f3539 rfl (RY_fr hW gm f3411 rfl h3400))
            have h3580 : RB T H3534 m e8 d8 := (RB_fr w3410 gm f3539 rfl h3530)
            exact WL.loc hX (by simp) (next T H3534 ⟨⟨w3538, g0, gx, gm, go, by omega, by omega⟩, ⟨_, tc, tm, cu, dr, _, _, _, _, _, ce8, q3559, gtc, h3567, q3561, gtm, h3568, q3563, gcu, q3565, gdr, h3569, h3570, h3571, h3572, h3573, hC1, hC2, h3574, h3580, (h3575).1, (h3579).1, hE, hZ, (by omega), (by assumption), (by omega), (by first | assumption | exact SG_0), q3577, gce8, h3566, h3578, a3546, gm⟩, by omega, by omega⟩ (by omega) (by omega))
          · refine wl_of hX hb cL_880 (rw_iconst (pc' := 881) rfl ?_)
            exfalso
            omega
        · show WL _ _ _ _ 877 [(4, vI i), (3, .ref o), (2, .ref m), (1, .ref x), (0, .ref 0)] [vI z3540, vI z3412] _ H3534
          refine wl_of hX hb cL_877 (rw_icmp_eq (p1 := 1653) (p2 := 880) (by decide) rfl ⟨b3413.1, b3413.2⟩ ⟨b3541.1, b3541.2⟩ (fun c3581 => ?_) (fun c3581 => ?_))
          · have k3582 : H3534 x 9 = H3406 x 9 := (f3539 x 9 _ gx rfl)
            have k3583 : H3534 m 6 = H3406 m 6 := (f3539 m 6 _ gm rfl)
            have k3584 : H3534 x 11 = H3406 x 11 := (f3539 x 11 _ gx rfl)
            have k3585 : H3534 m 13 = H3406 m 13 := (f3539 m 13 _ gm rfl)
            have k3586 : H3534 x 8 = H3406 x 8 := (f3539 x 8 _ gx rfl)
            have k3587 : H3534 m 3 = H3406 m 3 := (f3539 m 3 _ gm rfl)
            have k3588 : H3534 x 0 = H x 0 := ((f3539 x 0 _ gx rfl).trans (f3411 x 0 _ gx rfl))
            have q3589 : H3534 x 0 = (tc : Int) := k3588.trans e0
            have k3590 : H3534 m 5 = H m 5 := ((f3539 m 5 _ gm rfl).trans (f3411 m 5 _ gm rfl))
            have q3591 : H3534 m 5 = (tm : Int) := k3590.trans em
            have k3592 : H3534 x 6 = H x 6 := ((f3539 x 6 _ gx rfl).trans (f3411 x 6 _ gx rfl))
            have q3593 : H3534 x 6 = (cu : Int) := k3592.trans ecu
            have k3594 : H3534 x 7 = H x 7 := ((f3539 x 7 _ gx rfl).trans (f3411 x 7 _ gx rfl))
            have q3595 : H3534 x 7 = (dr : Int) := k3594.trans edr
            have h3596 : CEN T H3534 ce8 e8 d8 := (CEN_fr w3410 gce8 f3539 rfl a3420)
            have h3597 : TP T H3534 tc B := (TP_fr w3410 gtc f3539 rfl (TP_fr hW gtc f3411 rfl htc))
            have h3598 : TM T H3534 tm B := (TM_fr w3410 gtm f3539 rfl (TM_fr hW gtm f3411 rfl htm))
            have h3599 : DD T H3534 cu  := (DD_fr w3410 gcu f3539 rfl (DD_fr hW gcu f3411 rfl hcu))
            have h3600 : DD T H3534 dr  := (DD_fr w3410 gdr f3539 rfl (DD_fr hW gdr f3411 rfl hdr))
            have h3601 : DE T H3534 cu  := (DE_fr w3410 gcu f3539 rfl (DE_fr hW gcu f3411 rfl hdec))
            have h3602 : DE T H3534 dr  := (DE_fr w3410 gdr f3539 rfl (DE_fr hW gdr f3411 rfl hded))
            have h3603 : SP T H3534 x C8 := (SP_fr w3410 gx f3539 rfl (SP_fr hW gx f3411 rfl hsp))
            have h3604 : CU T H3534 cu e8 d8 n8 := (CU_fr w3410 gcu f3539 rfl (CU_fr hW gcu f3411 rfl hcu8))
            have h3605 : CY T H3534 cu (d8 0 3) g8 (H cu 17) := (CY_fr w3410 gcu f3539 rfl (CY_fr hW gcu f3411 rfl h3399))
            have k3606 : H3534 x 3 = H x 3 := ((f3539 x 3 _ gx rfl).trans (f3411 x 3 _ gx rfl))
            have q3607 : H3534 x 3 = (ce8 : Int) := k3606.trans ece8
            have h3608 : HDR T H3534 ce8  := (HDR_fr w3410 gce8 f3539 rfl (HDR_fr hW gce8 f3411 rfl hhdr8))
            have h3609 : RY T H3534 m (d8 0 3) g8 (H m 32) := (RY_fr w3410 gm f3539 rfl (RY_fr hW gm f3411 rfl h3400))
            have h3610 : RB T H3534 m e8 d8 := (RB_fr w3410 gm f3539 rfl h3530)
            exact WL.loc hX (by simp) (next T H3534 ⟨⟨w3538, g0, gx, gm, go, by omega, by omega⟩, ⟨_, tc, tm, cu, dr, _, _, _, _, _, ce8, q3589, gtc, h3597, q3591, gtm, h3598, q3593, gcu, q3595, gdr, h3599, h3600, h3601, h3602, h3603, hC1, hC2, h3604, h3610, (h3605).1, (h3609).1, hE, hZ, (by omega), (by assumption), (by omega), (by first | assumption | exact SG_0), q3607, gce8, h3596, h3608, a3550, gm⟩, by omega, by omega⟩ (by omega) (by omega))
          · refine wl_of hX hb cL_880 (rw_iconst (pc' := 881) rfl ?_)
            exfalso
            omega
      · exfalso
        omega
  · refine wl_of hX hb cL_845 (rw_iconst (pc' := 846) rfl ?_)
    refine wl_of hX hb cL_846 (rw_goto (p1 := 850) (by decide) ?_)
    obtain ⟨B, tc, tm, cu, dr, C8, e8, d8, n8, g8, ce8, e0, gtc, htc, em, gtm, htm, ecu, gcu, edr, gdr, hcu, hdr, hdec, hded, hsp, hC1, hC2, hcu8, hrb8, hcg8, hmn8, hE, hZ, hn8, hXA, hV8, hSG, ece8, gce8, hcen8, hhdr8, hknn8, -⟩ := hXI
    have hN3 := RB_n3 hrb8
    have hE13 : ∀ h : Nat, h < 24 → 0 ≤ e8 13 h ∧ e8 13 h ≤ 100 := fun k hk => by
      obtain ⟨s, h1, h2, h3⟩ := hcu8.1.2.2.1
      exact ⟨(h3 k hk).1, (h3 k hk).2.1⟩
    have hXW := hXA.1
    have hXN := hXA.2
    have hE0 : e8 0 3 = d8 0 3 ∧ e8 0 0 = d8 0 0 := by
      have h := hE 0 (by decide)
      exact ⟨congrFun h 3, congrFun h 0⟩
    have u3611 := CU_k hcu8
    have h3612 : CY T H cu (d8 0 3) g8 (H cu 17) := ⟨hcg8, rfl⟩
    have h3613 : RY T H m (d8 0 3) g8 (H m 32) := ⟨hmn8, rfl⟩
    obtain ⟨t9, ht9⟩ : ∃ t : Int, t = H x 9 := ⟨_, rfl⟩
    obtain ⟨y9, hy9⟩ : ∃ y : Int, y = 1 := ⟨_, rfl⟩
    obtain ⟨r3614, q3615, g3616⟩ := hW.ref gx (t' := 6) (n := 13) (j := 2) (p := 0) (q := 0) rfl (by decide) rfl
    refine wl_of hX hb cL_850 (xc_V (pc' := 853) (r := x) (as := [vI (H 0 ((i + 1).toNat)), vI 1]) (st := []) (lm_11_109) rfl rfl (Nat.le_of_ble_eq_true rfl) hW gx sh_1 (by decide) rfl (by decide) (u_104 (e := e8) (d := d8) (n := n8) hW gx ⟨by omega, by omega⟩ ⟨by decide, by decide⟩ ecu gcu q3615 g3616 ece8 gce8 (by assumption) (by assumption) (by omega) (by omega) (by omega) (by omega) hcu8 hcen8 hhdr8) (fun R3617 T3618 H3619 p3620 => ?_))
    obtain ⟨e3621, w3623, f3624, z3625, e3622, b3626, p3627⟩ := p3620
    subst e3621
    subst e3622
    rcases p3627 with ⟨a3628, a3629, a3630⟩ | ⟨a3631, a3632, a3633⟩
    · show WL _ _ _ _ 853 [(4, vI i), (3, .ref o), (2, .ref m), (1, .ref x), (0, .ref 0)] [vI z3625] _ H3619
      refine wl_of hX hb cL_853 (rw_aload_n (pc' := 854) (v := .ref m) rfl rfl rfl ?_)
      refine wl_of hX hb cL_854 (rw_aload_n (pc' := 855) (v := .ref 0) rfl rfl rfl ?_)
      refine wl_of hX hb cL_855 (rw_iload (pc' := 857) (z := i) rfl rfl ?_)
      refine wl_of hX hb cL_857 (rw_iconst (pc' := 858) rfl ?_)
      refine wl_of hX hb cL_858 (rw_iadd (pc' := 859) rfl ?_)
      have k3636 : H3619 0 ((i + 1).toNat) = H 0 ((i + 1).toNat) := (f3624 0 ((i + 1).toNat) _ g0 (wmem_s rfl))
      refine wl_of hX hb cL_859 (xa_I (so := 0) (pc' := 860) (a := 0) w3623 g0 (wsh_s _) (by omega) (wty_s _ _) (by omega) (by omega) rfl (fun b3634 b3635 => ?_))
      refine wl_of hX hb cL_860 (rw_aload_n (pc' := 861) (v := .ref 0) rfl rfl rfl ?_)
      refine wl_of hX hb cL_861 (rw_iload (pc' := 863) (z := i) rfl rfl ?_)
      refine wl_of hX hb cL_863 (rw_iconst (pc' := 864) rfl ?_)
      refine wl_of hX hb cL_864 (rw_iadd (pc' := 865) rfl ?_)
      have k3639 : H3619 0 ((i + 2).toNat) = H 0 ((i + 2).toNat) := (f3624 0 ((i + 2).toNat) _ g0 (wmem_s rfl))
      refine wl_of hX hb cL_865 (xa_I (so := 0) (pc' := 866) (a := 0) w3623 g0 (wsh_s _) (by omega) (wty_s _ _) (by omega) (by omega) rfl (fun b3637 b3638 => ?_))
      refine wl_of hX hb cL_866 (rw_if_eq (p1 := 873) (p2 := 869) (by decide) rfl ⟨by omega, by omega⟩ (fun c3640 => ?_) (fun c3640 => ?_))
      · refine wl_of hX hb cL_873 (rw_iconst (pc' := 874) rfl ?_)
        have k3641 : wKI H3619 m = wKI H m := (wKI_fr hW gm f3624 rfl)
        have k3642 : H3619 x 9 = H x 9 := (f3624 x 9 _ gx rfl)
        have k3643 : H3619 m 6 = H m 6 := (f3624 m 6 _ gm rfl)
        have k3644 : H3619 x 11 = H x 11 := (f3624 x 11 _ gx rfl)
        have k3645 : H3619 m 13 = H m 13 := (f3624 m 13 _ gm rfl)
        have k3646 : H3619 x 8 = H x 8 := (f3624 x 8 _ gx rfl)
        have k3647 : H3619 m 3 = H m 3 := (f3624 m 3 _ gm rfl)
        rw [show H3619 0 ((i + 1).toNat) = H 0 ((i + 1).toNat) by omega]
        have h3648 : RB T H3619 m e8 d8 := (RB_fr hW gm f3624 rfl hrb8)
        have h3649 : KNN T H3619 m e8 d8 := (KNN_fr hW gm f3624 rfl hknn8)
        refine wl_of hX hb cL_874 (xc_V (pc' := 877) (r := m) (as := [vI (H 0 ((i + 1).toNat)), vI 0]) (st := [vI z3625]) (lm_11_113) rfl rfl (Nat.le_of_ble_eq_true rfl) w3623 gm sh_42 (by decide) rfl (by decide) (u_254 (e := e8) (d := d8) w3623 gm ⟨by omega, by omega⟩ ⟨by decide, by decide⟩ (by omega) (by assumption) (by assumption) (by assumption) (by assumption) h3648 h3649) (fun R3650 T3651 H3652 p3653 => ?_))
        obtain ⟨e3654, w3656, f3657, z3658, e3655, b3659, p3660⟩ := p3653
        subst e3654
        subst e3655
        rcases p3660 with ⟨a3661, a3662, a3663, a3664⟩ | ⟨a3665, a3666, a3667, a3668⟩
        · show WL _ _ _ _ 877 [(4, vI i), (3, .ref o), (2, .ref m), (1, .ref x), (0, .ref 0)] [vI z3658, vI z3625] _ H3652
          refine wl_of hX hb cL_877 (rw_icmp_eq (p1 := 1653) (p2 := 880) (by decide) rfl ⟨b3626.1, b3626.2⟩ ⟨b3659.1, b3659.2⟩ (fun c3669 => ?_) (fun c3669 => ?_))
          · have k3670 : H3652 x 9 = H3619 x 9 := (f3657 x 9 _ gx rfl)
            have k3671 : H3652 m 6 = H3619 m 6 := (f3657 m 6 _ gm rfl)
            have k3672 : H3652 x 11 = H3619 x 11 := (f3657 x 11 _ gx rfl)
            have k3673 : H3652 m 13 = H3619 m 13 := (f3657 m 13 _ gm rfl)
            have k3674 : H3652 x 8 = H3619 x 8 := (f3657 x 8 _ gx rfl)
            have k3675 : H3652 m 3 = H3619 m 3 := (f3657 m 3 _ gm rfl)
            have k3676 : H3652 x 0 = H x 0 := ((f3657 x 0 _ gx rfl).trans (f3624 x 0 _ gx rfl))
            have q3677 : H3652 x 0 = (tc : Int) := k3676.trans e0
            have k3678 : H3652 m 5 = H m 5 := ((f3657 m 5 _ gm rfl).trans (f3624 m 5 _ gm rfl))
            have q3679 : H3652 m 5 = (tm : Int) := k3678.trans em
            have k3680 : H3652 x 6 = H x 6 := ((f3657 x 6 _ gx rfl).trans (f3624 x 6 _ gx rfl))
            have q3681 : H3652 x 6 = (cu : Int) := k3680.trans ecu
            have k3682 : H3652 x 7 = H x 7 := ((f3657 x 7 _ gx rfl).trans (f3624 x 7 _ gx rfl))
            have q3683 : H3652 x 7 = (dr : Int) := k3682.trans edr
            have h3684 : CEN T H3652 ce8 e8 d8 := (CEN_fr w3623 gce8 f3657 rfl a3630)
            have h3685 : TP T H3652 tc B := (TP_fr w3623 gtc f3657 rfl (TP_fr hW gtc f3624 rfl htc))
            have h3686 : TM T H3652 tm B := (TM_fr w3623 gtm f3657 rfl (TM_fr hW gtm f3624 rfl htm))
            have h3687 : DD T H3652 cu  := (DD_fr w3623 gcu f3657 rfl (DD_fr hW gcu f3624 rfl hcu))
            have h3688 : DD T H3652 dr  := (DD_fr w3623 gdr f3657 rfl (DD_fr hW gdr f3624 rfl hdr))
            have h3689 : DE T H3652 cu  := (DE_fr w3623 gcu f3657 rfl (DE_fr hW gcu f3624 rfl hdec))
            have h3690 : DE T H3652 dr  := (DE_fr w3623 gdr f3657 rfl (DE_fr hW gdr f3624 rfl hded))
            have h3691 : SP T H3652 x C8 := (SP_fr w3623 gx f3657 rfl (SP_fr hW gx f3624 rfl hsp))
            have h3692 : CU T H3652 cu e8 d8 n8 := (CU_fr w3623 gcu f3657 rfl (CU_fr hW gcu f3624 rfl hcu8))
            have h3693 : CY T H3652 cu (d8 0 3) g8 (H cu 17) := (CY_fr w3623 gcu f3657 rfl (CY_fr hW gcu f3624 rfl h3612))
            have k3694 : H3652 x 3 = H x 3 := ((f3657 x 3 _ gx rfl).trans (f3624 x 3 _ gx rfl))
            have q3695 : H3652 x 3 = (ce8 : Int) := k3694.trans ece8
            have h3696 : HDR T H3652 ce8  := (HDR_fr w3623 gce8 f3657 rfl (HDR_fr hW gce8 f3624 rfl hhdr8))
            have h3697 : RY T H3652 m (d8 0 3) g8 (H m 32) := (RY_fr w3623 gm f3657 rfl (RY_fr hW gm f3624 rfl h3613))
            have h3698 : RB T H3652 m e8 d8 := (RB_fr w3623 gm f3657 rfl h3648)
            exact WL.loc hX (by simp) (next T H3652 ⟨⟨w3656, g0, gx, gm, go, by omega, by omega⟩, ⟨_, tc, tm, cu, dr, _, _, _, _, _, ce8, q3677, gtc, h3685, q3679, gtm, h3686, q3681, gcu, q3683, gdr, h3687, h3688, h3689, h3690, h3691, hC1, hC2, h3692, h3698, (h3693).1, (h3697).1, hE, hZ, (by omega), (by assumption), (by omega), (by first | assumption | exact SG_0), q3695, gce8, h3684, h3696, a3664, gm⟩, by omega, by omega⟩ (by omega) (by omega))
          · exfalso
            omega
        · show WL _ _ _ _ 877 [(4, vI i), (3, .ref o), (2, .ref m), (1, .ref x), (0, .ref 0)] [vI z3658, vI z3625] _ H3652
          refine wl_of hX hb cL_877 (rw_icmp_eq (p1 := 1653) (p2 := 880) (by decide) rfl ⟨b3626.1, b3626.2⟩ ⟨b3659.1, b3659.2⟩ (fun c3699 => ?_) (fun c3699 => ?_))
          · have k3700 : H3652 x 9 = H3619 x 9 := (f3657 x 9 _ gx rfl)
            have k3701 : H3652 m 6 = H3619 m 6 := (f3657 m 6 _ gm rfl)
            have k3702 : H3652 x 11 = H3619 x 11 := (f3657 x 11 _ gx rfl)
            have k3703 : H3652 m 13 = H3619 m 13 := (f3657 m 13 _ gm rfl)
            have k3704 : H3652 x 8 = H3619 x 8 := (f3657 x 8 _ gx rfl)
            have k3705 : H3652 m 3 = H3619 m 3 := (f3657 m 3 _ gm rfl)
            have k3706 : H3652 x 0 = H x 0 := ((f3657 x 0 _ gx rfl).trans (f3624 x 0 _ gx rfl))
            have q3707 : H3652 x 0 = (tc : Int) := k3706.trans e0
            have k3708 : H3652 m 5 = H m 5 := ((f3657 m 5 _ gm rfl).trans (f3624 m 5 _ gm rfl))
            have q3709 : H3652 m 5 = (tm : Int) := k3708.trans em
            have k3710 : H3652 x 6 = H x 6 := ((f3657 x 6 _ gx rfl).trans (f3624 x 6 _ gx rfl))
            have q3711 : H3652 x 6 = (cu : Int) := k3710.trans ecu
            have k3712 : H3652 x 7 = H x 7 := ((f3657 x 7 _ gx rfl).trans (f3624 x 7 _ gx rfl))
            have q3713 : H3652 x 7 = (dr : Int) := k3712.trans edr
            have h3714 : CEN T H3652 ce8 e8 d8 := (CEN_fr w3623 gce8 f3657 rfl a3630)
            have h3715 : TP T H3652 tc B := (TP_fr w3623 gtc f3657 rfl (TP_fr hW gtc f3624 rfl htc))
            have h3716 : TM T H3652 tm B := (TM_fr w3623 gtm f3657 rfl (TM_fr hW gtm f3624 rfl htm))
            have h3717 : DD T H3652 cu  := (DD_fr w3623 gcu f3657 rfl (DD_fr hW gcu f3624 rfl hcu))
            have h3718 : DD T H3652 dr  := (DD_fr w3623 gdr f3657 rfl (DD_fr hW gdr f3624 rfl hdr))
            have h3719 : DE T H3652 cu  := (DE_fr w3623 gcu f3657 rfl (DE_fr hW gcu f3624 rfl hdec))
            have h3720 : DE T H3652 dr  := (DE_fr w3623 gdr f3657 rfl (DE_fr hW gdr f3624 rfl hded))
            have h3721 : SP T H3652 x C8 := (SP_fr w3623 gx f3657 rfl (SP_fr hW gx f3624 rfl hsp))
            have h3722 : CU T H3652 cu e8 d8 n8 := (CU_fr w3623 gcu f3657 rfl (CU_fr hW gcu f3624 rfl hcu8))
            have h3723 : CY T H3652 cu (d8 0 3) g8 (H cu 17) := (CY_fr w3623 gcu f3657 rfl (CY_fr hW gcu f3624 rfl h3612))
            have k3724 : H3652 x 3 = H x 3 := ((f3657 x 3 _ gx rfl).trans (f3624 x 3 _ gx rfl))
            have q3725 : H3652 x 3 = (ce8 : Int) := k3724.trans ece8
            have h3726 : HDR T H3652 ce8  := (HDR_fr w3623 gce8 f3657 rfl (HDR_fr hW gce8 f3624 rfl hhdr8))
            have h3727 : RY T H3652 m (d8 0 3) g8 (H m 32) := (RY_fr w3623 gm f3657 rfl (RY_fr hW gm f3624 rfl h3613))
            have h3728 : RB T H3652 m e8 d8 := (RB_fr w3623 gm f3657 rfl h3648)
            exact WL.loc hX (by simp) (next T H3652 ⟨⟨w3656, g0, gx, gm, go, by omega, by omega⟩, ⟨_, tc, tm, cu, dr, _, _, _, _, _, ce8, q3707, gtc, h3715, q3709, gtm, h3716, q3711, gcu, q3713, gdr, h3717, h3718, h3719, h3720, h3721, hC1, hC2, h3722, h3728, (h3723).1, (h3727).1, hE, hZ, (by omega), (by assumption), (by omega), (by first | assumption | exact SG_0), q3725, gce8, h3714, h3726, a3668, gm⟩, by omega, by omega⟩ (by omega) (by omega))
          · refine wl_of hX hb cL_880 (rw_iconst (pc' := 881) rfl ?_)
            exfalso
            omega
      · refine wl_of hX hb cL_869 (rw_iconst (pc' := 870) rfl ?_)
        refine wl_of hX hb cL_870 (rw_goto (p1 := 874) (by decide) ?_)
        have k3729 : wKI H3619 m = wKI H m := (wKI_fr hW gm f3624 rfl)
        have k3730 : H3619 x 9 = H x 9 := (f3624 x 9 _ gx rfl)
        have k3731 : H3619 m 6 = H m 6 := (f3624 m 6 _ gm rfl)
        have k3732 : H3619 x 11 = H x 11 := (f3624 x 11 _ gx rfl)
        have k3733 : H3619 m 13 = H m 13 := (f3624 m 13 _ gm rfl)
        have k3734 : H3619 x 8 = H x 8 := (f3624 x 8 _ gx rfl)
        have k3735 : H3619 m 3 = H m 3 := (f3624 m 3 _ gm rfl)
        rw [show H3619 0 ((i + 1).toNat) = H 0 ((i + 1).toNat) by omega]
        have h3736 : RB T H3619 m e8 d8 := (RB_fr hW gm f3624 rfl hrb8)
        have h3737 : KNN T H3619 m e8 d8 := (KNN_fr hW gm f3624 rfl hknn8)
        refine wl_of hX hb cL_874 (xc_V (pc' := 877) (r := m) (as := [vI (H 0 ((i + 1).toNat)), vI 1]) (st := [vI z3625]) (lm_11_113) rfl rfl (Nat.le_of_ble_eq_true rfl) w3623 gm sh_42 (by decide) rfl (by decide) (u_254 (e := e8) (d := d8) w3623 gm ⟨by omega, by omega⟩ ⟨by decide, by decide⟩ (by omega) (by assumption) (by assumption) (by assumption) (by assumption) h3736 h3737) (fun R3738 T3739 H3740 p3741 => ?_))
        obtain ⟨e3742, w3744, f3745, z3746, e3743, b3747, p3748⟩ := p3741
        subst e3742
        subst e3743
        rcases p3748 with ⟨a3749, a3750, a3751, a3752⟩ | ⟨a3753, a3754, a3755, a3756⟩
        · show WL _ _ _ _ 877 [(4, vI i), (3, .ref o), (2, .ref m), (1, .ref x), (0, .ref 0)] [vI z3746, vI z3625] _ H3740
          refine wl_of hX hb cL_877 (rw_icmp_eq (p1 := 1653) (p2 := 880) (by decide) rfl ⟨b3626.1, b3626.2⟩ ⟨b3747.1, b3747.2⟩ (fun c3757 => ?_) (fun c3757 => ?_))
          · have k3758 : H3740 x 9 = H3619 x 9 := (f3745 x 9 _ gx rfl)
            have k3759 : H3740 m 6 = H3619 m 6 := (f3745 m 6 _ gm rfl)
            have k3760 : H3740 x 11 = H3619 x 11 := (f3745 x 11 _ gx rfl)
            have k3761 : H3740 m 13 = H3619 m 13 := (f3745 m 13 _ gm rfl)
            have k3762 : H3740 x 8 = H3619 x 8 := (f3745 x 8 _ gx rfl)
            have k3763 : H3740 m 3 = H3619 m 3 := (f3745 m 3 _ gm rfl)
            have k3764 : H3740 x 0 = H x 0 := ((f3745 x 0 _ gx rfl).trans (f3624 x 0 _ gx rfl))
            have q3765 : H3740 x 0 = (tc : Int) := k3764.trans e0
            have k3766 : H3740 m 5 = H m 5 := ((f3745 m 5 _ gm rfl).trans (f3624 m 5 _ gm rfl))
            have q3767 : H3740 m 5 = (tm : Int) := k3766.trans em
            have k3768 : H3740 x 6 = H x 6 := ((f3745 x 6 _ gx rfl).trans (f3624 x 6 _ gx rfl))
            have q3769 : H3740 x 6 = (cu : Int) := k3768.trans ecu
            have k3770 : H3740 x 7 = H x 7 := ((f3745 x 7 _ gx rfl).trans (f3624 x 7 _ gx rfl))
            have q3771 : H3740 x 7 = (dr : Int) := k3770.trans edr
            have h3772 : CEN T H3740 ce8 e8 d8 := (CEN_fr w3623 gce8 f3745 rfl a3630)
            have h3773 : TP T H3740 tc B := (TP_fr w3623 gtc f3745 rfl (TP_fr hW gtc f3624 rfl htc))
            have h3774 : TM T H3740 tm B := (TM_fr w3623 gtm f3745 rfl (TM_fr hW gtm f3624 rfl htm))
            have h3775 : DD T H3740 cu  := (DD_fr w3623 gcu f3745 rfl (DD_fr hW gcu f3624 rfl hcu))
            have h3776 : DD T H3740 dr  := (DD_fr w3623 gdr f3745 rfl (DD_fr hW gdr f3624 rfl hdr))
            have h3777 : DE T H3740 cu  := (DE_fr w3623 gcu f3745 rfl (DE_fr hW gcu f3624 rfl hdec))
            have h3778 : DE T H3740 dr  := (DE_fr w3623 gdr f3745 rfl (DE_fr hW gdr f3624 rfl hded))
            have h3779 : SP T H3740 x C8 := (SP_fr w3623 gx f3745 rfl (SP_fr hW gx f3624 rfl hsp))
            have h3780 : CU T H3740 cu e8 d8 n8 := (CU_fr w3623 gcu f3745 rfl (CU_fr hW gcu f3624 rfl hcu8))
            have h3781 : CY T H3740 cu (d8 0 3) g8 (H cu 17) := (CY_fr w3623 gcu f3745 rfl (CY_fr hW gcu f3624 rfl h3612))
            have k3782 : H3740 x 3 = H x 3 := ((f3745 x 3 _ gx rfl).trans (f3624 x 3 _ gx rfl))
            have q3783 : H3740 x 3 = (ce8 : Int) := k3782.trans ece8
            have h3784 : HDR T H3740 ce8  := (HDR_fr w3623 gce8 f3745 rfl (HDR_fr hW gce8 f3624 rfl hhdr8))
            have h3785 : RY T H3740 m (d8 0 3) g8 (H m 32) := (RY_fr w3623 gm f3745 rfl (RY_fr hW gm f3624 rfl h3613))
            have h3786 : RB T H3740 m e8 d8 := (RB_fr w3623 gm f3745 rfl h3736)
            exact WL.loc hX (by simp) (next T H3740 ⟨⟨w3744, g0, gx, gm, go, by omega, by omega⟩, ⟨_, tc, tm, cu, dr, _, _, _, _, _, ce8, q3765, gtc, h3773, q3767, gtm, h3774, q3769, gcu, q3771, gdr, h3775, h3776, h3777, h3778, h3779, hC1, hC2, h3780, h3786, (h3781).1, (h3785).1, hE, hZ, (by omega), (by assumption), (by omega), (by first | assumption | exact SG_0), q3783, gce8, h3772, h3784, a3752, gm⟩, by omega, by omega⟩ (by omega) (by omega))
          · exfalso
            omega
        · show WL _ _ _ _ 877 [(4, vI i), (3, .ref o), (2, .ref m), (1, .ref x), (0, .ref 0)] [vI z3746, vI z3625] _ H3740
          refine wl_of hX hb cL_877 (rw_icmp_eq (p1 := 1653) (p2 := 880) (by decide) rfl ⟨b3626.1, b3626.2⟩ ⟨b3747.1, b3747.2⟩ (fun c3787 => ?_) (fun c3787 => ?_))
          · have k3788 : H3740 x 9 = H3619 x 9 := (f3745 x 9 _ gx rfl)
            have k3789 : H3740 m 6 = H3619 m 6 := (f3745 m 6 _ gm rfl)
            have k3790 : H3740 x 11 = H3619 x 11 := (f3745 x 11 _ gx rfl)
            have k3791 : H3740 m 13 = H3619 m 13 := (f3745 m 13 _ gm rfl)
            have k3792 : H3740 x 8 = H3619 x 8 := (f3745 x 8 _ gx rfl)
            have k3793 : H3740 m 3 = H3619 m 3 := (f3745 m 3 _ gm rfl)
            have k3794 : H3740 x 0 = H x 0 := ((f3745 x 0 _ gx rfl).trans (f3624 x 0 _ gx rfl))
            have q3795 : H3740 x 0 = (tc : Int) := k3794.trans e0
            have k3796 : H3740 m 5 = H m 5 := ((f3745 m 5 _ gm rfl).trans (f3624 m 5 _ gm rfl))
            have q3797 : H3740 m 5 = (tm : Int) := k3796.trans em
            have k3798 : H3740 x 6 = H x 6 := ((f3745 x 6 _ gx rfl).trans (f3624 x 6 _ gx rfl))
            have q3799 : H3740 x 6 = (cu : Int) := k3798.trans ecu
            have k3800 : H3740 x 7 = H x 7 := ((f3745 x 7 _ gx rfl).trans (f3624 x 7 _ gx rfl))
            have q3801 : H3740 x 7 = (dr : Int) := k3800.trans edr
            have h3802 : CEN T H3740 ce8 e8 d8 := (CEN_fr w3623 gce8 f3745 rfl a3630)
            have h3803 : TP T H3740 tc B := (TP_fr w3623 gtc f3745 rfl (TP_fr hW gtc f3624 rfl htc))
            have h3804 : TM T H3740 tm B := (TM_fr w3623 gtm f3745 rfl (TM_fr hW gtm f3624 rfl htm))
            have h3805 : DD T H3740 cu  := (DD_fr w3623 gcu f3745 rfl (DD_fr hW gcu f3624 rfl hcu))
            have h3806 : DD T H3740 dr  := (DD_fr w3623 gdr f3745 rfl (DD_fr hW gdr f3624 rfl hdr))
            have h3807 : DE T H3740 cu  := (DE_fr w3623 gcu f3745 rfl (DE_fr hW gcu f3624 rfl hdec))
            have h3808 : DE T H3740 dr  := (DE_fr w3623 gdr f3745 rfl (DE_fr hW gdr f3624 rfl hded))
            have h3809 : SP T H3740 x C8 := (SP_fr w3623 gx f3745 rfl (SP_fr hW gx f3624 rfl hsp))
            have h3810 : CU T H3740 cu e8 d8 n8 := (CU_fr w3623 gcu f3745 rfl (CU_fr hW gcu f3624 rfl hcu8))
            have h3811 : CY T H3740 cu (d8 0 3) g8 (H cu 17) := (CY_fr w3623 gcu f3745 rfl (CY_fr hW gcu f3624 rfl h3612))
            have k3812 : H3740 x 3 = H x 3 := ((f3745 x 3 _ gx rfl).trans (f3624 x 3 _ gx rfl))
            have q3813 : H3740 x 3 = (ce8 : Int) := k3812.trans ece8
            have h3814 : HDR T H3740 ce8  := (HDR_fr w3623 gce8 f3745 rfl (HDR_fr hW gce8 f3624 rfl hhdr8))
            have h3815 : RY T H3740 m (d8 0 3) g8 (H m 32) := (RY_fr w3623 gm f3745 rfl (RY_fr hW gm f3624 rfl h3613))
            have h3816 : RB T H3740 m e8 d8 := (RB_fr w3623 gm f3745 rfl h3736)
            exact WL.loc hX (by simp) (next T H3740 ⟨⟨w3744, g0, gx, gm, go, by omega, by omega⟩, ⟨_, tc, tm, cu, dr, _, _, _, _, _, ce8, q3795, gtc, h3803, q3797, gtm, h3804, q3799, gcu, q3801, gdr, h3805, h3806, h3807, h3808, h3809, hC1, hC2, h3810, h3816, (h3811).1, (h3815).1, hE, hZ, (by omega), (by assumption), (by omega), (by first | assumption | exact SG_0), q3813, gce8, h3802, h3814, a3756, gm⟩, by omega, by omega⟩ (by omega) (by omega))
          · refine wl_of hX hb cL_880 (rw_iconst (pc' := 881) rfl ?_)
            exfalso
            omega
    · show WL _ _ _ _ 853 [(4, vI i), (3, .ref o), (2, .ref m), (1, .ref x), (0, .ref 0)] [vI z3625] _ H3619
      refine wl_of hX hb cL_853 (rw_aload_n (pc' := 854) (v := .ref m) rfl rfl rfl ?_)
      refine wl_of hX hb cL_854 (rw_aload_n (pc' := 855) (v := .ref 0) rfl rfl rfl ?_)
      refine wl_of hX hb cL_855 (rw_iload (pc' := 857) (z := i) rfl rfl ?_)
      refine wl_of hX hb cL_857 (rw_iconst (pc' := 858) rfl ?_)
      refine wl_of hX hb cL_858 (rw_iadd (pc' := 859) rfl ?_)
      have k3819 : H3619 0 ((i + 1).toNat) = H 0 ((i + 1).toNat) := (f3624 0 ((i + 1).toNat) _ g0 (wmem_s rfl))
      refine wl_of hX hb cL_859 (xa_I (so := 0) (pc' := 860) (a := 0) w3623 g0 (wsh_s _) (by omega) (wty_s _ _) (by omega) (by omega) rfl (fun b3817 b3818 => ?_))
      refine wl_of hX hb cL_860 (rw_aload_n (pc' := 861) (v := .ref 0) rfl rfl rfl ?_)
      refine wl_of hX hb cL_861 (rw_iload (pc' := 863) (z := i) rfl rfl ?_)
      refine wl_of hX hb cL_863 (rw_iconst (pc' := 864) rfl ?_)
      refine wl_of hX hb cL_864 (rw_iadd (pc' := 865) rfl ?_)
      have k3822 : H3619 0 ((i + 2).toNat) = H 0 ((i + 2).toNat) := (f3624 0 ((i + 2).toNat) _ g0 (wmem_s rfl))
      refine wl_of hX hb cL_865 (xa_I (so := 0) (pc' := 866) (a := 0) w3623 g0 (wsh_s _) (by omega) (wty_s _ _) (by omega) (by omega) rfl (fun b3820 b3821 => ?_))
      refine wl_of hX hb cL_866 (rw_if_eq (p1 := 873) (p2 := 869) (by decide) rfl ⟨by omega, by omega⟩ (fun c3823 => ?_) (fun c3823 => ?_))
      · refine wl_of hX hb cL_873 (rw_iconst (pc' := 874) rfl ?_)
        have k3824 : wKI H3619 m = wKI H m := (wKI_fr hW gm f3624 rfl)
        have k3825 : H3619 x 9 = H x 9 := (f3624 x 9 _ gx rfl)
        have k3826 : H3619 m 6 = H m 6 := (f3624 m 6 _ gm rfl)
        have k3827 : H3619 x 11 = H x 11 := (f3624 x 11 _ gx rfl)
        have k3828 : H3619 m 13 = H m 13 := (f3624 m 13 _ gm rfl)
        have k3829 : H3619 x 8 = H x 8 := (f3624 x 8 _ gx rfl)
        have k3830 : H3619 m 3 = H m 3 := (f3624 m 3 _ gm rfl)
        rw [show H3619 0 ((i + 1).toNat) = H 0 ((i + 1).toNat) by omega]
        have h3831 : RB T H3619 m e8 d8 := (RB_fr hW gm f3624 rfl hrb8)
        have h3832 : KNN T H3619 m e8 d8 := (KNN_fr hW gm f3624 rfl hknn8)
        refine wl_of hX hb cL_874 (xc_V (pc' := 877) (r := m) (as := [vI (H 0 ((i + 1).toNat)), vI 0]) (st := [vI z3625]) (lm_11_113) rfl rfl (Nat.le_of_ble_eq_true rfl) w3623 gm sh_42 (by decide) rfl (by decide) (u_254 (e := e8) (d := d8) w3623 gm ⟨by omega, by omega⟩ ⟨by decide, by decide⟩ (by omega) (by assumption) (by assumption) (by assumption) (by assumption) h3831 h3832) (fun R3833 T3834 H3835 p3836 => ?_))
        obtain ⟨e3837, w3839, f3840, z3841, e3838, b3842, p3843⟩ := p3836
        subst e3837
        subst e3838
        rcases p3843 with ⟨a3844, a3845, a3846, a3847⟩ | ⟨a3848, a3849, a3850, a3851⟩
        · show WL _ _ _ _ 877 [(4, vI i), (3, .ref o), (2, .ref m), (1, .ref x), (0, .ref 0)] [vI z3841, vI z3625] _ H3835
          refine wl_of hX hb cL_877 (rw_icmp_eq (p1 := 1653) (p2 := 880) (by decide) rfl ⟨b3626.1, b3626.2⟩ ⟨b3842.1, b3842.2⟩ (fun c3852 => ?_) (fun c3852 => ?_))
          · have k3853 : H3835 x 9 = H3619 x 9 := (f3840 x 9 _ gx rfl)
            have k3854 : H3835 m 6 = H3619 m 6 := (f3840 m 6 _ gm rfl)
            have k3855 : H3835 x 11 = H3619 x 11 := (f3840 x 11 _ gx rfl)
            have k3856 : H3835 m 13 = H3619 m 13 := (f3840 m 13 _ gm rfl)
            have k3857 : H3835 x 8 = H3619 x 8 := (f3840 x 8 _ gx rfl)
            have k3858 : H3835 m 3 = H3619 m 3 := (f3840 m 3 _ gm rfl)
            have k3859 : H3835 x 0 = H x 0 := ((f3840 x 0 _ gx rfl).trans (f3624 x 0 _ gx rfl))
            have q3860 : H3835 x 0 = (tc : Int) := k3859.trans e0
            have k3861 : H3835 m 5 = H m 5 := ((f3840 m 5 _ gm rfl).trans (f3624 m 5 _ gm rfl))
            have q3862 : H3835 m 5 = (tm : Int) := k3861.trans em
            have k3863 : H3835 x 6 = H x 6 := ((f3840 x 6 _ gx rfl).trans (f3624 x 6 _ gx rfl))
            have q3864 : H3835 x 6 = (cu : Int) := k3863.trans ecu
            have k3865 : H3835 x 7 = H x 7 := ((f3840 x 7 _ gx rfl).trans (f3624 x 7 _ gx rfl))
            have q3866 : H3835 x 7 = (dr : Int) := k3865.trans edr
            have h3867 : CEN T H3835 ce8 e8 d8 := (CEN_fr w3623 gce8 f3840 rfl a3633)
            have h3868 : TP T H3835 tc B := (TP_fr w3623 gtc f3840 rfl (TP_fr hW gtc f3624 rfl htc))
            have h3869 : TM T H3835 tm B := (TM_fr w3623 gtm f3840 rfl (TM_fr hW gtm f3624 rfl htm))
            have h3870 : DD T H3835 cu  := (DD_fr w3623 gcu f3840 rfl (DD_fr hW gcu f3624 rfl hcu))
            have h3871 : DD T H3835 dr  := (DD_fr w3623 gdr f3840 rfl (DD_fr hW gdr f3624 rfl hdr))
            have h3872 : DE T H3835 cu  := (DE_fr w3623 gcu f3840 rfl (DE_fr hW gcu f3624 rfl hdec))
            have h3873 : DE T H3835 dr  := (DE_fr w3623 gdr f3840 rfl (DE_fr hW gdr f3624 rfl hded))
            have h3874 : SP T H3835 x C8 := (SP_fr w3623 gx f3840 rfl (SP_fr hW gx f3624 rfl hsp))
            have h3875 : CU T H3835 cu e8 d8 n8 := (CU_fr w3623 gcu f3840 rfl (CU_fr hW gcu f3624 rfl hcu8))
            have h3876 : CY T H3835 cu (d8 0 3) g8 (H cu 17) := (CY_fr w3623 gcu f3840 rfl (CY_fr hW gcu f3624 rfl h3612))
            have k3877 : H3835 x 3 = H x 3 := ((f3840 x 3 _ gx rfl).trans (f3624 x 3 _ gx rfl))
            have q3878 : H3835 x 3 = (ce8 : Int) := k3877.trans ece8
            have h3879 : HDR T H3835 ce8  := (HDR_fr w3623 gce8 f3840 rfl (HDR_fr hW gce8 f3624 rfl hhdr8))
            have h3880 : RY T H3835 m (d8 0 3) g8 (H m 32) := (RY_fr w3623 gm f3840 rfl (RY_fr hW gm f3624 rfl h3613))
            have h3881 : RB T H3835 m e8 d8 := (RB_fr w3623 gm f3840 rfl h3831)
            exact WL.loc hX (by simp) (next T H3835 ⟨⟨w3839, g0, gx, gm, go, by omega, by omega⟩, ⟨_, tc, tm, cu, dr, _, _, _, _, _, ce8, q3860, gtc, h3868, q3862, gtm, h3869, q3864, gcu, q3866, gdr, h3870, h3871, h3872, h3873, h3874, hC1, hC2, h3875, h3881, (h3876).1, (h3880).1, hE, hZ, (by omega), (by assumption), (by omega), (by first | assumption | exact SG_0), q3878, gce8, h3867, h3879, a3847, gm⟩, by omega, by omega⟩ (by omega) (by omega))
          · refine wl_of hX hb cL_880 (rw_iconst (pc' := 881) rfl ?_)
            exfalso
            omega
        · show WL _ _ _ _ 877 [(4, vI i), (3, .ref o), (2, .ref m), (1, .ref x), (0, .ref 0)] [vI z3841, vI z3625] _ H3835
          refine wl_of hX hb cL_877 (rw_icmp_eq (p1 := 1653) (p2 := 880) (by decide) rfl ⟨b3626.1, b3626.2⟩ ⟨b3842.1, b3842.2⟩ (fun c3882 => ?_) (fun c3882 => ?_))
          · have k3883 : H3835 x 9 = H3619 x 9 := (f3840 x 9 _ gx rfl)
            have k3884 : H3835 m 6 = H3619 m 6 := (f3840 m 6 _ gm rfl)
            have k3885 : H3835 x 11 = H3619 x 11 := (f3840 x 11 _ gx rfl)
            have k3886 : H3835 m 13 = H3619 m 13 := (f3840 m 13 _ gm rfl)
            have k3887 : H3835 x 8 = H3619 x 8 := (f3840 x 8 _ gx rfl)
            have k3888 : H3835 m 3 = H3619 m 3 := (f3840 m 3 _ gm rfl)
            have k3889 : H3835 x 0 = H x 0 := ((f3840 x 0 _ gx rfl).trans (f3624 x 0 _ gx rfl))
            have q3890 : H3835 x 0 = (tc : Int) := k3889.trans e0
            have k3891 : H3835 m 5 = H m 5 := ((f3840 m 5 _ gm rfl).trans (f3624 m 5 _ gm rfl))
            have q3892 : H3835 m 5 = (tm : Int) := k3891.trans em
            have k3893 : H3835 x 6 = H x 6 := ((f3840 x 6 _ gx rfl).trans (f3624 x 6 _ gx rfl))
            have q3894 : H3835 x 6 = (cu : Int) := k3893.trans ecu
            have k3895 : H3835 x 7 = H x 7 := ((f3840 x 7 _ gx rfl).trans (f3624 x 7 _ gx rfl))
            have q3896 : H3835 x 7 = (dr : Int) := k3895.trans edr
            have h3897 : CEN T H3835 ce8 e8 d8 := (CEN_fr w3623 gce8 f3840 rfl a3633)
            have h3898 : TP T H3835 tc B := (TP_fr w3623 gtc f3840 rfl (TP_fr hW gtc f3624 rfl htc))
            have h3899 : TM T H3835 tm B := (TM_fr w3623 gtm f3840 rfl (TM_fr hW gtm f3624 rfl htm))
            have h3900 : DD T H3835 cu  := (DD_fr w3623 gcu f3840 rfl (DD_fr hW gcu f3624 rfl hcu))
            have h3901 : DD T H3835 dr  := (DD_fr w3623 gdr f3840 rfl (DD_fr hW gdr f3624 rfl hdr))
            have h3902 : DE T H3835 cu  := (DE_fr w3623 gcu f3840 rfl (DE_fr hW gcu f3624 rfl hdec))
            have h3903 : DE T H3835 dr  := (DE_fr w3623 gdr f3840 rfl (DE_fr hW gdr f3624 rfl hded))
            have h3904 : SP T H3835 x C8 := (SP_fr w3623 gx f3840 rfl (SP_fr hW gx f3624 rfl hsp))
            have h3905 : CU T H3835 cu e8 d8 n8 := (CU_fr w3623 gcu f3840 rfl (CU_fr hW gcu f3624 rfl hcu8))
            have h3906 : CY T H3835 cu (d8 0 3) g8 (H cu 17) := (CY_fr w3623 gcu f3840 rfl (CY_fr hW gcu f3624 rfl h3612))
            have k3907 : H3835 x 3 = H x 3 := ((f3840 x 3 _ gx rfl).trans (f3624 x 3 _ gx rfl))
            have q3908 : H3835 x 3 = (ce8 : Int) := k3907.trans ece8
            have h3909 : HDR T H3835 ce8  := (HDR_fr w3623 gce8 f3840 rfl (HDR_fr hW gce8 f3624 rfl hhdr8))
            have h3910 : RY T H3835 m (d8 0 3) g8 (H m 32) := (RY_fr w3623 gm f3840 rfl (RY_fr hW gm f3624 rfl h3613))
            have h3911 : RB T H3835 m e8 d8 := (RB_fr w3623 gm f3840 rfl h3831)
            exact WL.loc hX (by simp) (next T H3835 ⟨⟨w3839, g0, gx, gm, go, by omega, by omega⟩, ⟨_, tc, tm, cu, dr, _, _, _, _, _, ce8, q3890, gtc, h3898, q3892, gtm, h3899, q3894, gcu, q3896, gdr, h3900, h3901, h3902, h3903, h3904, hC1, hC2, h3905, h3911, (h3906).1, (h3910).1, hE, hZ, (by omega), (by assumption), (by omega), (by first | assumption | exact SG_0), q3908, gce8, h3897, h3909, a3851, gm⟩, by omega, by omega⟩ (by omega) (by omega))
          · refine wl_of hX hb cL_880 (rw_iconst (pc' := 881) rfl ?_)
            exfalso
            omega
      · refine wl_of hX hb cL_869 (rw_iconst (pc' := 870) rfl ?_)
        refine wl_of hX hb cL_870 (rw_goto (p1 := 874) (by decide) ?_)
        have k3912 : wKI H3619 m = wKI H m := (wKI_fr hW gm f3624 rfl)
        have k3913 : H3619 x 9 = H x 9 := (f3624 x 9 _ gx rfl)
        have k3914 : H3619 m 6 = H m 6 := (f3624 m 6 _ gm rfl)
        have k3915 : H3619 x 11 = H x 11 := (f3624 x 11 _ gx rfl)
        have k3916 : H3619 m 13 = H m 13 := (f3624 m 13 _ gm rfl)
        have k3917 : H3619 x 8 = H x 8 := (f3624 x 8 _ gx rfl)
        have k3918 : H3619 m 3 = H m 3 := (f3624 m 3 _ gm rfl)
        rw [show H3619 0 ((i + 1).toNat) = H 0 ((i + 1).toNat) by omega]
        have h3919 : RB T H3619 m e8 d8 := (RB_fr hW gm f3624 rfl hrb8)
        have h3920 : KNN T H3619 m e8 d8 := (KNN_fr hW gm f3624 rfl hknn8)
        refine wl_of hX hb cL_874 (xc_V (pc' := 877) (r := m) (as := [vI (H 0 ((i + 1).toNat)), vI 1]) (st := [vI z3625]) (lm_11_113) rfl rfl (Nat.le_of_ble_eq_true rfl) w3623 gm sh_42 (by decide) rfl (by decide) (u_254 (e := e8) (d := d8) w3623 gm ⟨by omega, by omega⟩ ⟨by decide, by decide⟩ (by omega) (by assumption) (by assumption) (by assumption) (by assumption) h3919 h3920) (fun R3921 T3922 H3923 p3924 => ?_))
        obtain ⟨e3925, w3927, f3928, z3929, e3926, b3930, p3931⟩ := p3924
        subst e3925
        subst e3926
        rcases p3931 with ⟨a3932, a3933, a3934, a3935⟩ | ⟨a3936, a3937, a3938, a3939⟩
        · show WL _ _ _ _ 877 [(4, vI i), (3, .ref o), (2, .ref m), (1, .ref x), (0, .ref 0)] [vI z3929, vI z3625] _ H3923
          refine wl_of hX hb cL_877 (rw_icmp_eq (p1 := 1653) (p2 := 880) (by decide) rfl ⟨b3626.1, b3626.2⟩ ⟨b3930.1, b3930.2⟩ (fun c3940 => ?_) (fun c3940 => ?_))
          · have k3941 : H3923 x 9 = H3619 x 9 := (f3928 x 9 _ gx rfl)
            have k3942 : H3923 m 6 = H3619 m 6 := (f3928 m 6 _ gm rfl)
            have k3943 : H3923 x 11 = H3619 x 11 := (f3928 x 11 _ gx rfl)
            have k3944 : H3923 m 13 = H3619 m 13 := (f3928 m 13 _ gm rfl)
            have k3945 : H3923 x 8 = H3619 x 8 := (f3928 x 8 _ gx rfl)
            have k3946 : H3923 m 3 = H3619 m 3 := (f3928 m 3 _ gm rfl)
            have k3947 : H3923 x 0 = H x 0 := ((f3928 x 0 _ gx rfl).trans (f3624 x 0 _ gx rfl))
            have q3948 : H3923 x 0 = (tc : Int) := k3947.trans e0
            have k3949 : H3923 m 5 = H m 5 := ((f3928 m 5 _ gm rfl).trans (f3624 m 5 _ gm rfl))
            have q3950 : H3923 m 5 = (tm : Int) := k3949.trans em
            have k3951 : H3923 x 6 = H x 6 := ((f3928 x 6 _ gx rfl).trans (f3624 x 6 _ gx rfl))
            have q3952 : H3923 x 6 = (cu : Int) := k3951.trans ecu
            have k3953 : H3923 x 7 = H x 7 := ((f3928 x 7 _ gx rfl).trans (f3624 x 7 _ gx rfl))
            have q3954 : H3923 x 7 = (dr : Int) := k3953.trans edr
            have h3955 : CEN T H3923 ce8 e8 d8 := (CEN_fr w3623 gce8 f3928 rfl a3633)
            have h3956 : TP T H3923 tc B := (TP_fr w3623 gtc f3928 rfl (TP_fr hW gtc f3624 rfl htc))
            have h3957 : TM T H3923 tm B := (TM_fr w3623 gtm f3928 rfl (TM_fr hW gtm f3624 rfl htm))
            have h3958 : DD T H3923 cu  := (DD_fr w3623 gcu f3928 rfl (DD_fr hW gcu f3624 rfl hcu))
            have h3959 : DD T H3923 dr  := (DD_fr w3623 gdr f3928 rfl (DD_fr hW gdr f3624 rfl hdr))
            have h3960 : DE T H3923 cu  := (DE_fr w3623 gcu f3928 rfl (DE_fr hW gcu f3624 rfl hdec))
            have h3961 : DE T H3923 dr  := (DE_fr w3623 gdr f3928 rfl (DE_fr hW gdr f3624 rfl hded))
            have h3962 : SP T H3923 x C8 := (SP_fr w3623 gx f3928 rfl (SP_fr hW gx f3624 rfl hsp))
            have h3963 : CU T H3923 cu e8 d8 n8 := (CU_fr w3623 gcu f3928 rfl (CU_fr hW gcu f3624 rfl hcu8))
            have h3964 : CY T H3923 cu (d8 0 3) g8 (H cu 17) := (CY_fr w3623 gcu f3928 rfl (CY_fr hW gcu f3624 rfl h3612))
            have k3965 : H3923 x 3 = H x 3 := ((f3928 x 3 _ gx rfl).trans (f3624 x 3 _ gx rfl))
            have q3966 : H3923 x 3 = (ce8 : Int) := k3965.trans ece8
            have h3967 : HDR T H3923 ce8  := (HDR_fr w3623 gce8 f3928 rfl (HDR_fr hW gce8 f3624 rfl hhdr8))
            have h3968 : RY T H3923 m (d8 0 3) g8 (H m 32) := (RY_fr w3623 gm f3928 rfl (RY_fr hW gm f3624 rfl h3613))
            have h3969 : RB T H3923 m e8 d8 := (RB_fr w3623 gm f3928 rfl h3919)
            exact WL.loc hX (by simp) (next T H3923 ⟨⟨w3927, g0, gx, gm, go, by omega, by omega⟩, ⟨_, tc, tm, cu, dr, _, _, _, _, _, ce8, q3948, gtc, h3956, q3950, gtm, h3957, q3952, gcu, q3954, gdr, h3958, h3959, h3960, h3961, h3962, hC1, hC2, h3963, h3969, (h3964).1, (h3968).1, hE, hZ, (by omega), (by assumption), (by omega), (by first | assumption | exact SG_0), q3966, gce8, h3955, h3967, a3935, gm⟩, by omega, by omega⟩ (by omega) (by omega))
          · refine wl_of hX hb cL_880 (rw_iconst (pc' := 881) rfl ?_)
            exfalso
            omega
        · show WL _ _ _ _ 877 [(4, vI i), (3, .ref o), (2, .ref m), (1, .ref x), (0, .ref 0)] [vI z3929, vI z3625] _ H3923
          refine wl_of hX hb cL_877 (rw_icmp_eq (p1 := 1653) (p2 := 880) (by decide) rfl ⟨b3626.1, b3626.2⟩ ⟨b3930.1, b3930.2⟩ (fun c3970 => ?_) (fun c3970 => ?_))
          · have k3971 : H3923 x 9 = H3619 x 9 := (f3928 x 9 _ gx rfl)
            have k3972 : H3923 m 6 = H3619 m 6 := (f3928 m 6 _ gm rfl)
            have k3973 : H3923 x 11 = H3619 x 11 := (f3928 x 11 _ gx rfl)
            have k3974 : H3923 m 13 = H3619 m 13 := (f3928 m 13 _ gm rfl)
            have k3975 : H3923 x 8 = H3619 x 8 := (f3928 x 8 _ gx rfl)
            have k3976 : H3923 m 3 = H3619 m 3 := (f3928 m 3 _ gm rfl)
            have k3977 : H3923 x 0 = H x 0 := ((f3928 x 0 _ gx rfl).trans (f3624 x 0 _ gx rfl))
            have q3978 : H3923 x 0 = (tc : Int) := k3977.trans e0
            have k3979 : H3923 m 5 = H m 5 := ((f3928 m 5 _ gm rfl).trans (f3624 m 5 _ gm rfl))
            have q3980 : H3923 m 5 = (tm : Int) := k3979.trans em
            have k3981 : H3923 x 6 = H x 6 := ((f3928 x 6 _ gx rfl).trans (f3624 x 6 _ gx rfl))
            have q3982 : H3923 x 6 = (cu : Int) := k3981.trans ecu
            have k3983 : H3923 x 7 = H x 7 := ((f3928 x 7 _ gx rfl).trans (f3624 x 7 _ gx rfl))
            have q3984 : H3923 x 7 = (dr : Int) := k3983.trans edr
            have h3985 : CEN T H3923 ce8 e8 d8 := (CEN_fr w3623 gce8 f3928 rfl a3633)
            have h3986 : TP T H3923 tc B := (TP_fr w3623 gtc f3928 rfl (TP_fr hW gtc f3624 rfl htc))
            have h3987 : TM T H3923 tm B := (TM_fr w3623 gtm f3928 rfl (TM_fr hW gtm f3624 rfl htm))
            have h3988 : DD T H3923 cu  := (DD_fr w3623 gcu f3928 rfl (DD_fr hW gcu f3624 rfl hcu))
            have h3989 : DD T H3923 dr  := (DD_fr w3623 gdr f3928 rfl (DD_fr hW gdr f3624 rfl hdr))
            have h3990 : DE T H3923 cu  := (DE_fr w3623 gcu f3928 rfl (DE_fr hW gcu f3624 rfl hdec))
            have h3991 : DE T H3923 dr  := (DE_fr w3623 gdr f3928 rfl (DE_fr hW gdr f3624 rfl hded))
            have h3992 : SP T H3923 x C8 := (SP_fr w3623 gx f3928 rfl (SP_fr hW gx f3624 rfl hsp))
            have h3993 : CU T H3923 cu e8 d8 n8 := (CU_fr w3623 gcu f3928 rfl (CU_fr hW gcu f3624 rfl hcu8))
            have h3994 : CY T H3923 cu (d8 0 3) g8 (H cu 17) := (CY_fr w3623 gcu f3928 rfl (CY_fr hW gcu f3624 rfl h3612))
            have k3995 : H3923 x 3 = H x 3 := ((f3928 x 3 _ gx rfl).trans (f3624 x 3 _ gx rfl))
            have q3996 : H3923 x 3 = (ce8 : Int) := k3995.trans ece8
            have h3997 : HDR T H3923 ce8  := (HDR_fr w3623 gce8 f3928 rfl (HDR_fr hW gce8 f3624 rfl hhdr8))
            have h3998 : RY T H3923 m (d8 0 3) g8 (H m 32) := (RY_fr w3623 gm f3928 rfl (RY_fr hW gm f3624 rfl h3613))
            have h3999 : RB T H3923 m e8 d8 := (RB_fr w3623 gm f3928 rfl h3919)
            exact WL.loc hX (by simp) (next T H3923 ⟨⟨w3927, g0, gx, gm, go, by omega, by omega⟩, ⟨_, tc, tm, cu, dr, _, _, _, _, _, ce8, q3978, gtc, h3986, q3980, gtm, h3987, q3982, gcu, q3984, gdr, h3988, h3989, h3990, h3991, h3992, hC1, hC2, h3993, h3999, (h3994).1, (h3998).1, hE, hZ, (by omega), (by assumption), (by omega), (by first | assumption | exact SG_0), q3996, gce8, h3985, h3997, a3939, gm⟩, by omega, by omega⟩ (by omega) (by omega))
          · refine wl_of hX hb cL_880 (rw_iconst (pc' := 881) rfl ?_)
            exfalso
            omega
