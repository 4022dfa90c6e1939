/-! THE LAW, GONE ON WITH (own work) -/
set_option maxHeartbeats 4000000 in
theorem wl_c16 {kt : Nat → Option mc_E} {CB SB : Nat} {X : mc_S → Prop} {T : wq_T} {H : wq_H} {Len x m o : Nat} {i : Int} (hX : wlX kt CB SB X) (hb : T.2.1 ≤ CB ∧ T.2.2.1 ≤ SB) (hI : wlJ Len x m o T H) (hL : Len ≤ 3072) (hi : 0 ≤ i ∧ i + 6 ≤ Len) (hb2 : T.2.1 + 20 ≤ CB ∧ T.2.2.1 + 500 ≤ SB)  (next : ∀ T' H', wlJ Len x m o T' H' → T'.2.1 ≤ T.2.1 + 20 → T'.2.2.1 ≤ T.2.2.1 + 500 → WL kt CB SB X 1653 (wlL i x m o) [] T' H') : WL kt CB SB X 668 (wlL i x m o) [] T H := by
  obtain ⟨⟨hW, g0, gx, gm, go, hK, hr⟩, hXI, hY1, hY2⟩ := hI
  refine wl_of hX hb cL_668 (rw_aload_n (pc' := 669) (v := .ref x) rfl rfl rfl ?_)
  refine wl_of hX hb cL_669 (rw_aload_n (pc' := 670) (v := .ref 0) rfl rfl rfl ?_)
  refine wl_of hX hb cL_670 (rw_iload (pc' := 672) (z := i) rfl rfl ?_)
  refine wl_of hX hb cL_672 (rw_iconst (pc' := 673) rfl ?_)
  refine wl_of hX hb cL_673 (rw_iadd (pc' := 674) rfl ?_)
  refine wl_of hX hb cL_674 (xa_I (so := 0) (pc' := 675) (a := 0) hW g0 (wsh_s _) (by omega) (wty_s _ _) (by omega) (by omega) rfl (fun b3008 b3009 => ?_))
  refine wl_of hX hb cL_675 (rw_aload_n (pc' := 676) (v := .ref 0) rfl rfl rfl ?_)
  refine wl_of hX hb cL_676 (rw_iload (pc' := 678) (z := i) rfl rfl ?_)
  refine wl_of hX hb cL_678 (rw_iconst (pc' := 679) rfl ?_)
  refine wl_of hX hb cL_679 (rw_iadd (pc' := 680) rfl ?_)
  refine wl_of hX hb cL_680 (xa_I (so := 0) (pc' := 681) (a := 0) hW g0 (wsh_s _) (by omega) (wty_s _ _) (by omega) (by omega) rfl (fun b3010 b3011 => ?_))
  obtain ⟨B, tc, tm, cu, dr, C8, e8, d8, n8, g8, ce8, e0, gtc, htc, em, gtm, htm, ecu, gcu, edr, gdr, hcu, hdr, hdec, hded, hsp, hC1, hC2, hcu8, hrb8, hcg8, hmn8, hE, hZ, hn8, hXA, hV8, hSG, ece8, gce8, hcen8, hhdr8, hknn8, -⟩ := hXI
  have hN3 := RB_n3 hrb8
  have hE13 : ∀ h : Nat, h < 24 → 0 ≤ e8 13 h ∧ e8 13 h ≤ 100 := fun k hk => by
    obtain ⟨s, h1, h2, h3⟩ := hcu8.1.2.2.1
    exact ⟨(h3 k hk).1, (h3 k hk).2.1⟩
  have hXW := hXA.1
  have hXN := hXA.2
  have hE0 : e8 0 3 = d8 0 3 ∧ e8 0 0 = d8 0 0 := by
    have h := hE 0 (by decide)
    exact ⟨congrFun h 3, congrFun h 0⟩
  have u3012 := CU_k hcu8
  have h3013 : CY T H cu (d8 0 3) g8 (H cu 17) := ⟨hcg8, rfl⟩
  have h3014 : RY T H m (d8 0 3) g8 (H m 32) := ⟨hmn8, rfl⟩
  obtain ⟨t9, ht9⟩ : ∃ t : Int, t = H x 9 := ⟨_, rfl⟩
  obtain ⟨y9, hy9⟩ : ∃ y : Int, y = H 0 ((i + 2).toNat) := ⟨_, rfl⟩
  obtain ⟨r3015, q3016, g3017⟩ := hW.ref gx (t' := 6) (n := 13) (j := 2) (p := 0) (q := 0) rfl (by decide) rfl
  refine wl_of hX hb cL_681 (xc_V (pc' := 684) (r := x) (as := [vI (H 0 ((i + 1).toNat)), vI (H 0 ((i + 2).toNat))]) (st := []) (lm_11_88) rfl rfl (Nat.le_of_ble_eq_true rfl) hW gx sh_1 (by decide) rfl (by decide) (u_93 (e := e8) (d := d8) (n := n8) hW gx ⟨by omega, by omega⟩ ⟨by omega, by omega⟩ ecu gcu q3016 g3017 ece8 gce8 (by assumption) (by assumption) (by omega) (by omega) (by omega) (by omega) hcu8 hcen8 hhdr8) (fun R3018 T3019 H3020 p3021 => ?_))
  obtain ⟨e3022, w3024, f3025, z3026, e3023, b3027, p3028⟩ := p3021
  subst e3022
  subst e3023
  show WL _ _ _ _ 684 [(4, vI i), (3, .ref o), (2, .ref m), (1, .ref x), (0, .ref 0)] [vI z3026] _ H3020
  refine wl_of hX hb cL_684 (rw_pop (pc' := 685) rfl rfl ?_)
  refine wl_of hX hb cL_685 (rw_aload_n (pc' := 686) (v := .ref m) rfl rfl rfl ?_)
  refine wl_of hX hb cL_686 (rw_aload_n (pc' := 687) (v := .ref 0) rfl rfl rfl ?_)
  refine wl_of hX hb cL_687 (rw_iload (pc' := 689) (z := i) rfl rfl ?_)
  refine wl_of hX hb cL_689 (rw_iconst (pc' := 690) rfl ?_)
  refine wl_of hX hb cL_690 (rw_iadd (pc' := 691) rfl ?_)
  have k3032 : H3020 0 ((i + 1).toNat) = H 0 ((i + 1).toNat) := (f3025 0 ((i + 1).toNat) _ g0 (wmem_s rfl))
  refine wl_of hX hb cL_691 (xa_I (so := 0) (pc' := 692) (a := 0) w3024 g0 (wsh_s _) (by omega) (wty_s _ _) (by omega) (by omega) rfl (fun b3030 b3031 => ?_))
  refine wl_of hX hb cL_692 (rw_aload_n (pc' := 693) (v := .ref 0) rfl rfl rfl ?_)
  refine wl_of hX hb cL_693 (rw_iload (pc' := 695) (z := i) rfl rfl ?_)
  refine wl_of hX hb cL_695 (rw_iconst (pc' := 696) rfl ?_)
  refine wl_of hX hb cL_696 (rw_iadd (pc' := 697) rfl ?_)
  have k3035 : H3020 0 ((i + 2).toNat) = H 0 ((i + 2).toNat) := (f3025 0 ((i + 2).toNat) _ g0 (wmem_s rfl))
  refine wl_of hX hb cL_697 (xa_I (so := 0) (pc' := 698) (a := 0) w3024 g0 (wsh_s _) (by omega) (wty_s _ _) (by omega) (by omega) rfl (fun b3033 b3034 => ?_))
  have k3036 : wKI H3020 m = wKI H m := (wKI_fr hW gm f3025 rfl)
  have k3037 : H3020 x 9 = H x 9 := (f3025 x 9 _ gx rfl)
  have k3038 : H3020 m 6 = H m 6 := (f3025 m 6 _ gm rfl)
  have k3039 : H3020 x 11 = H x 11 := (f3025 x 11 _ gx rfl)
  have k3040 : H3020 m 13 = H m 13 := (f3025 m 13 _ gm rfl)
  have k3041 : H3020 x 8 = H x 8 := (f3025 x 8 _ gx rfl)
  have k3042 : H3020 m 3 = H m 3 := (f3025 m 3 _ gm rfl)
  rw [show H3020 0 ((i + 2).toNat) = H 0 ((i + 2).toNat) by omega]
  rw [show H3020 0 ((i + 1).toNat) = H 0 ((i + 1).toNat) by omega]
  have h3043 : RB T H3020 m e8 d8 := (RB_fr hW gm f3025 rfl hrb8)
  have h3044 : KNN T H3020 m e8 d8 := (KNN_fr hW gm f3025 rfl hknn8)
  refine wl_of hX hb cL_698 (xc_V (pc' := 701) (r := m) (as := [vI (H 0 ((i + 1).toNat)), vI (H 0 ((i + 2).toNat))]) (st := []) (lm_11_92) rfl rfl (Nat.le_of_ble_eq_true rfl) w3024 gm sh_42 (by decide) rfl (by decide) (u_245 (e := e8) (d := d8) w3024 gm ⟨by omega, by omega⟩ ⟨by omega, by omega⟩ (by omega) (by assumption) (by assumption) (by assumption) (by assumption) h3043 h3044) (fun R3045 T3046 H3047 p3048 => ?_))
  obtain ⟨e3049, w3051, f3052, z3053, e3050, b3054, p3055⟩ := p3048
  subst e3049
  subst e3050
  obtain ⟨a3056, a3057⟩ := p3055
  show WL _ _ _ _ 701 [(4, vI i), (3, .ref o), (2, .ref m), (1, .ref x), (0, .ref 0)] [vI z3053] _ H3047
  refine wl_of hX hb cL_701 (rw_pop (pc' := 702) rfl rfl ?_)
  refine wl_of hX hb cL_702 (rw_goto (p1 := 1653) (by decide) ?_)
  have k3058 : H3047 x 9 = H3020 x 9 := (f3052 x 9 _ gx rfl)
  have k3059 : H3047 m 6 = H3020 m 6 := (f3052 m 6 _ gm rfl)
  have k3060 : H3047 x 11 = H3020 x 11 := (f3052 x 11 _ gx rfl)
  have k3061 : H3047 m 13 = H3020 m 13 := (f3052 m 13 _ gm rfl)
  have k3062 : H3047 x 8 = H3020 x 8 := (f3052 x 8 _ gx rfl)
  have k3063 : H3047 m 3 = H3020 m 3 := (f3052 m 3 _ gm rfl)
  have k3064 : H3047 x 0 = H x 0 := ((f3052 x 0 _ gx rfl).trans (f3025 x 0 _ gx rfl))
  have q3065 : H3047 x 0 = (tc : Int) := k3064.trans e0
  have k3066 : H3047 m 5 = H m 5 := ((f3052 m 5 _ gm rfl).trans (f3025 m 5 _ gm rfl))
  have q3067 : H3047 m 5 = (tm : Int) := k3066.trans em
  have k3068 : H3047 x 6 = H x 6 := ((f3052 x 6 _ gx rfl).trans (f3025 x 6 _ gx rfl))
  have q3069 : H3047 x 6 = (cu : Int) := k3068.trans ecu
  have k3070 : H3047 x 7 = H x 7 := ((f3052 x 7 _ gx rfl).trans (f3025 x 7 _ gx rfl))
  have q3071 : H3047 x 7 = (dr : Int) := k3070.trans edr
  have h3072 : CEN T H3047 ce8 e8 d8 := (CEN_fr w3024 gce8 f3052 rfl p3028)
  have h3073 : TP T H3047 tc B := (TP_fr w3024 gtc f3052 rfl (TP_fr hW gtc f3025 rfl htc))
  have h3074 : TM T H3047 tm B := (TM_fr w3024 gtm f3052 rfl (TM_fr hW gtm f3025 rfl htm))
  have h3075 : DD T H3047 cu  := (DD_fr w3024 gcu f3052 rfl (DD_fr hW gcu f3025 rfl hcu))
  have h3076 : DD T H3047 dr  := (DD_fr w3024 gdr f3052 rfl (DD_fr hW gdr f3025 rfl hdr))
  have h3077 : DE T H3047 cu  := (DE_fr w3024 gcu f3052 rfl (DE_fr hW gcu f3025 rfl hdec))
  have h3078 : DE T H3047 dr  := (DE_fr w3024 gdr f3052 rfl (DE_fr hW gdr f3025 rfl hded))
  have h3079 : SP T H3047 x C8 := (SP_fr w3024 gx f3052 rfl (SP_fr hW gx f3025 rfl hsp))
  have h3080 : CU T H3047 cu e8 d8 n8 := (CU_fr w3024 gcu f3052 rfl (CU_fr hW gcu f3025 rfl hcu8))
  have h3081 : CY T H3047 cu (d8 0 3) g8 (H cu 17) := (CY_fr w3024 gcu f3052 rfl (CY_fr hW gcu f3025 rfl h3013))
  have k3082 : H3047 x 3 = H x 3 := ((f3052 x 3 _ gx rfl).trans (f3025 x 3 _ gx rfl))
  have q3083 : H3047 x 3 = (ce8 : Int) := k3082.trans ece8
  have h3084 : HDR T H3047 ce8  := (HDR_fr w3024 gce8 f3052 rfl (HDR_fr hW gce8 f3025 rfl hhdr8))
  have h3085 : RY T H3047 m (d8 0 3) g8 (H m 32) := (RY_fr w3024 gm f3052 rfl (RY_fr hW gm f3025 rfl h3014))
  have h3086 : RB T H3047 m e8 d8 := (RB_fr w3024 gm f3052 rfl h3043)
  exact WL.loc hX (by simp) (next T H3047 ⟨⟨w3051, g0, gx, gm, go, by omega, by omega⟩, ⟨_, tc, tm, cu, dr, _, _, _, _, _, ce8, q3065, gtc, h3073, q3067, gtm, h3074, q3069, gcu, q3071, gdr, h3075, h3076, h3077, h3078, h3079, hC1, hC2, h3080, h3086, (h3081).1, (h3085).1, hE, hZ, (by omega), (by assumption), (by omega), (by first | assumption | exact SG_0), q3083, gce8, h3072, h3084, a3057, gm⟩, by omega, by omega⟩ (by omega) (by omega))
set_option maxHeartbeats 4000000 in
theorem wl_c17 {kt : Nat → Option mc_E} {CB SB : Nat} {X : mc_S → Prop} {T : wq_T} {H : wq_H} {Len x m o : Nat} {i : Int} (hX : wlX kt CB SB X) (hb : T.2.1 ≤ CB ∧ T.2.2.1 ≤ SB) (hI : wlJ Len x m o T H) (hL : Len ≤ 3072) (hi : 0 ≤ i ∧ i + 6 ≤ Len) (hb2 : T.2.1 + 20 ≤ CB ∧ T.2.2.1 + 500 ≤ SB)  (next : ∀ T' H', wlJ Len x m o T' H' → T'.2.1 ≤ T.2.1 + 20 → T'.2.2.1 ≤ T.2.2.1 + 500 → WL kt CB SB X 1653 (wlL i x m o) [] T' H') : WL kt CB SB X 705 (wlL i x m o) [] T H := by
  obtain ⟨⟨hW, g0, gx, gm, go, hK, hr⟩, hXI, hY1, hY2⟩ := hI
  refine wl_of hX hb cL_705 (rw_aload_n (pc' := 706) (v := .ref x) rfl rfl rfl ?_)
  obtain ⟨B, tc, tm, cu, dr, C8, e8, d8, n8, g8, ce8, e0, gtc, htc, em, gtm, htm, ecu, gcu, edr, gdr, hcu, hdr, hdec, hded, hsp, hC1, hC2, hcu8, hrb8, hcg8, hmn8, hE, hZ, hn8, hXA, hV8, hSG, ece8, gce8, hcen8, hhdr8, hknn8, -⟩ := hXI
  have hN3 := RB_n3 hrb8
  have hE13 : ∀ h : Nat, h < 24 → 0 ≤ e8 13 h ∧ e8 13 h ≤ 100 := fun k hk => by
    obtain ⟨s, h1, h2, h3⟩ := hcu8.1.2.2.1
    exact ⟨(h3 k hk).1, (h3 k hk).2.1⟩
  have hXW := hXA.1
  have hXN := hXA.2
  have hE0 : e8 0 3 = d8 0 3 ∧ e8 0 0 = d8 0 0 := by
    have h := hE 0 (by decide)
    exact ⟨congrFun h 3, congrFun h 0⟩
  have u3087 := CU_k hcu8
  have h3088 : CY T H cu (d8 0 3) g8 (H cu 17) := ⟨hcg8, rfl⟩
  have h3089 : RY T H m (d8 0 3) g8 (H m 32) := ⟨hmn8, rfl⟩
  obtain ⟨t9, ht9⟩ : ∃ t : Int, t = H x 9 := ⟨_, rfl⟩
  obtain ⟨r3090, q3091, g3092⟩ := hW.ref gx (t' := 6) (n := 13) (j := 2) (p := 0) (q := 0) rfl (by decide) rfl
  refine wl_of hX hb cL_706 (xc_V (pc' := 709) (r := x) (as := []) (st := []) (lm_11_93) rfl rfl (Nat.le_of_ble_eq_true rfl) hW gx sh_1 (by decide) rfl (by decide) (u_97 (e := e8) (d := d8) (n := n8) hW gx ecu gcu q3091 g3092 ece8 gce8 (by assumption) (by assumption) (by omega) (by omega) (by omega) (by omega) hcu8 hcen8 hhdr8) (fun R3093 T3094 H3095 p3096 => ?_))
  obtain ⟨e3097, w3099, f3100, z3101, e3098, b3102, p3103⟩ := p3096
  subst e3097
  subst e3098
  show WL _ _ _ _ 709 [(4, vI i), (3, .ref o), (2, .ref m), (1, .ref x), (0, .ref 0)] [vL z3101] _ H3095
  refine wl_of hX hb cL_709 (rw_pop2 (pc' := 710) rfl rfl ?_)
  refine wl_of hX hb cL_710 (rw_aload_n (pc' := 711) (v := .ref m) rfl rfl rfl ?_)
  have k3105 : wKI H3095 m = wKI H m := (wKI_fr hW gm f3100 rfl)
  have k3106 : H3095 x 9 = H x 9 := (f3100 x 9 _ gx rfl)
  have k3107 : H3095 m 6 = H m 6 := (f3100 m 6 _ gm rfl)
  have k3108 : H3095 x 11 = H x 11 := (f3100 x 11 _ gx rfl)
  have k3109 : H3095 m 13 = H m 13 := (f3100 m 13 _ gm rfl)
  have k3110 : H3095 x 8 = H x 8 := (f3100 x 8 _ gx rfl)
  have k3111 : H3095 m 3 = H m 3 := (f3100 m 3 _ gm rfl)
  have h3112 : RB T H3095 m e8 d8 := (RB_fr hW gm f3100 rfl hrb8)
  have h3113 : KNN T H3095 m e8 d8 := (KNN_fr hW gm f3100 rfl hknn8)
  refine wl_of hX hb cL_711 (xc_V (pc' := 714) (r := m) (as := []) (st := []) (lm_11_96) rfl rfl (Nat.le_of_ble_eq_true rfl) w3099 gm sh_42 (by decide) rfl (by decide) (u_246 (e := e8) (d := d8) w3099 gm (by omega) (by assumption) (by assumption) (by assumption) (by assumption) h3112 h3113) (fun R3114 T3115 H3116 p3117 => ?_))
  obtain ⟨e3118, w3120, f3121, z3122, e3119, b3123, p3124⟩ := p3117
  subst e3118
  subst e3119
  obtain ⟨a3125, a3126⟩ := p3124
  show WL _ _ _ _ 714 [(4, vI i), (3, .ref o), (2, .ref m), (1, .ref x), (0, .ref 0)] [vL z3122] _ H3116
  refine wl_of hX hb cL_714 (rw_pop2 (pc' := 715) rfl rfl ?_)
  refine wl_of hX hb cL_715 (rw_goto (p1 := 1653) (by decide) ?_)
  have k3127 : H3116 x 9 = H3095 x 9 := (f3121 x 9 _ gx rfl)
  have k3128 : H3116 m 6 = H3095 m 6 := (f3121 m 6 _ gm rfl)
  have k3129 : H3116 x 11 = H3095 x 11 := (f3121 x 11 _ gx rfl)
  have k3130 : H3116 m 13 = H3095 m 13 := (f3121 m 13 _ gm rfl)
  have k3131 : H3116 x 8 = H3095 x 8 := (f3121 x 8 _ gx rfl)
  have k3132 : H3116 m 3 = H3095 m 3 := (f3121 m 3 _ gm rfl)
  have k3133 : H3116 x 0 = H x 0 := ((f3121 x 0 _ gx rfl).trans (f3100 x 0 _ gx rfl))
  have q3134 : H3116 x 0 = (tc : Int) := k3133.trans e0
  have k3135 : H3116 m 5 = H m 5 := ((f3121 m 5 _ gm rfl).trans (f3100 m 5 _ gm rfl))
  have q3136 : H3116 m 5 = (tm : Int) := k3135.trans em
  have k3137 : H3116 x 6 = H x 6 := ((f3121 x 6 _ gx rfl).trans (f3100 x 6 _ gx rfl))
  have q3138 : H3116 x 6 = (cu : Int) := k3137.trans ecu
  have k3139 : H3116 x 7 = H x 7 := ((f3121 x 7 _ gx rfl).trans (f3100 x 7 _ gx rfl))
  have q3140 : H3116 x 7 = (dr : Int) := k3139.trans edr
  have h3141 : CEN T H3116 ce8 e8 d8 := (CEN_fr w3099 gce8 f3121 rfl p3103)
  have h3142 : TP T H3116 tc B := (TP_fr w3099 gtc f3121 rfl (TP_fr hW gtc f3100 rfl htc))
  have h3143 : TM T H3116 tm B := (TM_fr w3099 gtm f3121 rfl (TM_fr hW gtm f3100 rfl htm))
  have h3144 : DD T H3116 cu  := (DD_fr w3099 gcu f3121 rfl (DD_fr hW gcu f3100 rfl hcu))
  have h3145 : DD T H3116 dr  := (DD_fr w3099 gdr f3121 rfl (DD_fr hW gdr f3100 rfl hdr))
  have h3146 : DE T H3116 cu  := (DE_fr w3099 gcu f3121 rfl (DE_fr hW gcu f3100 rfl hdec))
  have h3147 : DE T H3116 dr  := (DE_fr w3099 gdr f3121 rfl (DE_fr hW gdr f3100 rfl hded))
  have h3148 : SP T H3116 x C8 := (SP_fr w3099 gx f3121 rfl (SP_fr hW gx f3100 rfl hsp))
  have h3149 : CU T H3116 cu e8 d8 n8 := (CU_fr w3099 gcu f3121 rfl (CU_fr hW gcu f3100 rfl hcu8))
  have h3150 : CY T H3116 cu (d8 0 3) g8 (H cu 17) := (CY_fr w3099 gcu f3121 rfl (CY_fr hW gcu f3100 rfl h3088))
  have k3151 : H3116 x 3 = H x 3 := ((f3121 x 3 _ gx rfl).trans (f3100 x 3 _ gx rfl))
  have q3152 : H3116 x 3 = (ce8 : Int) := k3151.trans ece8
  have h3153 : HDR T H3116 ce8  := (HDR_fr w3099 gce8 f3121 rfl (HDR_fr hW gce8 f3100 rfl hhdr8))
  have h3154 : RY T H3116 m (d8 0 3) g8 (H m 32) := (RY_fr w3099 gm f3121 rfl (RY_fr hW gm f3100 rfl h3089))
  have h3155 : RB T H3116 m e8 d8 := (RB_fr w3099 gm f3121 rfl h3112)
  exact WL.loc hX (by simp) (next T H3116 ⟨⟨w3120, g0, gx, gm, go, by omega, by omega⟩, ⟨_, tc, tm, cu, dr, _, _, _, _, _, ce8, q3134, gtc, h3142, q3136, gtm, h3143, q3138, gcu, q3140, gdr, h3144, h3145, h3146, h3147, h3148, hC1, hC2, h3149, h3155, (h3150).1, (h3154).1, hE, hZ, (by omega), (by assumption), (by omega), (by first | assumption | exact SG_0), q3152, gce8, h3141, h3153, a3126, gm⟩, by omega, by omega⟩ (by omega) (by omega))
set_option maxHeartbeats 4000000 in
theorem wl_c18 {kt : Nat → Option mc_E} {CB SB : Nat} {X : mc_S → Prop} {T : wq_T} {H : wq_H} {Len x m o : Nat} {i : Int} (hX : wlX kt CB SB X) (hb : T.2.1 ≤ CB ∧ T.2.2.1 ≤ SB) (hI : wlJ Len x m o T H) (hL : Len ≤ 3072) (hi : 0 ≤ i ∧ i + 6 ≤ Len) (hb2 : T.2.1 + 20 ≤ CB ∧ T.2.2.1 + 500 ≤ SB)  (next : ∀ T' H', wlJ Len x m o T' H' → T'.2.1 ≤ T.2.1 + 20 → T'.2.2.1 ≤ T.2.2.1 + 500 → WL kt CB SB X 1653 (wlL i x m o) [] T' H') : WL kt CB SB X 718 (wlL i x m o) [] T H := by
  obtain ⟨⟨hW, g0, gx, gm, go, hK, hr⟩, hXI, hY1, hY2⟩ := hI
  refine wl_of hX hb cL_718 (rw_aload_n (pc' := 719) (v := .ref x) rfl rfl rfl ?_)
  refine wl_of hX hb cL_719 (rw_aload_n (pc' := 720) (v := .ref 0) rfl rfl rfl ?_)
  refine wl_of hX hb cL_720 (rw_iload (pc' := 722) (z := i) rfl rfl ?_)
  refine wl_of hX hb cL_722 (rw_iconst (pc' := 723) rfl ?_)
  refine wl_of hX hb cL_723 (rw_iadd (pc' := 724) rfl ?_)
  refine wl_of hX hb cL_724 (xa_I (so := 0) (pc' := 725) (a := 0) hW g0 (wsh_s _) (by omega) (wty_s _ _) (by omega) (by omega) rfl (fun b3156 b3157 => ?_))
  refine wl_of hX hb cL_725 (rw_aload_n (pc' := 726) (v := .ref 0) rfl rfl rfl ?_)
  refine wl_of hX hb cL_726 (rw_iload (pc' := 728) (z := i) rfl rfl ?_)
  refine wl_of hX hb cL_728 (rw_iconst (pc' := 729) rfl ?_)
  refine wl_of hX hb cL_729 (rw_iadd (pc' := 730) rfl ?_)
  refine wl_of hX hb cL_730 (xa_I (so := 0) (pc' := 731) (a := 0) hW g0 (wsh_s _) (by omega) (wty_s _ _) (by omega) (by omega) rfl (fun b3158 b3159 => ?_))
  obtain ⟨B, tc, tm, cu, dr, C8, e8, d8, n8, g8, ce8, e0, gtc, htc, em, gtm, htm, ecu, gcu, edr, gdr, hcu, hdr, hdec, hded, hsp, hC1, hC2, hcu8, hrb8, hcg8, hmn8, hE, hZ, hn8, hXA, hV8, hSG, ece8, gce8, hcen8, hhdr8, hknn8, -⟩ := hXI
  have hN3 := RB_n3 hrb8
  have hE13 : ∀ h : Nat, h < 24 → 0 ≤ e8 13 h ∧ e8 13 h ≤ 100 := fun k hk => by
    obtain ⟨s, h1, h2, h3⟩ := hcu8.1.2.2.1
    exact ⟨(h3 k hk).1, (h3 k hk).2.1⟩
  have hXW := hXA.1
  have hXN := hXA.2
  have hE0 : e8 0 3 = d8 0 3 ∧ e8 0 0 = d8 0 0 := by
    have h := hE 0 (by decide)
    exact ⟨congrFun h 3, congrFun h 0⟩
  have u3160 := CU_k hcu8
  have h3161 : CY T H cu (d8 0 3) g8 (H cu 17) := ⟨hcg8, rfl⟩
  have h3162 : RY T H m (d8 0 3) g8 (H m 32) := ⟨hmn8, rfl⟩
  obtain ⟨t9, ht9⟩ : ∃ t : Int, t = H x 9 := ⟨_, rfl⟩
  obtain ⟨y9, hy9⟩ : ∃ y : Int, y = H 0 ((i + 2).toNat) := ⟨_, rfl⟩
  obtain ⟨r3163, q3164, g3165⟩ := hW.ref gx (t' := 6) (n := 13) (j := 2) (p := 0) (q := 0) rfl (by decide) rfl
  refine wl_of hX hb cL_731 (xc_V (pc' := 734) (r := x) (as := [vI (H 0 ((i + 1).toNat)), vI (H 0 ((i + 2).toNat))]) (st := []) (lm_11_97) rfl rfl (Nat.le_of_ble_eq_true rfl) hW gx sh_1 (by decide) rfl (by decide) (u_98 (e := e8) (d := d8) (n := n8) hW gx ⟨by omega, by omega⟩ ⟨by omega, by omega⟩ ecu gcu q3164 g3165 ece8 gce8 (by assumption) (by assumption) (by omega) (by omega) (by omega) (by omega) hcu8 hcen8 hhdr8) (fun R3166 T3167 H3168 p3169 => ?_))
  obtain ⟨e3170, w3172, f3173, z3174, e3171, b3175, p3176⟩ := p3169
  subst e3170
  subst e3171
  show WL _ _ _ _ 734 [(4, vI i), (3, .ref o), (2, .ref m), (1, .ref x), (0, .ref 0)] [vI z3174] _ H3168
  refine wl_of hX hb cL_734 (rw_pop (pc' := 735) rfl rfl ?_)
  refine wl_of hX hb cL_735 (rw_aload_n (pc' := 736) (v := .ref m) rfl rfl rfl ?_)
  refine wl_of hX hb cL_736 (rw_aload_n (pc' := 737) (v := .ref 0) rfl rfl rfl ?_)
  refine wl_of hX hb cL_737 (rw_iload (pc' := 739) (z := i) rfl rfl ?_)
  refine wl_of hX hb cL_739 (rw_iconst (pc' := 740) rfl ?_)
  refine wl_of hX hb cL_740 (rw_iadd (pc' := 741) rfl ?_)
  have k3180 : H3168 0 ((i + 1).toNat) = H 0 ((i + 1).toNat) := (f3173 0 ((i + 1).toNat) _ g0 (wmem_s rfl))
  refine wl_of hX hb cL_741 (xa_I (so := 0) (pc' := 742) (a := 0) w3172 g0 (wsh_s _) (by omega) (wty_s _ _) (by omega) (by omega) rfl (fun b3178 b3179 => ?_))
  refine wl_of hX hb cL_742 (rw_aload_n (pc' := 743) (v := .ref 0) rfl rfl rfl ?_)
  refine wl_of hX hb cL_743 (rw_iload (pc' := 745) (z := i) rfl rfl ?_)
  refine wl_of hX hb cL_745 (rw_iconst (pc' := 746) rfl ?_)
  refine wl_of hX hb cL_746 (rw_iadd (pc' := 747) rfl ?_)
  have k3183 : H3168 0 ((i + 2).toNat) = H 0 ((i + 2).toNat) := (f3173 0 ((i + 2).toNat) _ g0 (wmem_s rfl))
  refine wl_of hX hb cL_747 (xa_I (so := 0) (pc' := 748) (a := 0) w3172 g0 (wsh_s _) (by omega) (wty_s _ _) (by omega) (by omega) rfl (fun b3181 b3182 => ?_))
  have k3184 : wKI H3168 m = wKI H m := (wKI_fr hW gm f3173 rfl)
  have k3185 : H3168 x 9 = H x 9 := (f3173 x 9 _ gx rfl)
  have k3186 : H3168 m 6 = H m 6 := (f3173 m 6 _ gm rfl)
  have k3187 : H3168 x 11 = H x 11 := (f3173 x 11 _ gx rfl)
  have k3188 : H3168 m 13 = H m 13 := (f3173 m 13 _ gm rfl)
  have k3189 : H3168 x 8 = H x 8 := (f3173 x 8 _ gx rfl)
  have k3190 : H3168 m 3 = H m 3 := (f3173 m 3 _ gm rfl)
  rw [show H3168 0 ((i + 2).toNat) = H 0 ((i + 2).toNat) by omega]
  rw [show H3168 0 ((i + 1).toNat) = H 0 ((i + 1).toNat) by omega]
  have h3191 : RB T H3168 m e8 d8 := (RB_fr hW gm f3173 rfl hrb8)
  have h3192 : KNN T H3168 m e8 d8 := (KNN_fr hW gm f3173 rfl hknn8)
  refine wl_of hX hb cL_748 (xc_V (pc' := 751) (r := m) (as := [vI (H 0 ((i + 1).toNat)), vI (H 0 ((i + 2).toNat))]) (st := []) (lm_11_100) rfl rfl (Nat.le_of_ble_eq_true rfl) w3172 gm sh_42 (by decide) rfl (by decide) (u_249 (e := e8) (d := d8) w3172 gm ⟨by omega, by omega⟩ ⟨by omega, by omega⟩ (by omega) (by assumption) (by assumption) (by assumption) (by assumption) h3191 h3192) (fun R3193 T3194 H3195 p3196 => ?_))
  obtain ⟨e3197, w3199, f3200, z3201, e3198, b3202, p3203⟩ := p3196
  subst e3197
  subst e3198
  obtain ⟨a3204, a3205⟩ := p3203
  show WL _ _ _ _ 751 [(4, vI i), (3, .ref o), (2, .ref m), (1, .ref x), (0, .ref 0)] [vI z3201] _ H3195
  refine wl_of hX hb cL_751 (rw_pop (pc' := 752) rfl rfl ?_)
  refine wl_of hX hb cL_752 (rw_goto (p1 := 1653) (by decide) ?_)
  have k3206 : H3195 x 9 = H3168 x 9 := (f3200 x 9 _ gx rfl)
  have k3207 : H3195 m 6 = H3168 m 6 := (f3200 m 6 _ gm rfl)
  have k3208 : H3195 x 11 = H3168 x 11 := (f3200 x 11 _ gx rfl)
  have k3209 : H3195 m 13 = H3168 m 13 := (f3200 m 13 _ gm rfl)
  have k3210 : H3195 x 8 = H3168 x 8 := (f3200 x 8 _ gx rfl)
  have k3211 : H3195 m 3 = H3168 m 3 := (f3200 m 3 _ gm rfl)
  have k3212 : H3195 x 0 = H x 0 := ((f3200 x 0 _ gx rfl).trans (f3173 x 0 _ gx rfl))
  have q3213 : H3195 x 0 = (tc : Int) := k3212.trans e0
  have k3214 : H3195 m 5 = H m 5 := ((f3200 m 5 _ gm rfl).trans (f3173 m 5 _ gm rfl))
  have q3215 : H3195 m 5 = (tm : Int) := k3214.trans em
  have k3216 : H3195 x 6 = H x 6 := ((f3200 x 6 _ gx rfl).trans (f3173 x 6 _ gx rfl))
  have q3217 : H3195 x 6 = (cu : Int) := k3216.trans ecu
  have k3218 : H3195 x 7 = H x 7 := ((f3200 x 7 _ gx rfl).trans (f3173 x 7 _ gx rfl))
  have q3219 : H3195 x 7 = (dr : Int) := k3218.trans edr
  have h3220 : CEN T H3195 ce8 e8 d8 := (CEN_fr w3172 gce8 f3200 rfl p3176)
  have h3221 : TP T H3195 tc B := (TP_fr w3172 gtc f3200 rfl (TP_fr hW gtc f3173 rfl htc))
  have h3222 : TM T H3195 tm B := (TM_fr w3172 gtm f3200 rfl (TM_fr hW gtm f3173 rfl htm))
  have h3223 : DD T H3195 cu  := (DD_fr w3172 gcu f3200 rfl (DD_fr hW gcu f3173 rfl hcu))
  have h3224 : DD T H3195 dr  := (DD_fr w3172 gdr f3200 rfl (DD_fr hW gdr f3173 rfl hdr))
  have h3225 : DE T H3195 cu  := (DE_fr w3172 gcu f3200 rfl (DE_fr hW gcu f3173 rfl hdec))
  have h3226 : DE T H3195 dr  := (DE_fr w3172 gdr f3200 rfl (DE_fr hW gdr f3173 rfl hded))
  have h3227 : SP T H3195 x C8 := (SP_fr w3172 gx f3200 rfl (SP_fr hW gx f3173 rfl hsp))
  have h3228 : CU T H3195 cu e8 d8 n8 := (CU_fr w3172 gcu f3200 rfl (CU_fr hW gcu f3173 rfl hcu8))
  have h3229 : CY T H3195 cu (d8 0 3) g8 (H cu 17) := (CY_fr w3172 gcu f3200 rfl (CY_fr hW gcu f3173 rfl h3161))
  have k3230 : H3195 x 3 = H x 3 := ((f3200 x 3 _ gx rfl).trans (f3173 x 3 _ gx rfl))
  have q3231 : H3195 x 3 = (ce8 : Int) := k3230.trans ece8
  have h3232 : HDR T H3195 ce8  := (HDR_fr w3172 gce8 f3200 rfl (HDR_fr hW gce8 f3173 rfl hhdr8))
  have h3233 : RY T H3195 m (d8 0 3) g8 (H m 32) := (RY_fr w3172 gm f3200 rfl (RY_fr hW gm f3173 rfl h3162))
  have h3234 : RB T H3195 m e8 d8 := (RB_fr w3172 gm f3200 rfl h3191)
  exact WL.loc hX (by simp) (next T H3195 ⟨⟨w3199, g0, gx, gm, go, by omega, by omega⟩, ⟨_, tc, tm, cu, dr, _, _, _, _, _, ce8, q3213, gtc, h3221, q3215, gtm, h3222, q3217, gcu, q3219, gdr, h3223, h3224, h3225, h3226, h3227, hC1, hC2, h3228, h3234, (h3229).1, (h3233).1, hE, hZ, (by omega), (by assumption), (by omega), (by first | assumption | exact SG_0), q3231, gce8, h3220, h3232, a3205, gm⟩, by omega, by omega⟩ (by omega) (by omega))
set_option maxHeartbeats 4000000 in
theorem wl_c19 {kt : Nat → Option mc_E} {CB SB : Nat} {X : mc_S → Prop} {T : wq_T} {H : wq_H} {Len x m o : Nat} {i : Int} (hX : wlX kt CB SB X) (hb : T.2.1 ≤ CB ∧ T.2.2.1 ≤ SB) (hI : wlJ Len x m o T H) (hL : Len ≤ 3072) (hi : 0 ≤ i ∧ i + 6 ≤ Len) (hb2 : T.2.1 + 20 ≤ CB ∧ T.2.2.1 + 500 ≤ SB)  (next : ∀ T' H', wlJ Len x m o T' H' → T'.2.1 ≤ T.2.1 + 20 → T'.2.2.1 ≤ T.2.2.1 + 500 → WL kt CB SB X 1653 (wlL i x m o) [] T' H') : WL kt CB SB X 755 (wlL i x m o) [] T H := by
  obtain ⟨⟨hW, g0, gx, gm, go, hK, hr⟩, hXI, hY1, hY2⟩ := hI
  refine wl_of hX hb cL_755 (rw_aload_n (pc' := 756) (v := .ref x) rfl rfl rfl ?_)
  refine wl_of hX hb cL_756 (rw_aload_n (pc' := 757) (v := .ref 0) rfl rfl rfl ?_)
  refine wl_of hX hb cL_757 (rw_iload (pc' := 759) (z := i) rfl rfl ?_)
  refine wl_of hX hb cL_759 (rw_iconst (pc' := 760) rfl ?_)
  refine wl_of hX hb cL_760 (rw_iadd (pc' := 761) rfl ?_)
  refine wl_of hX hb cL_761 (xa_I (so := 0) (pc' := 762) (a := 0) hW g0 (wsh_s _) (by omega) (wty_s _ _) (by omega) (by omega) rfl (fun b3235 b3236 => ?_))
  refine wl_of hX hb cL_762 (rw_aload_n (pc' := 763) (v := .ref 0) rfl rfl rfl ?_)
  refine wl_of hX hb cL_763 (rw_iload (pc' := 765) (z := i) rfl rfl ?_)
  refine wl_of hX hb cL_765 (rw_iconst (pc' := 766) rfl ?_)
  refine wl_of hX hb cL_766 (rw_iadd (pc' := 767) rfl ?_)
  refine wl_of hX hb cL_767 (xa_I (so := 0) (pc' := 768) (a := 0) hW g0 (wsh_s _) (by omega) (wty_s _ _) (by omega) (by omega) rfl (fun b3237 b3238 => ?_))
  obtain ⟨B, tc, tm, cu, dr, C8, e8, d8, n8, g8, ce8, e0, gtc, htc, em, gtm, htm, ecu, gcu, edr, gdr, hcu, hdr, hdec, hded, hsp, hC1, hC2, hcu8, hrb8, hcg8, hmn8, hE, hZ, hn8, hXA, hV8, hSG, ece8, gce8, hcen8, hhdr8, hknn8, -⟩ := hXI
  have hN3 := RB_n3 hrb8
  have hE13 : ∀ h : Nat, h < 24 → 0 ≤ e8 13 h ∧ e8 13 h ≤ 100 := fun k hk => by
    obtain ⟨s, h1, h2, h3⟩ := hcu8.1.2.2.1
    exact ⟨(h3 k hk).1, (h3 k hk).2.1⟩
  have hXW := hXA.1
  have hXN := hXA.2
  have hE0 : e8 0 3 = d8 0 3 ∧ e8 0 0 = d8 0 0 := by
    have h := hE 0 (by decide)
    exact ⟨congrFun h 3, congrFun h 0⟩
  have u3239 := CU_k hcu8
  have h3240 : CY T H cu (d8 0 3) g8 (H cu 17) := ⟨hcg8, rfl⟩
  have h3241 : RY T H m (d8 0 3) g8 (H m 32) := ⟨hmn8, rfl⟩
  obtain ⟨t9, ht9⟩ : ∃ t : Int, t = H x 9 := ⟨_, rfl⟩
  obtain ⟨y9, hy9⟩ : ∃ y : Int, y = H 0 ((i + 2).toNat) := ⟨_, rfl⟩
  obtain ⟨r3242, q3243, g3244⟩ := hW.ref gx (t' := 6) (n := 13) (j := 2) (p := 0) (q := 0) rfl (by decide) rfl
  refine wl_of hX hb cL_768 (xc_V (pc' := 771) (r := x) (as := [vI (H 0 ((i + 1).toNat)), vI (H 0 ((i + 2).toNat))]) (st := []) (lm_11_101) rfl rfl (Nat.le_of_ble_eq_true rfl) hW gx sh_1 (by decide) rfl (by decide) (u_99 (e := e8) (d := d8) (n := n8) hW gx ⟨by omega, by omega⟩ ⟨by omega, by omega⟩ ecu gcu q3243 g3244 ece8 gce8 (by assumption) (by assumption) (by omega) (by omega) (by omega) (by omega) hcu8 hcen8 hhdr8) (fun R3245 T3246 H3247 p3248 => ?_))
  obtain ⟨e3249, w3251, f3252, z3253, e3250, b3254, p3255⟩ := p3248
  subst e3249
  subst e3250
  show WL _ _ _ _ 771 [(4, vI i), (3, .ref o), (2, .ref m), (1, .ref x), (0, .ref 0)] [vI z3253] _ H3247
  refine wl_of hX hb cL_771 (rw_pop (pc' := 772) rfl rfl ?_)
  refine wl_of hX hb cL_772 (rw_aload_n (pc' := 773) (v := .ref m) rfl rfl rfl ?_)
  refine wl_of hX hb cL_773 (rw_aload_n (pc' := 774) (v := .ref 0) rfl rfl rfl ?_)
  refine wl_of hX hb cL_774 (rw_iload (pc' := 776) (z := i) rfl rfl ?_)
  refine wl_of hX hb cL_776 (rw_iconst (pc' := 777) rfl ?_)
  refine wl_of hX hb cL_777 (rw_iadd (pc' := 778) rfl ?_)
  have k3259 : H3247 0 ((i + 1).toNat) = H 0 ((i + 1).toNat) := (f3252 0 ((i + 1).toNat) _ g0 (wmem_s rfl))
  refine wl_of hX hb cL_778 (xa_I (so := 0) (pc' := 779) (a := 0) w3251 g0 (wsh_s _) (by omega) (wty_s _ _) (by omega) (by omega) rfl (fun b3257 b3258 => ?_))
  refine wl_of hX hb cL_779 (rw_aload_n (pc' := 780) (v := .ref 0) rfl rfl rfl ?_)
  refine wl_of hX hb cL_780 (rw_iload (pc' := 782) (z := i) rfl rfl ?_)
  refine wl_of hX hb cL_782 (rw_iconst (pc' := 783) rfl ?_)
  refine wl_of hX hb cL_783 (rw_iadd (pc' := 784) rfl ?_)
  have k3262 : H3247 0 ((i + 2).toNat) = H 0 ((i + 2).toNat) := (f3252 0 ((i + 2).toNat) _ g0 (wmem_s rfl))
  refine wl_of hX hb cL_784 (xa_I (so := 0) (pc' := 785) (a := 0) w3251 g0 (wsh_s _) (by omega) (wty_s _ _) (by omega) (by omega) rfl (fun b3260 b3261 => ?_))
  have k3263 : wKI H3247 m = wKI H m := (wKI_fr hW gm f3252 rfl)
  have k3264 : H3247 x 9 = H x 9 := (f3252 x 9 _ gx rfl)
  have k3265 : H3247 m 6 = H m 6 := (f3252 m 6 _ gm rfl)
  have k3266 : H3247 x 11 = H x 11 := (f3252 x 11 _ gx rfl)
  have k3267 : H3247 m 13 = H m 13 := (f3252 m 13 _ gm rfl)
  have k3268 : H3247 x 8 = H x 8 := (f3252 x 8 _ gx rfl)
  have k3269 : H3247 m 3 = H m 3 := (f3252 m 3 _ gm rfl)
  rw [show H3247 0 ((i + 2).toNat) = H 0 ((i + 2).toNat) by omega]
  rw [show H3247 0 ((i + 1).toNat) = H 0 ((i + 1).toNat) by omega]
  have h3270 : RB T H3247 m e8 d8 := (RB_fr hW gm f3252 rfl hrb8)
  have h3271 : KNN T H3247 m e8 d8 := (KNN_fr hW gm f3252 rfl hknn8)
  refine wl_of hX hb cL_785 (xc_V (pc' := 788) (r := m) (as := [vI (H 0 ((i + 1).toNat)), vI (H 0 ((i + 2).toNat))]) (st := []) (lm_11_104) rfl rfl (Nat.le_of_ble_eq_true rfl) w3251 gm sh_42 (by decide) rfl (by decide) (u_250 (e := e8) (d := d8) w3251 gm ⟨by omega, by omega⟩ ⟨by omega, by omega⟩ (by omega) (by assumption) (by assumption) (by assumption) (by assumption) h3270 h3271) (fun R3272 T3273 H3274 p3275 => ?_))
  obtain ⟨e3276, w3278, f3279, z3280, e3277, b3281, p3282⟩ := p3275
  subst e3276
  subst e3277
  obtain ⟨a3283, a3284⟩ := p3282
  show WL _ _ _ _ 788 [(4, vI i), (3, .ref o), (2, .ref m), (1, .ref x), (0, .ref 0)] [vI z3280] _ H3274
  refine wl_of hX hb cL_788 (rw_pop (pc' := 789) rfl rfl ?_)
  refine wl_of hX hb cL_789 (rw_goto (p1 := 1653) (by decide) ?_)
  have k3285 : H3274 x 9 = H3247 x 9 := (f3279 x 9 _ gx rfl)
  have k3286 : H3274 m 6 = H3247 m 6 := (f3279 m 6 _ gm rfl)
  have k3287 : H3274 x 11 = H3247 x 11 := (f3279 x 11 _ gx rfl)
  have k3288 : H3274 m 13 = H3247 m 13 := (f3279 m 13 _ gm rfl)
  have k3289 : H3274 x 8 = H3247 x 8 := (f3279 x 8 _ gx rfl)
  have k3290 : H3274 m 3 = H3247 m 3 := (f3279 m 3 _ gm rfl)
  have k3291 : H3274 x 0 = H x 0 := ((f3279 x 0 _ gx rfl).trans (f3252 x 0 _ gx rfl))
  have q3292 : H3274 x 0 = (tc : Int) := k3291.trans e0
  have k3293 : H3274 m 5 = H m 5 := ((f3279 m 5 _ gm rfl).trans (f3252 m 5 _ gm rfl))
  have q3294 : H3274 m 5 = (tm : Int) := k3293.trans em
  have k3295 : H3274 x 6 = H x 6 := ((f3279 x 6 _ gx rfl).trans (f3252 x 6 _ gx rfl))
  have q3296 : H3274 x 6 = (cu : Int) := k3295.trans ecu
  have k3297 : H3274 x 7 = H x 7 := ((f3279 x 7 _ gx rfl).trans (f3252 x 7 _ gx rfl))
  have q3298 : H3274 x 7 = (dr : Int) := k3297.trans edr
  have h3299 : CEN T H3274 ce8 e8 d8 := (CEN_fr w3251 gce8 f3279 rfl p3255)
  have h3300 : TP T H3274 tc B := (TP_fr w3251 gtc f3279 rfl (TP_fr hW gtc f3252 rfl htc))
  have h3301 : TM T H3274 tm B := (TM_fr w3251 gtm f3279 rfl (TM_fr hW gtm f3252 rfl htm))
  have h3302 : DD T H3274 cu  := (DD_fr w3251 gcu f3279 rfl (DD_fr hW gcu f3252 rfl hcu))
  have h3303 : DD T H3274 dr  := (DD_fr w3251 gdr f3279 rfl (DD_fr hW gdr f3252 rfl hdr))
  have h3304 : DE T H3274 cu  := (DE_fr w3251 gcu f3279 rfl (DE_fr hW gcu f3252 rfl hdec))
  have h3305 : DE T H3274 dr  := (DE_fr w3251 gdr f3279 rfl (DE_fr hW gdr f3252 rfl hded))
  have h3306 : SP T H3274 x C8 := (SP_fr w3251 gx f3279 rfl (SP_fr hW gx f3252 rfl hsp))
  have h3307 : CU T H3274 cu e8 d8 n8 := (CU_fr w3251 gcu f3279 rfl (CU_fr hW gcu f3252 rfl hcu8))
  have h3308 : CY T H3274 cu (d8 0 3) g8 (H cu 17) := (CY_fr w3251 gcu f3279 rfl (CY_fr hW gcu f3252 rfl h3240))
  have k3309 : H3274 x 3 = H x 3 := ((f3279 x 3 _ gx rfl).trans (f3252 x 3 _ gx rfl))
  have q3310 : H3274 x 3 = (ce8 : Int) := k3309.trans ece8
  have h3311 : HDR T H3274 ce8  := (HDR_fr w3251 gce8 f3279 rfl (HDR_fr hW gce8 f3252 rfl hhdr8))
  have h3312 : RY T H3274 m (d8 0 3) g8 (H m 32) := (RY_fr w3251 gm f3279 rfl (RY_fr hW gm f3252 rfl h3241))
  have h3313 : RB T H3274 m e8 d8 := (RB_fr w3251 gm f3279 rfl h3270)
  exact WL.loc hX (by simp) (next T H3274 ⟨⟨w3278, g0, gx, gm, go, by omega, by omega⟩, ⟨_, tc, tm, cu, dr, _, _, _, _, _, ce8, q3292, gtc, h3300, q3294, gtm, h3301, q3296, gcu, q3298, gdr, h3302, h3303, h3304, h3305, h3306, hC1, hC2, h3307, h3313, (h3308).1, (h3312).1, hE, hZ, (by omega), (by assumption), (by omega), (by first | assumption | exact SG_0), q3310, gce8, h3299, h3311, a3284, gm⟩, by omega, by omega⟩ (by omega) (by omega))
set_option maxHeartbeats 4000000 in
theorem wl_c20 {kt : Nat → Option mc_E} {CB SB : Nat} {X : mc_S → Prop} {T : wq_T} {H : wq_H} {Len x m o : Nat} {i : Int} (hX : wlX kt CB SB X) (hb : T.2.1 ≤ CB ∧ T.2.2.1 ≤ SB) (hI : wlJ Len x m o T H) (hL : Len ≤ 3072) (hi : 0 ≤ i ∧ i + 6 ≤ Len) (hb2 : T.2.1 + 20 ≤ CB ∧ T.2.2.1 + 500 ≤ SB)  (next : ∀ T' H', wlJ Len x m o T' H' → T'.2.1 ≤ T.2.1 + 20 → T'.2.2.1 ≤ T.2.2.1 + 500 → WL kt CB SB X 1653 (wlL i x m o) [] T' H') : WL kt CB SB X 792 (wlL i x m o) [] T H := by
  obtain ⟨⟨hW, g0, gx, gm, go, hK, hr⟩, hXI, hY1, hY2⟩ := hI
  refine wl_of hX hb cL_792 (rw_aload_n (pc' := 793) (v := .ref x) rfl rfl rfl ?_)
  refine wl_of hX hb cL_793 (rw_aload_n (pc' := 794) (v := .ref 0) rfl rfl rfl ?_)
  refine wl_of hX hb cL_794 (rw_iload (pc' := 796) (z := i) rfl rfl ?_)
  refine wl_of hX hb cL_796 (rw_iconst (pc' := 797) rfl ?_)
  refine wl_of hX hb cL_797 (rw_iadd (pc' := 798) rfl ?_)
  refine wl_of hX hb cL_798 (xa_I (so := 0) (pc' := 799) (a := 0) hW g0 (wsh_s _) (by omega) (wty_s _ _) (by omega) (by omega) rfl (fun b3314 b3315 => ?_))
  refine wl_of hX hb cL_799 (rw_aload_n (pc' := 800) (v := .ref 0) rfl rfl rfl ?_)
  refine wl_of hX hb cL_800 (rw_iload (pc' := 802) (z := i) rfl rfl ?_)
  refine wl_of hX hb cL_802 (rw_iconst (pc' := 803) rfl ?_)
  refine wl_of hX hb cL_803 (rw_iadd (pc' := 804) rfl ?_)
  refine wl_of hX hb cL_804 (xa_I (so := 0) (pc' := 805) (a := 0) hW g0 (wsh_s _) (by omega) (wty_s _ _) (by omega) (by omega) rfl (fun b3316 b3317 => ?_))
  obtain ⟨B, tc, tm, cu, dr, C8, e8, d8, n8, g8, ce8, e0, gtc, htc, em, gtm, htm, ecu, gcu, edr, gdr, hcu, hdr, hdec, hded, hsp, hC1, hC2, hcu8, hrb8, hcg8, hmn8, hE, hZ, hn8, hXA, hV8, hSG, ece8, gce8, hcen8, hhdr8, hknn8, -⟩ := hXI
  have hN3 := RB_n3 hrb8
  have hE13 : ∀ h : Nat, h < 24 → 0 ≤ e8 13 h ∧ e8 13 h ≤ 100 := fun k hk => by
    obtain ⟨s, h1, h2, h3⟩ := hcu8.1.2.2.1
    exact ⟨(h3 k hk).1, (h3 k hk).2.1⟩
  have hXW := hXA.1
  have hXN := hXA.2
  have hE0 : e8 0 3 = d8 0 3 ∧ e8 0 0 = d8 0 0 := by
    have h := hE 0 (by decide)
    exact ⟨congrFun h 3, congrFun h 0⟩
  have u3318 := CU_k hcu8
  have h3319 : CY T H cu (d8 0 3) g8 (H cu 17) := ⟨hcg8, rfl⟩
  have h3320 : RY T H m (d8 0 3) g8 (H m 32) := ⟨hmn8, rfl⟩
  obtain ⟨t9, ht9⟩ : ∃ t : Int, t = H x 9 := ⟨_, rfl⟩
  obtain ⟨y9, hy9⟩ : ∃ y : Int, y = H 0 ((i + 2).toNat) := ⟨_, rfl⟩
  obtain ⟨r3321, q3322, g3323⟩ := hW.ref gx (t' := 6) (n := 13) (j := 2) (p := 0) (q := 0) rfl (by decide) rfl
  refine wl_of hX hb cL_805 (xc_V (pc' := 808) (r := x) (as := [vI (H 0 ((i + 1).toNat)), vI (H 0 ((i + 2).toNat))]) (st := []) (lm_11_105) rfl rfl (Nat.le_of_ble_eq_true rfl) hW gx sh_1 (by decide) rfl (by decide) (u_101 (e := e8) (d := d8) (n := n8) hW gx ⟨by omega, by omega⟩ ⟨by omega, by omega⟩ ecu gcu q3322 g3323 ece8 gce8 (by assumption) (by assumption) (by omega) (by omega) (by omega) (by omega) hcu8 hcen8 hhdr8) (fun R3324 T3325 H3326 p3327 => ?_))
  obtain ⟨e3328, w3330, f3331, z3332, e3329, b3333, p3334⟩ := p3327
  subst e3328
  subst e3329
  show WL _ _ _ _ 808 [(4, vI i), (3, .ref o), (2, .ref m), (1, .ref x), (0, .ref 0)] [vI z3332] _ H3326
  refine wl_of hX hb cL_808 (rw_pop (pc' := 809) rfl rfl ?_)
  refine wl_of hX hb cL_809 (rw_aload_n (pc' := 810) (v := .ref m) rfl rfl rfl ?_)
  refine wl_of hX hb cL_810 (rw_aload_n (pc' := 811) (v := .ref 0) rfl rfl rfl ?_)
  refine wl_of hX hb cL_811 (rw_iload (pc' := 813) (z := i) rfl rfl ?_)
  refine wl_of hX hb cL_813 (rw_iconst (pc' := 814) rfl ?_)
  refine wl_of hX hb cL_814 (rw_iadd (pc' := 815) rfl ?_)
  have k3338 : H3326 0 ((i + 1).toNat) = H 0 ((i + 1).toNat) := (f3331 0 ((i + 1).toNat) _ g0 (wmem_s rfl))
  refine wl_of hX hb cL_815 (xa_I (so := 0) (pc' := 816) (a := 0) w3330 g0 (wsh_s _) (by omega) (wty_s _ _) (by omega) (by omega) rfl (fun b3336 b3337 => ?_))
  refine wl_of hX hb cL_816 (rw_aload_n (pc' := 817) (v := .ref 0) rfl rfl rfl ?_)
  refine wl_of hX hb cL_817 (rw_iload (pc' := 819) (z := i) rfl rfl ?_)
  refine wl_of hX hb cL_819 (rw_iconst (pc' := 820) rfl ?_)
  refine wl_of hX hb cL_820 (rw_iadd (pc' := 821) rfl ?_)
  have k3341 : H3326 0 ((i + 2).toNat) = H 0 ((i + 2).toNat) := (f3331 0 ((i + 2).toNat) _ g0 (wmem_s rfl))
  refine wl_of hX hb cL_821 (xa_I (so := 0) (pc' := 822) (a := 0) w3330 g0 (wsh_s _) (by omega) (wty_s _ _) (by omega) (by omega) rfl (fun b3339 b3340 => ?_))
  have k3342 : wKI H3326 m = wKI H m := (wKI_fr hW gm f3331 rfl)
  have k3343 : H3326 x 9 = H x 9 := (f3331 x 9 _ gx rfl)
  have k3344 : H3326 m 6 = H m 6 := (f3331 m 6 _ gm rfl)
  have k3345 : H3326 x 11 = H x 11 := (f3331 x 11 _ gx rfl)
  have k3346 : H3326 m 13 = H m 13 := (f3331 m 13 _ gm rfl)
  have k3347 : H3326 x 8 = H x 8 := (f3331 x 8 _ gx rfl)
  have k3348 : H3326 m 3 = H m 3 := (f3331 m 3 _ gm rfl)
  rw [show H3326 0 ((i + 2).toNat) = H 0 ((i + 2).toNat) by omega]
  rw [show H3326 0 ((i + 1).toNat) = H 0 ((i + 1).toNat) by omega]
  have h3349 : RB T H3326 m e8 d8 := (RB_fr hW gm f3331 rfl hrb8)
  have h3350 : KNN T H3326 m e8 d8 := (KNN_fr hW gm f3331 rfl hknn8)
  refine wl_of hX hb cL_822 (xc_V (pc' := 825) (r := m) (as := [vI (H 0 ((i + 1).toNat)), vI (H 0 ((i + 2).toNat))]) (st := []) (lm_11_108) rfl rfl (Nat.le_of_ble_eq_true rfl) w3330 gm sh_42 (by decide) rfl (by decide) (u_252 (e := e8) (d := d8) w3330 gm ⟨by omega, by omega⟩ ⟨by omega, by omega⟩ (by omega) (by assumption) (by assumption) (by assumption) (by assumption) h3349 h3350) (fun R3351 T3352 H3353 p3354 => ?_))
  obtain ⟨e3355, w3357, f3358, z3359, e3356, b3360, p3361⟩ := p3354
  subst e3355
  subst e3356
  obtain ⟨a3362, a3363⟩ := p3361
  show WL _ _ _ _ 825 [(4, vI i), (3, .ref o), (2, .ref m), (1, .ref x), (0, .ref 0)] [vI z3359] _ H3353
  refine wl_of hX hb cL_825 (rw_pop (pc' := 826) rfl rfl ?_)
  refine wl_of hX hb cL_826 (rw_goto (p1 := 1653) (by decide) ?_)
  have k3364 : H3353 x 9 = H3326 x 9 := (f3358 x 9 _ gx rfl)
  have k3365 : H3353 m 6 = H3326 m 6 := (f3358 m 6 _ gm rfl)
  have k3366 : H3353 x 11 = H3326 x 11 := (f3358 x 11 _ gx rfl)
  have k3367 : H3353 m 13 = H3326 m 13 := (f3358 m 13 _ gm rfl)
  have k3368 : H3353 x 8 = H3326 x 8 := (f3358 x 8 _ gx rfl)
  have k3369 : H3353 m 3 = H3326 m 3 := (f3358 m 3 _ gm rfl)
  have k3370 : H3353 x 0 = H x 0 := ((f3358 x 0 _ gx rfl).trans (f3331 x 0 _ gx rfl))
  have q3371 : H3353 x 0 = (tc : Int) := k3370.trans e0
  have k3372 : H3353 m 5 = H m 5 := ((f3358 m 5 _ gm rfl).trans (f3331 m 5 _ gm rfl))
  have q3373 : H3353 m 5 = (tm : Int) := k3372.trans em
  have k3374 : H3353 x 6 = H x 6 := ((f3358 x 6 _ gx rfl).trans (f3331 x 6 _ gx rfl))
  have q3375 : H3353 x 6 = (cu : Int) := k3374.trans ecu
  have k3376 : H3353 x 7 = H x 7 := ((f3358 x 7 _ gx rfl).trans (f3331 x 7 _ gx rfl))
  have q3377 : H3353 x 7 = (dr : Int) := k3376.trans edr
  have h3378 : CEN T H3353 ce8 e8 d8 := (CEN_fr w3330 gce8 f3358 rfl p3334)
  have h3379 : TP T H3353 tc B := (TP_fr w3330 gtc f3358 rfl (TP_fr hW gtc f3331 rfl htc))
  have h3380 : TM T H3353 tm B := (TM_fr w3330 gtm f3358 rfl (TM_fr hW gtm f3331 rfl htm))
  have h3381 : DD T H3353 cu  := (DD_fr w3330 gcu f3358 rfl (DD_fr hW gcu f3331 rfl hcu))
  have h3382 : DD T H3353 dr  := (DD_fr w3330 gdr f3358 rfl (DD_fr hW gdr f3331 rfl hdr))
  have h3383 : DE T H3353 cu  := (DE_fr w3330 gcu f3358 rfl (DE_fr hW gcu f3331 rfl hdec))
  have h3384 : DE T H3353 dr  := (DE_fr w3330 gdr f3358 rfl (DE_fr hW gdr f3331 rfl hded))
  have h3385 : SP T H3353 x C8 := (SP_fr w3330 gx f3358 rfl (SP_fr hW gx f3331 rfl hsp))
  have h3386 : CU T H3353 cu e8 d8 n8 := (CU_fr w3330 gcu f3358 rfl (CU_fr hW gcu f3331 rfl hcu8))
  have h3387 : CY T H3353 cu (d8 0 3) g8 (H cu 17) := (CY_fr w3330 gcu f3358 rfl (CY_fr hW gcu f3331 rfl h3319))
  have k3388 : H3353 x 3 = H x 3 := ((f3358 x 3 _ gx rfl).trans (f3331 x 3 _ gx rfl))
  have q3389 : H3353 x 3 = (ce8 : Int) := k3388.trans ece8
  have h3390 : HDR T H3353 ce8  := (HDR_fr w3330 gce8 f3358 rfl (HDR_fr hW gce8 f3331 rfl hhdr8))
  have h3391 : RY T H3353 m (d8 0 3) g8 (H m 32) := (RY_fr w3330 gm f3358 rfl (RY_fr hW gm f3331 rfl h3320))
  have h3392 : RB T H3353 m e8 d8 := (RB_fr w3330 gm f3358 rfl h3349)
  exact WL.loc hX (by simp) (next T H3353 ⟨⟨w3357, g0, gx, gm, go, by omega, by omega⟩, ⟨_, tc, tm, cu, dr, _, _, _, _, _, ce8, q3371, gtc, h3379, q3373, gtm, h3380, q3375, gcu, q3377, gdr, h3381, h3382, h3383, h3384, h3385, hC1, hC2, h3386, h3392, (h3387).1, (h3391).1, hE, hZ, (by omega), (by assumption), (by omega), (by first | assumption | exact SG_0), q3389, gce8, h3378, h3390, a3363, gm⟩, by omega, by omega⟩ (by omega) (by omega))
set_option maxHeartbeats 4000000 in
theorem wl_c21 {kt : Nat → Option mc_E} {CB SB : Nat} {X : mc_S → Prop} {T : wq_T} {H : wq_H} {Len x m o : Nat} {i : Int} (hX : wlX kt CB SB X) (hb : T.2.1 ≤ CB ∧ T.2.2.1 ≤ SB) (hI : wlJ Len x m o T H) (hL : Len ≤ 3072) (hi : 0 ≤ i ∧ i + 6 ≤ Len) (hb2 : T.2.1 + 20 ≤ CB ∧ T.2.2.1 + 500 ≤ SB)  (next : ∀ T' H', wlJ Len x m o T' H' → T'.2.1 ≤ T.2.1 + 20 → T'.2.2.1 ≤ T.2.2.1 + 500 → WL kt CB SB X 1653 (wlL i x m o) [] T' H') : WL kt CB SB X 829 (wlL i x m o) [] T H := by
  obtain ⟨⟨hW, g0, gx, gm, go, hK, hr⟩, hXI, hY1, hY2⟩ := hI
  refine wl_of hX hb cL_829 (rw_aload_n (pc' := 830) (v := .ref x) rfl rfl rfl ?_)
  refine wl_of hX hb cL_830 (rw_aload_n (pc' := 831) (v := .ref 0) rfl rfl rfl ?_)
  refine wl_of hX hb cL_831 (rw_iload (pc' := 833) (z := i) rfl rfl ?_)
  refine wl_of hX hb cL_833 (rw_iconst (pc' := 834) rfl ?_)
  refine wl_of hX hb cL_834 (rw_iadd (pc' := 835) rfl ?_)
  refine wl_of hX hb cL_835 (xa_I (so := 0) (pc' := 836) (a := 0) hW g0 (wsh_s _) (by omega) (wty_s _ _) (by omega) (by omega) rfl (fun b3393 b3394 => ?_))
  refine wl_of hX hb cL_836 (rw_aload_n (pc' := 837) (v := .ref 0) rfl rfl rfl ?_)
  refine wl_of hX hb cL_837 (rw_iload (pc' := 839) (z := i) rfl rfl ?_)
  refine wl_of hX hb cL_839 (rw_iconst (pc' := 840) rfl ?_)
  refine wl_of hX hb cL_840 (rw_iadd (pc' := 841) rfl ?_)
  refine wl_of hX hb cL_841 (xa_I (so := 0) (pc' := 842) (a := 0) hW g0 (wsh_s _) (by omega) (wty_s _ _) (by omega) (by omega) rfl (fun b3395 b3396 => ?_))
  refine wl_of hX hb cL_842 (rw_if_eq (p1 := 849) (p2 := 845) (by decide) rfl ⟨by omega, by omega⟩ (fun c3397 => ?_) (fun c3397 => ?_))
  · refine wl_of hX hb cL_849 (rw_iconst (pc' := 850) rfl ?_)
    obtain ⟨B, tc, tm, cu, dr, C8, e8, d8, n8, g8, ce8, e0, gtc, htc, em, gtm, htm, ecu, gcu, edr, gdr, hcu, hdr, hdec, hded, hsp, hC1, hC2, hcu8, hrb8, hcg8, hmn8, hE, hZ, hn8, hXA, hV8, hSG, ece8, gce8, hcen8, hhdr8, hknn8, -⟩ := hXI
    have hN3 := RB_n3 hrb8
    have hE13 : ∀ h : Nat, h < 24 → 0 ≤ e8 13 h ∧ e8 13 h ≤ 100 := fun k hk => by
      obtain ⟨s, h1, h2, h3⟩ := hcu8.1.2.2.1
      exact ⟨(h3 k hk).1, (h3 k hk).2.1⟩
    have hXW := hXA.1
    have hXN := hXA.2
    have hE0 : e8 0 3 = d8 0 3 ∧ e8 0 0 = d8 0 0 := by
      have h := hE 0 (by decide)
      exact ⟨congrFun h 3, congrFun h 0⟩
    have u3398 := CU_k hcu8
    have h3399 : CY T H cu (d8 0 3) g8 (H cu 17) := ⟨hcg8, rfl⟩
    have h3400 : RY T H m (d8 0 3) g8 (H m 32) := ⟨hmn8, rfl⟩
    obtain ⟨t9, ht9⟩ : ∃ t : Int, t = H x 9 := ⟨_, rfl⟩
    obtain ⟨y9, hy9⟩ : ∃ y : Int, y = 0 := ⟨_, rfl⟩
    obtain ⟨r3401, q3402, g3403⟩ := hW.ref gx (t' := 6) (n := 13) (j := 2) (p := 0) (q := 0) rfl (by decide) rfl
    refine wl_of hX hb cL_850 (xc_V (pc' := 853) (r := x) (as := [vI (H 0 ((i + 1).toNat)), vI 0]) (st := []) (lm_11_109) rfl rfl (Nat.le_of_ble_eq_true rfl) hW gx sh_1 (by decide) rfl (by decide) (u_104 (e := e8) (d := d8) (n := n8) hW gx ⟨by omega, by omega⟩ ⟨by decide, by decide⟩ ecu gcu q3402 g3403 ece8 gce8 (by assumption) (by assumption) (by omega) (by omega) (by omega) (by omega) hcu8 hcen8 hhdr8) (fun R3404 T3405 H3406 p3407 => ?_))
    obtain ⟨e3408, w3410, f3411, z3412, e3409, b3413, p3414⟩ := p3407
    subst e3408
    subst e3409
    show WL _ _ _ _ 853 [(4, vI i), (3, .ref o), (2, .ref m), (1, .ref x), (0, .ref 0)] [vI z3412] _ H3406
    refine wl_of hX hb cL_853 (rw_pop (pc' := 854) rfl rfl ?_)
    refine wl_of hX hb cL_854 (rw_aload_n (pc' := 855) (v := .ref m) rfl rfl rfl ?_)
    refine wl_of hX hb cL_855 (rw_aload_n (pc' := 856) (v := .ref 0) rfl rfl rfl ?_)
    refine wl_of hX hb cL_856 (rw_iload (pc' := 858) (z := i) rfl rfl ?_)
    refine wl_of hX hb cL_858 (rw_iconst (pc' := 859) rfl ?_)
    refine wl_of hX hb cL_859 (rw_iadd (pc' := 860) rfl ?_)
    have k3418 : H3406 0 ((i + 1).toNat) = H 0 ((i + 1).toNat) := (f3411 0 ((i + 1).toNat) _ g0 (wmem_s rfl))
    refine wl_of hX hb cL_860 (xa_I (so := 0) (pc' := 861) (a := 0) w3410 g0 (wsh_s _) (by omega) (wty_s _ _) (by omega) (by omega) rfl (fun b3416 b3417 => ?_))
    refine wl_of hX hb cL_861 (rw_aload_n (pc' := 862) (v := .ref 0) rfl rfl rfl ?_)
    refine wl_of hX hb cL_862 (rw_iload (pc' := 864) (z := i) rfl rfl ?_)
    refine wl_of hX hb cL_864 (rw_iconst (pc' := 865) rfl ?_)
    refine wl_of hX hb cL_865 (rw_iadd (pc' := 866) rfl ?_)
    have k3421 : H3406 0 ((i + 2).toNat) = H 0 ((i + 2).toNat) := (f3411 0 ((i + 2).toNat) _ g0 (wmem_s rfl))
    refine wl_of hX hb cL_866 (xa_I (so := 0) (pc' := 867) (a := 0) w3410 g0 (wsh_s _) (by omega) (wty_s _ _) (by omega) (by omega) rfl (fun b3419 b3420 => ?_))
    refine wl_of hX hb cL_867 (rw_if_eq (p1 := 874) (p2 := 870) (by decide) rfl ⟨by omega, by omega⟩ (fun c3422 => ?_) (fun c3422 => ?_))
    · refine wl_of hX hb cL_874 (rw_iconst (pc' := 875) rfl ?_)
      have k3423 : wKI H3406 m = wKI H m := (wKI_fr hW gm f3411 rfl)
      have k3424 : H3406 x 9 = H x 9 := (f3411 x 9 _ gx rfl)
      have k3425 : H3406 m 6 = H m 6 := (f3411 m 6 _ gm rfl)
      have k3426 : H3406 x 11 = H x 11 := (f3411 x 11 _ gx rfl)
      have k3427 : H3406 m 13 = H m 13 := (f3411 m 13 _ gm rfl)
      have k3428 : H3406 x 8 = H x 8 := (f3411 x 8 _ gx rfl)
      have k3429 : H3406 m 3 = H m 3 := (f3411 m 3 _ gm rfl)
      rw [show H3406 0 ((i + 1).toNat) = H 0 ((i + 1).toNat) by omega]
      have h3430 : RB T H3406 m e8 d8 := (RB_fr hW gm f3411 rfl hrb8)
      have h3431 : KNN T H3406 m e8 d8 := (KNN_fr hW gm f3411 rfl hknn8)
      refine wl_of hX hb cL_875 (xc_V (pc' := 878) (r := m) (as := [vI (H 0 ((i + 1).toNat)), vI 0]) (st := []) (lm_11_113) rfl rfl (Nat.le_of_ble_eq_true rfl) w3410 gm sh_42 (by decide) rfl (by decide) (u_254 (e := e8) (d := d8) w3410 gm ⟨by omega, by omega⟩ ⟨by decide, by decide⟩ (by omega) (by assumption) (by assumption) (by assumption) (by assumption) h3430 h3431) (fun R3432 T3433 H3434 p3435 => ?_))
      obtain ⟨e3436, w3438, f3439, z3440, e3437, b3441, p3442⟩ := p3435
      subst e3436
      subst e3437
      obtain ⟨a3443, a3444⟩ := p3442
      show WL _ _ _ _ 878 [(4, vI i), (3, .ref o), (2, .ref m), (1, .ref x), (0, .ref 0)] [vI z3440] _ H3434
      refine wl_of hX hb cL_878 (rw_pop (pc' := 879) rfl rfl ?_)
      refine wl_of hX hb cL_879 (rw_goto (p1 := 1653) (by decide) ?_)
      have k3445 : H3434 x 9 = H3406 x 9 := (f3439 x 9 _ gx rfl)
      have k3446 : H3434 m 6 = H3406 m 6 := (f3439 m 6 _ gm rfl)
      have k3447 : H3434 x 11 = H3406 x 11 := (f3439 x 11 _ gx rfl)
      have k3448 : H3434 m 13 = H3406 m 13 := (f3439 m 13 _ gm rfl)
      have k3449 : H3434 x 8 = H3406 x 8 := (f3439 x 8 _ gx rfl)
      have k3450 : H3434 m 3 = H3406 m 3 := (f3439 m 3 _ gm rfl)
      have k3451 : H3434 x 0 = H x 0 := ((f3439 x 0 _ gx rfl).trans (f3411 x 0 _ gx rfl))
      have q3452 : H3434 x 0 = (tc : Int) := k3451.trans e0
      have k3453 : H3434 m 5 = H m 5 := ((f3439 m 5 _ gm rfl).trans (f3411 m 5 _ gm rfl))
      have q3454 : H3434 m 5 = (tm : Int) := k3453.trans em
      have k3455 : H3434 x 6 = H x 6 := ((f3439 x 6 _ gx rfl).trans (f3411 x 6 _ gx rfl))
      have q3456 : H3434 x 6 = (cu : Int) := k3455.trans ecu
      have k3457 : H3434 x 7 = H x 7 := ((f3439 x 7 _ gx rfl).trans (f3411 x 7 _ gx rfl))
      have q3458 : H3434 x 7 = (dr : Int) := k3457.trans edr
      have h3459 : CEN T H3434 ce8 e8 d8 := (CEN_fr w3410 gce8 f3439 rfl p3414)
      have h3460 : TP T H3434 tc B := (TP_fr w3410 gtc f3439 rfl (TP_fr hW gtc f3411 rfl htc))
      have h3461 : TM T H3434 tm B := (TM_fr w3410 gtm f3439 rfl (TM_fr hW gtm f3411 rfl htm))
      have h3462 : DD T H3434 cu  := (DD_fr w3410 gcu f3439 rfl (DD_fr hW gcu f3411 rfl hcu))
      have h3463 : DD T H3434 dr  := (DD_fr w3410 gdr f3439 rfl (DD_fr hW gdr f3411 rfl hdr))
      have h3464 : DE T H3434 cu  := (DE_fr w3410 gcu f3439 rfl (DE_fr hW gcu f3411 rfl hdec))
      have h3465 : DE T H3434 dr  := (DE_fr w3410 gdr f3439 rfl (DE_fr hW gdr f3411 rfl hded))
      have h3466 : SP T H3434 x C8 := (SP_fr w3410 gx f3439 rfl (SP_fr hW gx f3411 rfl hsp))
      have h3467 : CU T H3434 cu e8 d8 n8 := (CU_fr w3410 gcu f3439 rfl (CU_fr hW gcu f3411 rfl hcu8))
      have h3468 : CY T H3434 cu (d8 0 3) g8 (H cu 17) := (CY_fr w3410 gcu f3439 rfl (CY_fr hW gcu f3411 rfl h3399))
      have k3469 : H3434 x 3 = H x 3 := ((f3439 x 3 _ gx rfl).trans (f3411 x 3 _ gx rfl))
      have q3470 : H3434 x 3 = (ce8 : Int) := k3469.trans ece8
      have h3471 : HDR T H3434 ce8  := (HDR_fr w3410 gce8 f3439 rfl (HDR_fr hW gce8 f3411 rfl hhdr8))
      have h3472 : RY T H3434 m (d8 0 3) g8 (H m 32) := (RY_fr w3410 gm f3439 rfl (RY_fr hW gm f3411 rfl h3400))
      have h3473 : RB T H3434 m e8 d8 := (RB_fr w3410 gm f3439 rfl h3430)
      exact WL.loc hX (by simp) (next T H3434 ⟨⟨w3438, g0, gx, gm, go, by omega, by omega⟩, ⟨_, tc, tm, cu, dr, _, _, _, _, _, ce8, q3452, gtc, h3460, q3454, gtm, h3461, q3456, gcu, q3458, gdr, h3462, h3463, h3464, h3465, h3466, hC1, hC2, h3467, h3473, (h3468).1, (h3472).1, hE, hZ, (by omega), (by assumption), (by omega), (by first | assumption | exact SG_0), q3470, gce8, h3459, h3471, a3444, gm⟩, by omega, by omega⟩ (by omega) (by omega))
    · exfalso
      omega
  · refine wl_of hX hb cL_845 (rw_iconst (pc' := 846) rfl ?_)
    refine wl_of hX hb cL_846 (rw_goto (p1 := 850) (by decide) ?_)
    obtain ⟨B, tc, tm, cu, dr, C8, e8, d8, n8, g8, ce8, e0, gtc, htc, em, gtm, htm, ecu, gcu, edr, gdr, hcu, hdr, hdec, hded, hsp, hC1, hC2, hcu8, hrb8, hcg8, hmn8, hE, hZ, hn8, hXA, hV8, hSG, ece8, gce8, hcen8, hhdr8, hknn8, -⟩ := hXI
    have hN3 := RB_n3 hrb8
    have hE13 : ∀ h : Nat, h < 24 → 0 ≤ e8 13 h ∧ e8 13 h ≤ 100 := fun k hk => by
      obtain ⟨s, h1, h2, h3⟩ := hcu8.1.2.2.1
      exact ⟨(h3 k hk).1, (h3 k hk).2.1⟩
    have hXW := hXA.1
    have hXN := hXA.2
    have hE0 : e8 0 3 = d8 0 3 ∧ e8 0 0 = d8 0 0 := by
      have h := hE 0 (by decide)
      exact ⟨congrFun h 3, congrFun h 0⟩
    have u3474 := CU_k hcu8
    have h3475 : CY T H cu (d8 0 3) g8 (H cu 17) := ⟨hcg8, rfl⟩
    have h3476 : RY T H m (d8 0 3) g8 (H m 32) := ⟨hmn8, rfl⟩
    obtain ⟨t9, ht9⟩ : ∃ t : Int, t = H x 9 := ⟨_, rfl⟩
    obtain ⟨y9, hy9⟩ : ∃ y : Int, y = 1 := ⟨_, rfl⟩
    obtain ⟨r3477, q3478, g3479⟩ := hW.ref gx (t' := 6) (n := 13) (j := 2) (p := 0) (q := 0) rfl (by decide) rfl
    refine wl_of hX hb cL_850 (xc_V (pc' := 853) (r := x) (as := [vI (H 0 ((i + 1).toNat)), vI 1]) (st := []) (lm_11_109) rfl rfl (Nat.le_of_ble_eq_true rfl) hW gx sh_1 (by decide) rfl (by decide) (u_104 (e := e8) (d := d8) (n := n8) hW gx ⟨by omega, by omega⟩ ⟨by decide, by decide⟩ ecu gcu q3478 g3479 ece8 gce8 (by assumption) (by assumption) (by omega) (by omega) (by omega) (by omega) hcu8 hcen8 hhdr8) (fun R3480 T3481 H3482 p3483 => ?_))
    obtain ⟨e3484, w3486, f3487, z3488, e3485, b3489, p3490⟩ := p3483
    subst e3484
    subst e3485
    show WL _ _ _ _ 853 [(4, vI i), (3, .ref o), (2, .ref m), (1, .ref x), (0, .ref 0)] [vI z3488] _ H3482
    refine wl_of hX hb cL_853 (rw_pop (pc' := 854) rfl rfl ?_)
    refine wl_of hX hb cL_854 (rw_aload_n (pc' := 855) (v := .ref m) rfl rfl rfl ?_)
    refine wl_of hX hb cL_855 (rw_aload_n (pc' := 856) (v := .ref 0) rfl rfl rfl ?_)
    refine wl_of hX hb cL_856 (rw_iload (pc' := 858) (z := i) rfl rfl ?_)
    refine wl_of hX hb cL_858 (rw_iconst (pc' := 859) rfl ?_)
    refine wl_of hX hb cL_859 (rw_iadd (pc' := 860) rfl ?_)
    have k3494 : H3482 0 ((i + 1).toNat) = H 0 ((i + 1).toNat) := (f3487 0 ((i + 1).toNat) _ g0 (wmem_s rfl))
    refine wl_of hX hb cL_860 (xa_I (so := 0) (pc' := 861) (a := 0) w3486 g0 (wsh_s _) (by omega) (wty_s _ _) (by omega) (by omega) rfl (fun b3492 b3493 => ?_))
    refine wl_of hX hb cL_861 (rw_aload_n (pc' := 862) (v := .ref 0) rfl rfl rfl ?_)
    refine wl_of hX hb cL_862 (rw_iload (pc' := 864) (z := i) rfl rfl ?_)
    refine wl_of hX hb cL_864 (rw_iconst (pc' := 865) rfl ?_)
    refine wl_of hX hb cL_865 (rw_iadd (pc' := 866) rfl ?_)
    have k3497 : H3482 0 ((i + 2).toNat) = H 0 ((i + 2).toNat) := (f3487 0 ((i + 2).toNat) _ g0 (wmem_s rfl))
    refine wl_of hX hb cL_866 (xa_I (so := 0) (pc' := 867) (a := 0) w3486 g0 (wsh_s _) (by omega) (wty_s _ _) (by omega) (by omega) rfl (fun b3495 b3496 => ?_))
    refine wl_of hX hb cL_867 (rw_if_eq (p1 := 874) (p2 := 870) (by decide) rfl ⟨by omega, by omega⟩ (fun c3498 => ?_) (fun c3498 => ?_))
    · exfalso
      omega
    · refine wl_of hX hb cL_870 (rw_iconst (pc' := 871) rfl ?_)
      refine wl_of hX hb cL_871 (rw_goto (p1 := 875) (by decide) ?_)
      have k3550 : wKI H3482 m = wKI H m := (wKI_fr hW gm f3487 rfl)
      have k3551 : H3482 x 9 = H x 9 := (f3487 x 9 _ gx rfl)
      have k3552 : H3482 m 6 = H m 6 := (f3487 m 6 _ gm rfl)
      have k3553 : H3482 x 11 = H x 11 := (f3487 x 11 _ gx rfl)
      have k3554 : H3482 m 13 = H m 13 := (f3487 m 13 _ gm rfl)
      have k3555 : H3482 x 8 = H x 8 := (f3487 x 8 _ gx rfl)
      have k3556 : H3482 m 3 = H m 3 := (f3487 m 3 _ gm rfl)
      rw [show H3482 0 ((i + 1).toNat) = H 0 ((i + 1).toNat) by omega]
      have h3557 : RB T H3482 m e8 d8 := (RB_fr hW gm f3487 rfl hrb8)
      have h3558 : KNN T H3482 m e8 d8 := (KNN_fr hW gm f3487 rfl hknn8)
      refine wl_of hX hb cL_875 (xc_V (pc' := 878) (r := m) (as := [vI (H 0 ((i + 1).toNat)), vI 1]) (st := []) (lm_11_113) rfl rfl (Nat.le_of_ble_eq_true rfl) w3486 gm sh_42 (by decide) rfl (by decide) (u_254 (e := e8) (d := d8) w3486 gm ⟨by omega, by omega⟩ ⟨by decide, by decide⟩ (by omega) (by assumption) (by assumption) (by assumption) (by assumption) h3557 h3558) (fun R3559 T3560 H3561 p3562 => ?_))
      obtain ⟨e3563, w3565, f3566, z3567, e3564, b3568, p3569⟩ := p3562
      subst e3563
      subst e3564
      obtain ⟨a3570, a3571⟩ := p3569
      show WL _ _ _ _ 878 [(4, vI i), (3, .ref o), (2, .ref m), (1, .ref x), (0, .ref 0)] [vI z3567] _ H3561
      refine wl_of hX hb cL_878 (rw_pop (pc' := 879) rfl rfl ?_)
      refine wl_of hX hb cL_879 (rw_goto (p1 := 1653) (by decide) ?_)
      have k3572 : H3561 x 9 = H3482 x 9 := (f3566 x 9 _ gx rfl)
      have k3573 : H3561 m 6 = H3482 m 6 := (f3566 m 6 _ gm rfl)
      have k3574 : H3561 x 11 = H3482 x 11 := (f3566 x 11 _ gx rfl)
      have k3575 : H3561 m 13 = H3482 m 13 := (f3566 m 13 _ gm rfl)
      have k3576 : H3561 x 8 = H3482 x 8 := (f3566 x 8 _ gx rfl)
      have k3577 : H3561 m 3 = H3482 m 3 := (f3566 m 3 _ gm rfl)
      have k3578 : H3561 x 0 = H x 0 := ((f3566 x 0 _ gx rfl).trans (f3487 x 0 _ gx rfl))
      have q3579 : H3561 x 0 = (tc : Int) := k3578.trans e0
      have k3580 : H3561 m 5 = H m 5 := ((f3566 m 5 _ gm rfl).trans (f3487 m 5 _ gm rfl))
      have q3581 : H3561 m 5 = (tm : Int) := k3580.trans em
      have k3582 : H3561 x 6 = H x 6 := ((f3566 x 6 _ gx rfl).trans (f3487 x 6 _ gx rfl))
      have q3583 : H3561 x 6 = (cu : Int) := k3582.trans ecu
      have k3584 : H3561 x 7 = H x 7 := ((f3566 x 7 _ gx rfl).trans (f3487 x 7 _ gx rfl))
      have q3585 : H3561 x 7 = (dr : Int) := k3584.trans edr
      have h3586 : CEN T H3561 ce8 e8 d8 := (CEN_fr w3486 gce8 f3566 rfl p3490)
      have h3587 : TP T H3561 tc B := (TP_fr w3486 gtc f3566 rfl (TP_fr hW gtc f3487 rfl htc))
      have h3588 : TM T H3561 tm B := (TM_fr w3486 gtm f3566 rfl (TM_fr hW gtm f3487 rfl htm))
      have h3589 : DD T H3561 cu  := (DD_fr w3486 gcu f3566 rfl (DD_fr hW gcu f3487 rfl hcu))
      have h3590 : DD T H3561 dr  := (DD_fr w3486 gdr f3566 rfl (DD_fr hW gdr f3487 rfl hdr))
      have h3591 : DE T H3561 cu  := (DE_fr w3486 gcu f3566 rfl (DE_fr hW gcu f3487 rfl hdec))
      have h3592 : DE T H3561 dr  := (DE_fr w3486 gdr f3566 rfl (DE_fr hW gdr f3487 rfl hded))
      have h3593 : SP T H3561 x C8 := (SP_fr w3486 gx f3566 rfl (SP_fr hW gx f3487 rfl hsp))
      have h3594 : CU T H3561 cu e8 d8 n8 := (CU_fr w3486 gcu f3566 rfl (CU_fr hW gcu f3487 rfl hcu8))
      have h3595 : CY T H3561 cu (d8 0 3) g8 (H cu 17) := (CY_fr w3486 gcu f3566 rfl (CY_fr hW gcu f3487 rfl h3475))
      have k3596 : H3561 x 3 = H x 3 := ((f3566 x 3 _ gx rfl).trans (f3487 x 3 _ gx rfl))
      have q3597 : H3561 x 3 = (ce8 : Int) := k3596.trans ece8
      have h3598 : HDR T H3561 ce8  := (HDR_fr w3486 gce8 f3566 rfl (HDR_fr hW gce8 f3487 rfl hhdr8))
      have h3599 : RY T H3561 m (d8 0 3) g8 (H m 32) := (RY_fr w3486 gm f3566 rfl (RY_fr hW gm f3487 rfl h3476))
      have h3600 : RB T H3561 m e8 d8 := (RB_fr w3486 gm f3566 rfl h3557)
      exact WL.loc hX (by simp) (next T H3561 ⟨⟨w3565, g0, gx, gm, go, by omega, by omega⟩, ⟨_, tc, tm, cu, dr, _, _, _, _, _, ce8, q3579, gtc, h3587, q3581, gtm, h3588, q3583, gcu, q3585, gdr, h3589, h3590, h3591, h3592, h3593, hC1, hC2, h3594, h3600, (h3595).1, (h3599).1, hE, hZ, (by omega), (by assumption), (by omega), (by first | assumption | exact SG_0), q3597, gce8, h3586, h3598, a3571, gm⟩, by omega, by omega⟩ (by omega) (by omega))
set_option maxHeartbeats 4000000 in
theorem wl_c22 {kt : Nat → Option mc_E} {CB SB : Nat} {X : mc_S → Prop} {T : wq_T} {H : wq_H} {Len x m o : Nat} {i : Int} (hX : wlX kt CB SB X) (hb : T.2.1 ≤ CB ∧ T.2.2.1 ≤ SB) (hI : wlJ Len x m o T H) (hL : Len ≤ 3072) (hi : 0 ≤ i ∧ i + 6 ≤ Len) (hb2 : T.2.1 + 20 ≤ CB ∧ T.2.2.1 + 500 ≤ SB)  (next : ∀ T' H', wlJ Len x m o T' H' → T'.2.1 ≤ T.2.1 + 20 → T'.2.2.1 ≤ T.2.2.1 + 500 → WL kt CB SB X 1653 (wlL i x m o) [] T' H') : WL kt CB SB X 882 (wlL i x m o) [] T H := by
  obtain ⟨⟨hW, g0, gx, gm, go, hK, hr⟩, hXI, hY1, hY2⟩ := hI
  refine wl_of hX hb cL_882 (rw_aload_n (pc' := 883) (v := .ref x) rfl rfl rfl ?_)
  refine wl_of hX hb cL_883 (rw_aload_n (pc' := 884) (v := .ref 0) rfl rfl rfl ?_)
  refine wl_of hX hb cL_884 (rw_iload (pc' := 886) (z := i) rfl rfl ?_)
  refine wl_of hX hb cL_886 (rw_iconst (pc' := 887) rfl ?_)
  refine wl_of hX hb cL_887 (rw_iadd (pc' := 888) rfl ?_)
  refine wl_of hX hb cL_888 (xa_I (so := 0) (pc' := 889) (a := 0) hW g0 (wsh_s _) (by omega) (wty_s _ _) (by omega) (by omega) rfl (fun b3601 b3602 => ?_))
  refine wl_of hX hb cL_889 (rw_aload_n (pc' := 890) (v := .ref 0) rfl rfl rfl ?_)
  refine wl_of hX hb cL_890 (rw_iload (pc' := 892) (z := i) rfl rfl ?_)
  refine wl_of hX hb cL_892 (rw_iconst (pc' := 893) rfl ?_)
  refine wl_of hX hb cL_893 (rw_iadd (pc' := 894) rfl ?_)
  refine wl_of hX hb cL_894 (xa_I (so := 0) (pc' := 895) (a := 0) hW g0 (wsh_s _) (by omega) (wty_s _ _) (by omega) (by omega) rfl (fun b3603 b3604 => ?_))
  obtain ⟨B, tc, tm, cu, dr, C8, e8, d8, n8, g8, ce8, e0, gtc, htc, em, gtm, htm, ecu, gcu, edr, gdr, hcu, hdr, hdec, hded, hsp, hC1, hC2, hcu8, hrb8, hcg8, hmn8, hE, hZ, hn8, hXA, hV8, hSG, ece8, gce8, hcen8, hhdr8, hknn8, -⟩ := hXI
  have hN3 := RB_n3 hrb8
  have hE13 : ∀ h : Nat, h < 24 → 0 ≤ e8 13 h ∧ e8 13 h ≤ 100 := fun k hk => by
    obtain ⟨s, h1, h2, h3⟩ := hcu8.1.2.2.1
    exact ⟨(h3 k hk).1, (h3 k hk).2.1⟩
  have hXW := hXA.1
  have hXN := hXA.2
  have hE0 : e8 0 3 = d8 0 3 ∧ e8 0 0 = d8 0 0 := by
    have h := hE 0 (by decide)
    exact ⟨congrFun h 3, congrFun h 0⟩
  have u3605 := CU_k hcu8
  have h3606 : CY T H cu (d8 0 3) g8 (H cu 17) := ⟨hcg8, rfl⟩
  have h3607 : RY T H m (d8 0 3) g8 (H m 32) := ⟨hmn8, rfl⟩
  obtain ⟨t9, ht9⟩ : ∃ t : Int, t = H x 9 := ⟨_, rfl⟩
  obtain ⟨y9, hy9⟩ : ∃ y : Int, y = H 0 ((i + 2).toNat) := ⟨_, rfl⟩
  obtain ⟨r3608, q3609, g3610⟩ := hW.ref gx (t' := 6) (n := 13) (j := 2) (p := 0) (q := 0) rfl (by decide) rfl
  refine wl_of hX hb cL_895 (xc_V (pc' := 898) (r := x) (as := [vI (H 0 ((i + 1).toNat)), vI (H 0 ((i + 2).toNat))]) (st := []) (lm_11_114) rfl rfl (Nat.le_of_ble_eq_true rfl) hW gx sh_1 (by decide) rfl (by decide) (u_105 (e := e8) (d := d8) (n := n8) hW gx ⟨by omega, by omega⟩ ⟨by omega, by omega⟩ ecu gcu q3609 g3610 ece8 gce8 (by assumption) (by assumption) (by omega) (by omega) (by omega) (by omega) hcu8 hcen8 hhdr8) (fun R3611 T3612 H3613 p3614 => ?_))
  obtain ⟨e3615, w3617, f3618, z3619, e3616, b3620, p3621⟩ := p3614
  subst e3615
  subst e3616
  show WL _ _ _ _ 898 [(4, vI i), (3, .ref o), (2, .ref m), (1, .ref x), (0, .ref 0)] [vI z3619] _ H3613
  refine wl_of hX hb cL_898 (rw_pop (pc' := 899) rfl rfl ?_)
  refine wl_of hX hb cL_899 (rw_aload_n (pc' := 900) (v := .ref m) rfl rfl rfl ?_)
  refine wl_of hX hb cL_900 (rw_aload_n (pc' := 901) (v := .ref 0) rfl rfl rfl ?_)
  refine wl_of hX hb cL_901 (rw_iload (pc' := 903) (z := i) rfl rfl ?_)
  refine wl_of hX hb cL_903 (rw_iconst (pc' := 904) rfl ?_)
  refine wl_of hX hb cL_904 (rw_iadd (pc' := 905) rfl ?_)
  have k3625 : H3613 0 ((i + 1).toNat) = H 0 ((i + 1).toNat) := (f3618 0 ((i + 1).toNat) _ g0 (wmem_s rfl))
  refine wl_of hX hb cL_905 (xa_I (so := 0) (pc' := 906) (a := 0) w3617 g0 (wsh_s _) (by omega) (wty_s _ _) (by omega) (by omega) rfl (fun b3623 b3624 => ?_))
  refine wl_of hX hb cL_906 (rw_aload_n (pc' := 907) (v := .ref 0) rfl rfl rfl ?_)
  refine wl_of hX hb cL_907 (rw_iload (pc' := 909) (z := i) rfl rfl ?_)
  refine wl_of hX hb cL_909 (rw_iconst (pc' := 910) rfl ?_)
  refine wl_of hX hb cL_910 (rw_iadd (pc' := 911) rfl ?_)
  have k3628 : H3613 0 ((i + 2).toNat) = H 0 ((i + 2).toNat) := (f3618 0 ((i + 2).toNat) _ g0 (wmem_s rfl))
  refine wl_of hX hb cL_911 (xa_I (so := 0) (pc' := 912) (a := 0) w3617 g0 (wsh_s _) (by omega) (wty_s _ _) (by omega) (by omega) rfl (fun b3626 b3627 => ?_))
  have k3629 : wKI H3613 m = wKI H m := (wKI_fr hW gm f3618 rfl)
  have k3630 : H3613 x 9 = H x 9 := (f3618 x 9 _ gx rfl)
  have k3631 : H3613 m 6 = H m 6 := (f3618 m 6 _ gm rfl)
  have k3632 : H3613 x 11 = H x 11 := (f3618 x 11 _ gx rfl)
  have k3633 : H3613 m 13 = H m 13 := (f3618 m 13 _ gm rfl)
  have k3634 : H3613 x 8 = H x 8 := (f3618 x 8 _ gx rfl)
  have k3635 : H3613 m 3 = H m 3 := (f3618 m 3 _ gm rfl)
  rw [show H3613 0 ((i + 2).toNat) = H 0 ((i + 2).toNat) by omega]
  rw [show H3613 0 ((i + 1).toNat) = H 0 ((i + 1).toNat) by omega]
  have h3636 : RB T H3613 m e8 d8 := (RB_fr hW gm f3618 rfl hrb8)
  have h3637 : KNN T H3613 m e8 d8 := (KNN_fr hW gm f3618 rfl hknn8)
  refine wl_of hX hb cL_912 (xc_V (pc' := 915) (r := m) (as := [vI (H 0 ((i + 1).toNat)), vI (H 0 ((i + 2).toNat))]) (st := []) (lm_11_117) rfl rfl (Nat.le_of_ble_eq_true rfl) w3617 gm sh_42 (by decide) rfl (by decide) (u_255 (e := e8) (d := d8) w3617 gm ⟨by omega, by omega⟩ ⟨by omega, by omega⟩ (by omega) (by assumption) (by assumption) (by assumption) (by assumption) h3636 h3637) (fun R3638 T3639 H3640 p3641 => ?_))
  obtain ⟨e3642, w3644, f3645, z3646, e3643, b3647, p3648⟩ := p3641
  subst e3642
  subst e3643
  obtain ⟨a3649, a3650⟩ := p3648
  show WL _ _ _ _ 915 [(4, vI i), (3, .ref o), (2, .ref m), (1, .ref x), (0, .ref 0)] [vI z3646] _ H3640
  refine wl_of hX hb cL_915 (rw_pop (pc' := 916) rfl rfl ?_)
  refine wl_of hX hb cL_916 (rw_goto (p1 := 1653) (by decide) ?_)
  have k3651 : H3640 x 9 = H3613 x 9 := (f3645 x 9 _ gx rfl)
  have k3652 : H3640 m 6 = H3613 m 6 := (f3645 m 6 _ gm rfl)
  have k3653 : H3640 x 11 = H3613 x 11 := (f3645 x 11 _ gx rfl)
  have k3654 : H3640 m 13 = H3613 m 13 := (f3645 m 13 _ gm rfl)
  have k3655 : H3640 x 8 = H3613 x 8 := (f3645 x 8 _ gx rfl)
  have k3656 : H3640 m 3 = H3613 m 3 := (f3645 m 3 _ gm rfl)
  have k3657 : H3640 x 0 = H x 0 := ((f3645 x 0 _ gx rfl).trans (f3618 x 0 _ gx rfl))
  have q3658 : H3640 x 0 = (tc : Int) := k3657.trans e0
  have k3659 : H3640 m 5 = H m 5 := ((f3645 m 5 _ gm rfl).trans (f3618 m 5 _ gm rfl))
  have q3660 : H3640 m 5 = (tm : Int) := k3659.trans em
  have k3661 : H3640 x 6 = H x 6 := ((f3645 x 6 _ gx rfl).trans (f3618 x 6 _ gx rfl))
  have q3662 : H3640 x 6 = (cu : Int) := k3661.trans ecu
  have k3663 : H3640 x 7 = H x 7 := ((f3645 x 7 _ gx rfl).trans (f3618 x 7 _ gx rfl))
  have q3664 : H3640 x 7 = (dr : Int) := k3663.trans edr
  have h3665 : CEN T H3640 ce8 e8 d8 := (CEN_fr w3617 gce8 f3645 rfl p3621)
  have h3666 : TP T H3640 tc B := (TP_fr w3617 gtc f3645 rfl (TP_fr hW gtc f3618 rfl htc))
  have h3667 : TM T H3640 tm B := (TM_fr w3617 gtm f3645 rfl (TM_fr hW gtm f3618 rfl htm))
  have h3668 : DD T H3640 cu  := (DD_fr w3617 gcu f3645 rfl (DD_fr hW gcu f3618 rfl hcu))
  have h3669 : DD T H3640 dr  := (DD_fr w3617 gdr f3645 rfl (DD_fr hW gdr f3618 rfl hdr))
  have h3670 : DE T H3640 cu  := (DE_fr w3617 gcu f3645 rfl (DE_fr hW gcu f3618 rfl hdec))
  have h3671 : DE T H3640 dr  := (DE_fr w3617 gdr f3645 rfl (DE_fr hW gdr f3618 rfl hded))
  have h3672 : SP T H3640 x C8 := (SP_fr w3617 gx f3645 rfl (SP_fr hW gx f3618 rfl hsp))
  have h3673 : CU T H3640 cu e8 d8 n8 := (CU_fr w3617 gcu f3645 rfl (CU_fr hW gcu f3618 rfl hcu8))
  have h3674 : CY T H3640 cu (d8 0 3) g8 (H cu 17) := (CY_fr w3617 gcu f3645 rfl (CY_fr hW gcu f3618 rfl h3606))
  have k3675 : H3640 x 3 = H x 3 := ((f3645 x 3 _ gx rfl).trans (f3618 x 3 _ gx rfl))
  have q3676 : H3640 x 3 = (ce8 : Int) := k3675.trans ece8
  have h3677 : HDR T H3640 ce8  := (HDR_fr w3617 gce8 f3645 rfl (HDR_fr hW gce8 f3618 rfl hhdr8))
  have h3678 : RY T H3640 m (d8 0 3) g8 (H m 32) := (RY_fr w3617 gm f3645 rfl (RY_fr hW gm f3618 rfl h3607))
  have h3679 : RB T H3640 m e8 d8 := (RB_fr w3617 gm f3645 rfl h3636)
  exact WL.loc hX (by simp) (next T H3640 ⟨⟨w3644, g0, gx, gm, go, by omega, by omega⟩, ⟨_, tc, tm, cu, dr, _, _, _, _, _, ce8, q3658, gtc, h3666, q3660, gtm, h3667, q3662, gcu, q3664, gdr, h3668, h3669, h3670, h3671, h3672, hC1, hC2, h3673, h3679, (h3674).1, (h3678).1, hE, hZ, (by omega), (by assumption), (by omega), (by first | assumption | exact SG_0), q3676, gce8, h3665, h3677, a3650, gm⟩, by omega, by omega⟩ (by omega) (by omega))
