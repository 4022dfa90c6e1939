/-! THE LAW, GONE ON WITH (own work) -/
set_option maxHeartbeats 4000000 in
theorem wl_c16 {kt : Nat → Option mc_E} {CB SB : Nat} {X : mc_S → Prop} {T : wq_T} {H : wq_H} {Len x m o : Nat} {i : Int} (hX : wlX kt CB SB X) (hb : T.2.1 ≤ CB ∧ T.2.2.1 ≤ SB) (hI : wlJ Len x m o T H) (hL : Len ≤ 3072) (hi : 0 ≤ i ∧ i + 6 ≤ Len) (hb2 : T.2.1 + 20 ≤ CB ∧ T.2.2.1 + 500 ≤ SB)  (next : ∀ T' H', wlJ Len x m o T' H' → T'.2.1 ≤ T.2.1 + 20 → T'.2.2.1 ≤ T.2.2.1 + 500 → WL kt CB SB X 1653 (wlL i x m o) [] T' H') : WL kt CB SB X 668 (wlL i x m o) [] T H := by
  obtain ⟨⟨hW, g0, gx, gm, go, hK, hr⟩, hXI, hY1, hY2⟩ := hI
  refine wl_of hX hb cL_668 (rw_aload_n (pc' := 669) (v := .ref x) rfl rfl rfl ?_)
  refine wl_of hX hb cL_669 (rw_aload_n (pc' := 670) (v := .ref 0) rfl rfl rfl ?_)
  refine wl_of hX hb cL_670 (rw_iload (pc' := 672) (z := i) rfl rfl ?_)
  refine wl_of hX hb cL_672 (rw_iconst (pc' := 673) rfl ?_)
  refine wl_of hX hb cL_673 (rw_iadd (pc' := 674) rfl ?_)
  refine wl_of hX hb cL_674 (xa_I (so := 0) (pc' := 675) (a := 0) hW g0 (wsh_s _) (by omega) (wty_s _ _) (by omega) (by omega) rfl (fun b2954 b2955 => ?_))
  refine wl_of hX hb cL_675 (rw_aload_n (pc' := 676) (v := .ref 0) rfl rfl rfl ?_)
  refine wl_of hX hb cL_676 (rw_iload (pc' := 678) (z := i) rfl rfl ?_)
  refine wl_of hX hb cL_678 (rw_iconst (pc' := 679) rfl ?_)
  refine wl_of hX hb cL_679 (rw_iadd (pc' := 680) rfl ?_)
  refine wl_of hX hb cL_680 (xa_I (so := 0) (pc' := 681) (a := 0) hW g0 (wsh_s _) (by omega) (wty_s _ _) (by omega) (by omega) rfl (fun b2956 b2957 => ?_))
  obtain ⟨B, tc, tm, cu, dr, C8, e8, d8, n8, g8, ce8, e0, gtc, htc, em, gtm, htm, ecu, gcu, edr, gdr, hcu, hdr, hdec, hded, hsp, hC1, hC2, hcu8, hrb8, hcg8, hmn8, hE, hZ, hn8, hXA, hV8, hSG, ece8, gce8, hcen8, hhdr8, hknn8, -⟩ := hXI
  have hN3 := RB_n3 hrb8
  have hE13 : ∀ h : Nat, h < 24 → 0 ≤ e8 13 h ∧ e8 13 h ≤ 100 := fun k hk => by
    obtain ⟨s, h1, h2, h3⟩ := hcu8.1.2.2.1
    exact ⟨(h3 k hk).1, (h3 k hk).2.1⟩
  have hXW := hXA.1
  have hXN := hXA.2
  have hE0 : e8 0 3 = d8 0 3 ∧ e8 0 0 = d8 0 0 := by
    have h := hE 0 (by decide)
    exact ⟨congrFun h 3, congrFun h 0⟩
  have u2958 := CU_k hcu8
  have h2959 : CY T H cu (d8 0 3) g8 (H cu 17) := ⟨hcg8, rfl⟩
  have h2960 : RY T H m (d8 0 3) g8 (H m 32) := ⟨hmn8, rfl⟩
  obtain ⟨t9, ht9⟩ : ∃ t : Int, t = H x 9 := ⟨_, rfl⟩
  obtain ⟨y9, hy9⟩ : ∃ y : Int, y = H 0 ((i + 2).toNat) := ⟨_, rfl⟩
  obtain ⟨r2961, q2962, g2963⟩ := hW.ref gx (t' := 6) (n := 13) (j := 2) (p := 0) (q := 0) rfl (by decide) rfl
  refine wl_of hX hb cL_681 (xc_V (pc' := 684) (r := x) (as := [vI (H 0 ((i + 1).toNat)), vI (H 0 ((i + 2).toNat))]) (st := []) (lm_11_88) rfl rfl (Nat.le_of_ble_eq_true rfl) hW gx sh_1 (by decide) rfl (by decide) (u_93 (e := e8) (d := d8) (n := n8) hW gx ⟨by omega, by omega⟩ ⟨by omega, by omega⟩ ecu gcu q2962 g2963 ece8 gce8 (by assumption) (by assumption) (by omega) (by omega) (by omega) (by omega) hcu8 hcen8 hhdr8) (fun R2964 T2965 H2966 p2967 => ?_))
  obtain ⟨e2968, w2970, f2971, z2972, e2969, b2973, p2974⟩ := p2967
  subst e2968
  subst e2969
  show WL _ _ _ _ 684 [(4, vI i), (3, .ref o), (2, .ref m), (1, .ref x), (0, .ref 0)] [vI z2972] _ H2966
  refine wl_of hX hb cL_684 (rw_pop (pc' := 685) rfl rfl ?_)
  refine wl_of hX hb cL_685 (rw_aload_n (pc' := 686) (v := .ref m) rfl rfl rfl ?_)
  refine wl_of hX hb cL_686 (rw_aload_n (pc' := 687) (v := .ref 0) rfl rfl rfl ?_)
  refine wl_of hX hb cL_687 (rw_iload (pc' := 689) (z := i) rfl rfl ?_)
  refine wl_of hX hb cL_689 (rw_iconst (pc' := 690) rfl ?_)
  refine wl_of hX hb cL_690 (rw_iadd (pc' := 691) rfl ?_)
  have k2978 : H2966 0 ((i + 1).toNat) = H 0 ((i + 1).toNat) := (f2971 0 ((i + 1).toNat) _ g0 (wmem_s rfl))
  refine wl_of hX hb cL_691 (xa_I (so := 0) (pc' := 692) (a := 0) w2970 g0 (wsh_s _) (by omega) (wty_s _ _) (by omega) (by omega) rfl (fun b2976 b2977 => ?_))
  refine wl_of hX hb cL_692 (rw_aload_n (pc' := 693) (v := .ref 0) rfl rfl rfl ?_)
  refine wl_of hX hb cL_693 (rw_iload (pc' := 695) (z := i) rfl rfl ?_)
  refine wl_of hX hb cL_695 (rw_iconst (pc' := 696) rfl ?_)
  refine wl_of hX hb cL_696 (rw_iadd (pc' := 697) rfl ?_)
  have k2981 : H2966 0 ((i + 2).toNat) = H 0 ((i + 2).toNat) := (f2971 0 ((i + 2).toNat) _ g0 (wmem_s rfl))
  refine wl_of hX hb cL_697 (xa_I (so := 0) (pc' := 698) (a := 0) w2970 g0 (wsh_s _) (by omega) (wty_s _ _) (by omega) (by omega) rfl (fun b2979 b2980 => ?_))
  have k2982 : wKI H2966 m = wKI H m := (wKI_fr hW gm f2971 rfl)
  have k2983 : H2966 x 9 = H x 9 := (f2971 x 9 _ gx rfl)
  have k2984 : H2966 m 6 = H m 6 := (f2971 m 6 _ gm rfl)
  have k2985 : H2966 x 11 = H x 11 := (f2971 x 11 _ gx rfl)
  have k2986 : H2966 m 13 = H m 13 := (f2971 m 13 _ gm rfl)
  have k2987 : H2966 x 8 = H x 8 := (f2971 x 8 _ gx rfl)
  have k2988 : H2966 m 3 = H m 3 := (f2971 m 3 _ gm rfl)
  rw [show H2966 0 ((i + 2).toNat) = H 0 ((i + 2).toNat) by omega]
  rw [show H2966 0 ((i + 1).toNat) = H 0 ((i + 1).toNat) by omega]
  have h2989 : RB T H2966 m e8 d8 := (RB_fr hW gm f2971 rfl hrb8)
  have h2990 : KNN T H2966 m e8 d8 := (KNN_fr hW gm f2971 rfl hknn8)
  refine wl_of hX hb cL_698 (xc_V (pc' := 701) (r := m) (as := [vI (H 0 ((i + 1).toNat)), vI (H 0 ((i + 2).toNat))]) (st := []) (lm_11_92) rfl rfl (Nat.le_of_ble_eq_true rfl) w2970 gm sh_42 (by decide) rfl (by decide) (u_245 (e := e8) (d := d8) w2970 gm ⟨by omega, by omega⟩ ⟨by omega, by omega⟩ (by omega) (by assumption) (by assumption) (by assumption) (by assumption) h2989 h2990) (fun R2991 T2992 H2993 p2994 => ?_))
  obtain ⟨e2995, w2997, f2998, z2999, e2996, b3000, p3001⟩ := p2994
  subst e2995
  subst e2996
  obtain ⟨a3002, a3003⟩ := p3001
  show WL _ _ _ _ 701 [(4, vI i), (3, .ref o), (2, .ref m), (1, .ref x), (0, .ref 0)] [vI z2999] _ H2993
  refine wl_of hX hb cL_701 (rw_pop (pc' := 702) rfl rfl ?_)
  refine wl_of hX hb cL_702 (rw_goto (p1 := 1653) (by decide) ?_)
  have k3004 : H2993 x 9 = H2966 x 9 := (f2998 x 9 _ gx rfl)
  have k3005 : H2993 m 6 = H2966 m 6 := (f2998 m 6 _ gm rfl)
  have k3006 : H2993 x 11 = H2966 x 11 := (f2998 x 11 _ gx rfl)
  have k3007 : H2993 m 13 = H2966 m 13 := (f2998 m 13 _ gm rfl)
  have k3008 : H2993 x 8 = H2966 x 8 := (f2998 x 8 _ gx rfl)
  have k3009 : H2993 m 3 = H2966 m 3 := (f2998 m 3 _ gm rfl)
  have k3010 : H2993 x 0 = H x 0 := ((f2998 x 0 _ gx rfl).trans (f2971 x 0 _ gx rfl))
  have q3011 : H2993 x 0 = (tc : Int) := k3010.trans e0
  have k3012 : H2993 m 5 = H m 5 := ((f2998 m 5 _ gm rfl).trans (f2971 m 5 _ gm rfl))
  have q3013 : H2993 m 5 = (tm : Int) := k3012.trans em
  have k3014 : H2993 x 6 = H x 6 := ((f2998 x 6 _ gx rfl).trans (f2971 x 6 _ gx rfl))
  have q3015 : H2993 x 6 = (cu : Int) := k3014.trans ecu
  have k3016 : H2993 x 7 = H x 7 := ((f2998 x 7 _ gx rfl).trans (f2971 x 7 _ gx rfl))
  have q3017 : H2993 x 7 = (dr : Int) := k3016.trans edr
  have h3018 : CEN T H2993 ce8 e8 d8 := (CEN_fr w2970 gce8 f2998 rfl p2974)
  have h3019 : TP T H2993 tc B := (TP_fr w2970 gtc f2998 rfl (TP_fr hW gtc f2971 rfl htc))
  have h3020 : TM T H2993 tm B := (TM_fr w2970 gtm f2998 rfl (TM_fr hW gtm f2971 rfl htm))
  have h3021 : DD T H2993 cu  := (DD_fr w2970 gcu f2998 rfl (DD_fr hW gcu f2971 rfl hcu))
  have h3022 : DD T H2993 dr  := (DD_fr w2970 gdr f2998 rfl (DD_fr hW gdr f2971 rfl hdr))
  have h3023 : DE T H2993 cu  := (DE_fr w2970 gcu f2998 rfl (DE_fr hW gcu f2971 rfl hdec))
  have h3024 : DE T H2993 dr  := (DE_fr w2970 gdr f2998 rfl (DE_fr hW gdr f2971 rfl hded))
  have h3025 : SP T H2993 x C8 := (SP_fr w2970 gx f2998 rfl (SP_fr hW gx f2971 rfl hsp))
  have h3026 : CU T H2993 cu e8 d8 n8 := (CU_fr w2970 gcu f2998 rfl (CU_fr hW gcu f2971 rfl hcu8))
  have h3027 : CY T H2993 cu (d8 0 3) g8 (H cu 17) := (CY_fr w2970 gcu f2998 rfl (CY_fr hW gcu f2971 rfl h2959))
  have k3028 : H2993 x 3 = H x 3 := ((f2998 x 3 _ gx rfl).trans (f2971 x 3 _ gx rfl))
  have q3029 : H2993 x 3 = (ce8 : Int) := k3028.trans ece8
  have h3030 : HDR T H2993 ce8  := (HDR_fr w2970 gce8 f2998 rfl (HDR_fr hW gce8 f2971 rfl hhdr8))
  have h3031 : RY T H2993 m (d8 0 3) g8 (H m 32) := (RY_fr w2970 gm f2998 rfl (RY_fr hW gm f2971 rfl h2960))
  have h3032 : RB T H2993 m e8 d8 := (RB_fr w2970 gm f2998 rfl h2989)
  exact WL.loc hX (by simp) (next T H2993 ⟨⟨w2997, g0, gx, gm, go, by omega, by omega⟩, ⟨_, tc, tm, cu, dr, _, _, _, _, _, ce8, q3011, gtc, h3019, q3013, gtm, h3020, q3015, gcu, q3017, gdr, h3021, h3022, h3023, h3024, h3025, hC1, hC2, h3026, h3032, (h3027).1, (h3031).1, hE, hZ, (by omega), (by assumption), (by omega), (by first | assumption | exact SG_0), q3029, gce8, h3018, h3030, a3003, gm⟩, by omega, by omega⟩ (by omega) (by omega))
set_option maxHeartbeats 4000000 in
theorem wl_c17 {kt : Nat → Option mc_E} {CB SB : Nat} {X : mc_S → Prop} {T : wq_T} {H : wq_H} {Len x m o : Nat} {i : Int} (hX : wlX kt CB SB X) (hb : T.2.1 ≤ CB ∧ T.2.2.1 ≤ SB) (hI : wlJ Len x m o T H) (hL : Len ≤ 3072) (hi : 0 ≤ i ∧ i + 6 ≤ Len) (hb2 : T.2.1 + 20 ≤ CB ∧ T.2.2.1 + 500 ≤ SB)  (next : ∀ T' H', wlJ Len x m o T' H' → T'.2.1 ≤ T.2.1 + 20 → T'.2.2.1 ≤ T.2.2.1 + 500 → WL kt CB SB X 1653 (wlL i x m o) [] T' H') : WL kt CB SB X 705 (wlL i x m o) [] T H := by
  obtain ⟨⟨hW, g0, gx, gm, go, hK, hr⟩, hXI, hY1, hY2⟩ := hI
  refine wl_of hX hb cL_705 (rw_aload_n (pc' := 706) (v := .ref x) rfl rfl rfl ?_)
  obtain ⟨B, tc, tm, cu, dr, C8, e8, d8, n8, g8, ce8, e0, gtc, htc, em, gtm, htm, ecu, gcu, edr, gdr, hcu, hdr, hdec, hded, hsp, hC1, hC2, hcu8, hrb8, hcg8, hmn8, hE, hZ, hn8, hXA, hV8, hSG, ece8, gce8, hcen8, hhdr8, hknn8, -⟩ := hXI
  have hN3 := RB_n3 hrb8
  have hE13 : ∀ h : Nat, h < 24 → 0 ≤ e8 13 h ∧ e8 13 h ≤ 100 := fun k hk => by
    obtain ⟨s, h1, h2, h3⟩ := hcu8.1.2.2.1
    exact ⟨(h3 k hk).1, (h3 k hk).2.1⟩
  have hXW := hXA.1
  have hXN := hXA.2
  have hE0 : e8 0 3 = d8 0 3 ∧ e8 0 0 = d8 0 0 := by
    have h := hE 0 (by decide)
    exact ⟨congrFun h 3, congrFun h 0⟩
  have u3033 := CU_k hcu8
  have h3034 : CY T H cu (d8 0 3) g8 (H cu 17) := ⟨hcg8, rfl⟩
  have h3035 : RY T H m (d8 0 3) g8 (H m 32) := ⟨hmn8, rfl⟩
  obtain ⟨t9, ht9⟩ : ∃ t : Int, t = H x 9 := ⟨_, rfl⟩
  obtain ⟨r3036, q3037, g3038⟩ := hW.ref gx (t' := 6) (n := 13) (j := 2) (p := 0) (q := 0) rfl (by decide) rfl
  refine wl_of hX hb cL_706 (xc_V (pc' := 709) (r := x) (as := []) (st := []) (lm_11_93) rfl rfl (Nat.le_of_ble_eq_true rfl) hW gx sh_1 (by decide) rfl (by decide) (u_97 (e := e8) (d := d8) (n := n8) hW gx ecu gcu q3037 g3038 ece8 gce8 (by assumption) (by assumption) (by omega) (by omega) (by omega) (by omega) hcu8 hcen8 hhdr8) (fun R3039 T3040 H3041 p3042 => ?_))
  obtain ⟨e3043, w3045, f3046, z3047, e3044, b3048, p3049⟩ := p3042
  subst e3043
  subst e3044
  show WL _ _ _ _ 709 [(4, vI i), (3, .ref o), (2, .ref m), (1, .ref x), (0, .ref 0)] [vL z3047] _ H3041
  refine wl_of hX hb cL_709 (rw_pop2 (pc' := 710) rfl rfl ?_)
  refine wl_of hX hb cL_710 (rw_aload_n (pc' := 711) (v := .ref m) rfl rfl rfl ?_)
  have k3051 : wKI H3041 m = wKI H m := (wKI_fr hW gm f3046 rfl)
  have k3052 : H3041 x 9 = H x 9 := (f3046 x 9 _ gx rfl)
  have k3053 : H3041 m 6 = H m 6 := (f3046 m 6 _ gm rfl)
  have k3054 : H3041 x 11 = H x 11 := (f3046 x 11 _ gx rfl)
  have k3055 : H3041 m 13 = H m 13 := (f3046 m 13 _ gm rfl)
  have k3056 : H3041 x 8 = H x 8 := (f3046 x 8 _ gx rfl)
  have k3057 : H3041 m 3 = H m 3 := (f3046 m 3 _ gm rfl)
  have h3058 : RB T H3041 m e8 d8 := (RB_fr hW gm f3046 rfl hrb8)
  have h3059 : KNN T H3041 m e8 d8 := (KNN_fr hW gm f3046 rfl hknn8)
  refine wl_of hX hb cL_711 (xc_V (pc' := 714) (r := m) (as := []) (st := []) (lm_11_96) rfl rfl (Nat.le_of_ble_eq_true rfl) w3045 gm sh_42 (by decide) rfl (by decide) (u_246 (e := e8) (d := d8) w3045 gm (by omega) (by assumption) (by assumption) (by assumption) (by assumption) h3058 h3059) (fun R3060 T3061 H3062 p3063 => ?_))
  obtain ⟨e3064, w3066, f3067, z3068, e3065, b3069, p3070⟩ := p3063
  subst e3064
  subst e3065
  obtain ⟨a3071, a3072⟩ := p3070
  show WL _ _ _ _ 714 [(4, vI i), (3, .ref o), (2, .ref m), (1, .ref x), (0, .ref 0)] [vL z3068] _ H3062
  refine wl_of hX hb cL_714 (rw_pop2 (pc' := 715) rfl rfl ?_)
  refine wl_of hX hb cL_715 (rw_goto (p1 := 1653) (by decide) ?_)
  have k3073 : H3062 x 9 = H3041 x 9 := (f3067 x 9 _ gx rfl)
  have k3074 : H3062 m 6 = H3041 m 6 := (f3067 m 6 _ gm rfl)
  have k3075 : H3062 x 11 = H3041 x 11 := (f3067 x 11 _ gx rfl)
  have k3076 : H3062 m 13 = H3041 m 13 := (f3067 m 13 _ gm rfl)
  have k3077 : H3062 x 8 = H3041 x 8 := (f3067 x 8 _ gx rfl)
  have k3078 : H3062 m 3 = H3041 m 3 := (f3067 m 3 _ gm rfl)
  have k3079 : H3062 x 0 = H x 0 := ((f3067 x 0 _ gx rfl).trans (f3046 x 0 _ gx rfl))
  have q3080 : H3062 x 0 = (tc : Int) := k3079.trans e0
  have k3081 : H3062 m 5 = H m 5 := ((f3067 m 5 _ gm rfl).trans (f3046 m 5 _ gm rfl))
  have q3082 : H3062 m 5 = (tm : Int) := k3081.trans em
  have k3083 : H3062 x 6 = H x 6 := ((f3067 x 6 _ gx rfl).trans (f3046 x 6 _ gx rfl))
  have q3084 : H3062 x 6 = (cu : Int) := k3083.trans ecu
  have k3085 : H3062 x 7 = H x 7 := ((f3067 x 7 _ gx rfl).trans (f3046 x 7 _ gx rfl))
  have q3086 : H3062 x 7 = (dr : Int) := k3085.trans edr
  have h3087 : CEN T H3062 ce8 e8 d8 := (CEN_fr w3045 gce8 f3067 rfl p3049)
  have h3088 : TP T H3062 tc B := (TP_fr w3045 gtc f3067 rfl (TP_fr hW gtc f3046 rfl htc))
  have h3089 : TM T H3062 tm B := (TM_fr w3045 gtm f3067 rfl (TM_fr hW gtm f3046 rfl htm))
  have h3090 : DD T H3062 cu  := (DD_fr w3045 gcu f3067 rfl (DD_fr hW gcu f3046 rfl hcu))
  have h3091 : DD T H3062 dr  := (DD_fr w3045 gdr f3067 rfl (DD_fr hW gdr f3046 rfl hdr))
  have h3092 : DE T H3062 cu  := (DE_fr w3045 gcu f3067 rfl (DE_fr hW gcu f3046 rfl hdec))
  have h3093 : DE T H3062 dr  := (DE_fr w3045 gdr f3067 rfl (DE_fr hW gdr f3046 rfl hded))
  have h3094 : SP T H3062 x C8 := (SP_fr w3045 gx f3067 rfl (SP_fr hW gx f3046 rfl hsp))
  have h3095 : CU T H3062 cu e8 d8 n8 := (CU_fr w3045 gcu f3067 rfl (CU_fr hW gcu f3046 rfl hcu8))
  have h3096 : CY T H3062 cu (d8 0 3) g8 (H cu 17) := (CY_fr w3045 gcu f3067 rfl (CY_fr hW gcu f3046 rfl h3034))
  have k3097 : H3062 x 3 = H x 3 := ((f3067 x 3 _ gx rfl).trans (f3046 x 3 _ gx rfl))
  have q3098 : H3062 x 3 = (ce8 : Int) := k3097.trans ece8
  have h3099 : HDR T H3062 ce8  := (HDR_fr w3045 gce8 f3067 rfl (HDR_fr hW gce8 f3046 rfl hhdr8))
  have h3100 : RY T H3062 m (d8 0 3) g8 (H m 32) := (RY_fr w3045 gm f3067 rfl (RY_fr hW gm f3046 rfl h3035))
  have h3101 : RB T H3062 m e8 d8 := (RB_fr w3045 gm f3067 rfl h3058)
  exact WL.loc hX (by simp) (next T H3062 ⟨⟨w3066, g0, gx, gm, go, by omega, by omega⟩, ⟨_, tc, tm, cu, dr, _, _, _, _, _, ce8, q3080, gtc, h3088, q3082, gtm, h3089, q3084, gcu, q3086, gdr, h3090, h3091, h3092, h3093, h3094, hC1, hC2, h3095, h3101, (h3096).1, (h3100).1, hE, hZ, (by omega), (by assumption), (by omega), (by first | assumption | exact SG_0), q3098, gce8, h3087, h3099, a3072, gm⟩, by omega, by omega⟩ (by omega) (by omega))
set_option maxHeartbeats 4000000 in
theorem wl_c18 {kt : Nat → Option mc_E} {CB SB : Nat} {X : mc_S → Prop} {T : wq_T} {H : wq_H} {Len x m o : Nat} {i : Int} (hX : wlX kt CB SB X) (hb : T.2.1 ≤ CB ∧ T.2.2.1 ≤ SB) (hI : wlJ Len x m o T H) (hL : Len ≤ 3072) (hi : 0 ≤ i ∧ i + 6 ≤ Len) (hb2 : T.2.1 + 20 ≤ CB ∧ T.2.2.1 + 500 ≤ SB)  (next : ∀ T' H', wlJ Len x m o T' H' → T'.2.1 ≤ T.2.1 + 20 → T'.2.2.1 ≤ T.2.2.1 + 500 → WL kt CB SB X 1653 (wlL i x m o) [] T' H') : WL kt CB SB X 718 (wlL i x m o) [] T H := by
  obtain ⟨⟨hW, g0, gx, gm, go, hK, hr⟩, hXI, hY1, hY2⟩ := hI
  refine wl_of hX hb cL_718 (rw_aload_n (pc' := 719) (v := .ref x) rfl rfl rfl ?_)
  refine wl_of hX hb cL_719 (rw_aload_n (pc' := 720) (v := .ref 0) rfl rfl rfl ?_)
  refine wl_of hX hb cL_720 (rw_iload (pc' := 722) (z := i) rfl rfl ?_)
  refine wl_of hX hb cL_722 (rw_iconst (pc' := 723) rfl ?_)
  refine wl_of hX hb cL_723 (rw_iadd (pc' := 724) rfl ?_)
  refine wl_of hX hb cL_724 (xa_I (so := 0) (pc' := 725) (a := 0) hW g0 (wsh_s _) (by omega) (wty_s _ _) (by omega) (by omega) rfl (fun b3102 b3103 => ?_))
  refine wl_of hX hb cL_725 (rw_aload_n (pc' := 726) (v := .ref 0) rfl rfl rfl ?_)
  refine wl_of hX hb cL_726 (rw_iload (pc' := 728) (z := i) rfl rfl ?_)
  refine wl_of hX hb cL_728 (rw_iconst (pc' := 729) rfl ?_)
  refine wl_of hX hb cL_729 (rw_iadd (pc' := 730) rfl ?_)
  refine wl_of hX hb cL_730 (xa_I (so := 0) (pc' := 731) (a := 0) hW g0 (wsh_s _) (by omega) (wty_s _ _) (by omega) (by omega) rfl (fun b3104 b3105 => ?_))
  obtain ⟨B, tc, tm, cu, dr, C8, e8, d8, n8, g8, ce8, e0, gtc, htc, em, gtm, htm, ecu, gcu, edr, gdr, hcu, hdr, hdec, hded, hsp, hC1, hC2, hcu8, hrb8, hcg8, hmn8, hE, hZ, hn8, hXA, hV8, hSG, ece8, gce8, hcen8, hhdr8, hknn8, -⟩ := hXI
  have hN3 := RB_n3 hrb8
  have hE13 : ∀ h : Nat, h < 24 → 0 ≤ e8 13 h ∧ e8 13 h ≤ 100 := fun k hk => by
    obtain ⟨s, h1, h2, h3⟩ := hcu8.1.2.2.1
    exact ⟨(h3 k hk).1, (h3 k hk).2.1⟩
  have hXW := hXA.1
  have hXN := hXA.2
  have hE0 : e8 0 3 = d8 0 3 ∧ e8 0 0 = d8 0 0 := by
    have h := hE 0 (by decide)
    exact ⟨congrFun h 3, congrFun h 0⟩
  have u3106 := CU_k hcu8
  have h3107 : CY T H cu (d8 0 3) g8 (H cu 17) := ⟨hcg8, rfl⟩
  have h3108 : RY T H m (d8 0 3) g8 (H m 32) := ⟨hmn8, rfl⟩
  obtain ⟨t9, ht9⟩ : ∃ t : Int, t = H x 9 := ⟨_, rfl⟩
  obtain ⟨y9, hy9⟩ : ∃ y : Int, y = H 0 ((i + 2).toNat) := ⟨_, rfl⟩
  obtain ⟨r3109, q3110, g3111⟩ := hW.ref gx (t' := 6) (n := 13) (j := 2) (p := 0) (q := 0) rfl (by decide) rfl
  refine wl_of hX hb cL_731 (xc_V (pc' := 734) (r := x) (as := [vI (H 0 ((i + 1).toNat)), vI (H 0 ((i + 2).toNat))]) (st := []) (lm_11_97) rfl rfl (Nat.le_of_ble_eq_true rfl) hW gx sh_1 (by decide) rfl (by decide) (u_98 (e := e8) (d := d8) (n := n8) hW gx ⟨by omega, by omega⟩ ⟨by omega, by omega⟩ ecu gcu q3110 g3111 ece8 gce8 (by assumption) (by assumption) (by omega) (by omega) (by omega) (by omega) hcu8 hcen8 hhdr8) (fun R3112 T3113 H3114 p3115 => ?_))
  obtain ⟨e3116, w3118, f3119, z3120, e3117, b3121, p3122⟩ := p3115
  subst e3116
  subst e3117
  show WL _ _ _ _ 734 [(4, vI i), (3, .ref o), (2, .ref m), (1, .ref x), (0, .ref 0)] [vI z3120] _ H3114
  refine wl_of hX hb cL_734 (rw_pop (pc' := 735) rfl rfl ?_)
  refine wl_of hX hb cL_735 (rw_aload_n (pc' := 736) (v := .ref m) rfl rfl rfl ?_)
  refine wl_of hX hb cL_736 (rw_aload_n (pc' := 737) (v := .ref 0) rfl rfl rfl ?_)
  refine wl_of hX hb cL_737 (rw_iload (pc' := 739) (z := i) rfl rfl ?_)
  refine wl_of hX hb cL_739 (rw_iconst (pc' := 740) rfl ?_)
  refine wl_of hX hb cL_740 (rw_iadd (pc' := 741) rfl ?_)
  have k3126 : H3114 0 ((i + 1).toNat) = H 0 ((i + 1).toNat) := (f3119 0 ((i + 1).toNat) _ g0 (wmem_s rfl))
  refine wl_of hX hb cL_741 (xa_I (so := 0) (pc' := 742) (a := 0) w3118 g0 (wsh_s _) (by omega) (wty_s _ _) (by omega) (by omega) rfl (fun b3124 b3125 => ?_))
  refine wl_of hX hb cL_742 (rw_aload_n (pc' := 743) (v := .ref 0) rfl rfl rfl ?_)
  refine wl_of hX hb cL_743 (rw_iload (pc' := 745) (z := i) rfl rfl ?_)
  refine wl_of hX hb cL_745 (rw_iconst (pc' := 746) rfl ?_)
  refine wl_of hX hb cL_746 (rw_iadd (pc' := 747) rfl ?_)
  have k3129 : H3114 0 ((i + 2).toNat) = H 0 ((i + 2).toNat) := (f3119 0 ((i + 2).toNat) _ g0 (wmem_s rfl))
  refine wl_of hX hb cL_747 (xa_I (so := 0) (pc' := 748) (a := 0) w3118 g0 (wsh_s _) (by omega) (wty_s _ _) (by omega) (by omega) rfl (fun b3127 b3128 => ?_))
  have k3130 : wKI H3114 m = wKI H m := (wKI_fr hW gm f3119 rfl)
  have k3131 : H3114 x 9 = H x 9 := (f3119 x 9 _ gx rfl)
  have k3132 : H3114 m 6 = H m 6 := (f3119 m 6 _ gm rfl)
  have k3133 : H3114 x 11 = H x 11 := (f3119 x 11 _ gx rfl)
  have k3134 : H3114 m 13 = H m 13 := (f3119 m 13 _ gm rfl)
  have k3135 : H3114 x 8 = H x 8 := (f3119 x 8 _ gx rfl)
  have k3136 : H3114 m 3 = H m 3 := (f3119 m 3 _ gm rfl)
  rw [show H3114 0 ((i + 2).toNat) = H 0 ((i + 2).toNat) by omega]
  rw [show H3114 0 ((i + 1).toNat) = H 0 ((i + 1).toNat) by omega]
  have h3137 : RB T H3114 m e8 d8 := (RB_fr hW gm f3119 rfl hrb8)
  have h3138 : KNN T H3114 m e8 d8 := (KNN_fr hW gm f3119 rfl hknn8)
  refine wl_of hX hb cL_748 (xc_V (pc' := 751) (r := m) (as := [vI (H 0 ((i + 1).toNat)), vI (H 0 ((i + 2).toNat))]) (st := []) (lm_11_100) rfl rfl (Nat.le_of_ble_eq_true rfl) w3118 gm sh_42 (by decide) rfl (by decide) (u_249 (e := e8) (d := d8) w3118 gm ⟨by omega, by omega⟩ ⟨by omega, by omega⟩ (by omega) (by assumption) (by assumption) (by assumption) (by assumption) h3137 h3138) (fun R3139 T3140 H3141 p3142 => ?_))
  obtain ⟨e3143, w3145, f3146, z3147, e3144, b3148, p3149⟩ := p3142
  subst e3143
  subst e3144
  obtain ⟨a3150, a3151⟩ := p3149
  show WL _ _ _ _ 751 [(4, vI i), (3, .ref o), (2, .ref m), (1, .ref x), (0, .ref 0)] [vI z3147] _ H3141
  refine wl_of hX hb cL_751 (rw_pop (pc' := 752) rfl rfl ?_)
  refine wl_of hX hb cL_752 (rw_goto (p1 := 1653) (by decide) ?_)
  have k3152 : H3141 x 9 = H3114 x 9 := (f3146 x 9 _ gx rfl)
  have k3153 : H3141 m 6 = H3114 m 6 := (f3146 m 6 _ gm rfl)
  have k3154 : H3141 x 11 = H3114 x 11 := (f3146 x 11 _ gx rfl)
  have k3155 : H3141 m 13 = H3114 m 13 := (f3146 m 13 _ gm rfl)
  have k3156 : H3141 x 8 = H3114 x 8 := (f3146 x 8 _ gx rfl)
  have k3157 : H3141 m 3 = H3114 m 3 := (f3146 m 3 _ gm rfl)
  have k3158 : H3141 x 0 = H x 0 := ((f3146 x 0 _ gx rfl).trans (f3119 x 0 _ gx rfl))
  have q3159 : H3141 x 0 = (tc : Int) := k3158.trans e0
  have k3160 : H3141 m 5 = H m 5 := ((f3146 m 5 _ gm rfl).trans (f3119 m 5 _ gm rfl))
  have q3161 : H3141 m 5 = (tm : Int) := k3160.trans em
  have k3162 : H3141 x 6 = H x 6 := ((f3146 x 6 _ gx rfl).trans (f3119 x 6 _ gx rfl))
  have q3163 : H3141 x 6 = (cu : Int) := k3162.trans ecu
  have k3164 : H3141 x 7 = H x 7 := ((f3146 x 7 _ gx rfl).trans (f3119 x 7 _ gx rfl))
  have q3165 : H3141 x 7 = (dr : Int) := k3164.trans edr
  have h3166 : CEN T H3141 ce8 e8 d8 := (CEN_fr w3118 gce8 f3146 rfl p3122)
  have h3167 : TP T H3141 tc B := (TP_fr w3118 gtc f3146 rfl (TP_fr hW gtc f3119 rfl htc))
  have h3168 : TM T H3141 tm B := (TM_fr w3118 gtm f3146 rfl (TM_fr hW gtm f3119 rfl htm))
  have h3169 : DD T H3141 cu  := (DD_fr w3118 gcu f3146 rfl (DD_fr hW gcu f3119 rfl hcu))
  have h3170 : DD T H3141 dr  := (DD_fr w3118 gdr f3146 rfl (DD_fr hW gdr f3119 rfl hdr))
  have h3171 : DE T H3141 cu  := (DE_fr w3118 gcu f3146 rfl (DE_fr hW gcu f3119 rfl hdec))
  have h3172 : DE T H3141 dr  := (DE_fr w3118 gdr f3146 rfl (DE_fr hW gdr f3119 rfl hded))
  have h3173 : SP T H3141 x C8 := (SP_fr w3118 gx f3146 rfl (SP_fr hW gx f3119 rfl hsp))
  have h3174 : CU T H3141 cu e8 d8 n8 := (CU_fr w3118 gcu f3146 rfl (CU_fr hW gcu f3119 rfl hcu8))
  have h3175 : CY T H3141 cu (d8 0 3) g8 (H cu 17) := (CY_fr w3118 gcu f3146 rfl (CY_fr hW gcu f3119 rfl h3107))
  have k3176 : H3141 x 3 = H x 3 := ((f3146 x 3 _ gx rfl).trans (f3119 x 3 _ gx rfl))
  have q3177 : H3141 x 3 = (ce8 : Int) := k3176.trans ece8
  have h3178 : HDR T H3141 ce8  := (HDR_fr w3118 gce8 f3146 rfl (HDR_fr hW gce8 f3119 rfl hhdr8))
  have h3179 : RY T H3141 m (d8 0 3) g8 (H m 32) := (RY_fr w3118 gm f3146 rfl (RY_fr hW gm f3119 rfl h3108))
  have h3180 : RB T H3141 m e8 d8 := (RB_fr w3118 gm f3146 rfl h3137)
  exact WL.loc hX (by simp) (next T H3141 ⟨⟨w3145, g0, gx, gm, go, by omega, by omega⟩, ⟨_, tc, tm, cu, dr, _, _, _, _, _, ce8, q3159, gtc, h3167, q3161, gtm, h3168, q3163, gcu, q3165, gdr, h3169, h3170, h3171, h3172, h3173, hC1, hC2, h3174, h3180, (h3175).1, (h3179).1, hE, hZ, (by omega), (by assumption), (by omega), (by first | assumption | exact SG_0), q3177, gce8, h3166, h3178, a3151, gm⟩, by omega, by omega⟩ (by omega) (by omega))
set_option maxHeartbeats 4000000 in
theorem wl_c19 {kt : Nat → Option mc_E} {CB SB : Nat} {X : mc_S → Prop} {T : wq_T} {H : wq_H} {Len x m o : Nat} {i : Int} (hX : wlX kt CB SB X) (hb : T.2.1 ≤ CB ∧ T.2.2.1 ≤ SB) (hI : wlJ Len x m o T H) (hL : Len ≤ 3072) (hi : 0 ≤ i ∧ i + 6 ≤ Len) (hb2 : T.2.1 + 20 ≤ CB ∧ T.2.2.1 + 500 ≤ SB)  (next : ∀ T' H', wlJ Len x m o T' H' → T'.2.1 ≤ T.2.1 + 20 → T'.2.2.1 ≤ T.2.2.1 + 500 → WL kt CB SB X 1653 (wlL i x m o) [] T' H') : WL kt CB SB X 755 (wlL i x m o) [] T H := by
  obtain ⟨⟨hW, g0, gx, gm, go, hK, hr⟩, hXI, hY1, hY2⟩ := hI
  refine wl_of hX hb cL_755 (rw_aload_n (pc' := 756) (v := .ref x) rfl rfl rfl ?_)
  refine wl_of hX hb cL_756 (rw_aload_n (pc' := 757) (v := .ref 0) rfl rfl rfl ?_)
  refine wl_of hX hb cL_757 (rw_iload (pc' := 759) (z := i) rfl rfl ?_)
  refine wl_of hX hb cL_759 (rw_iconst (pc' := 760) rfl ?_)
  refine wl_of hX hb cL_760 (rw_iadd (pc' := 761) rfl ?_)
  refine wl_of hX hb cL_761 (xa_I (so := 0) (pc' := 762) (a := 0) hW g0 (wsh_s _) (by omega) (wty_s _ _) (by omega) (by omega) rfl (fun b3181 b3182 => ?_))
  refine wl_of hX hb cL_762 (rw_aload_n (pc' := 763) (v := .ref 0) rfl rfl rfl ?_)
  refine wl_of hX hb cL_763 (rw_iload (pc' := 765) (z := i) rfl rfl ?_)
  refine wl_of hX hb cL_765 (rw_iconst (pc' := 766) rfl ?_)
  refine wl_of hX hb cL_766 (rw_iadd (pc' := 767) rfl ?_)
  refine wl_of hX hb cL_767 (xa_I (so := 0) (pc' := 768) (a := 0) hW g0 (wsh_s _) (by omega) (wty_s _ _) (by omega) (by omega) rfl (fun b3183 b3184 => ?_))
  obtain ⟨B, tc, tm, cu, dr, C8, e8, d8, n8, g8, ce8, e0, gtc, htc, em, gtm, htm, ecu, gcu, edr, gdr, hcu, hdr, hdec, hded, hsp, hC1, hC2, hcu8, hrb8, hcg8, hmn8, hE, hZ, hn8, hXA, hV8, hSG, ece8, gce8, hcen8, hhdr8, hknn8, -⟩ := hXI
  have hN3 := RB_n3 hrb8
  have hE13 : ∀ h : Nat, h < 24 → 0 ≤ e8 13 h ∧ e8 13 h ≤ 100 := fun k hk => by
    obtain ⟨s, h1, h2, h3⟩ := hcu8.1.2.2.1
    exact ⟨(h3 k hk).1, (h3 k hk).2.1⟩
  have hXW := hXA.1
  have hXN := hXA.2
  have hE0 : e8 0 3 = d8 0 3 ∧ e8 0 0 = d8 0 0 := by
    have h := hE 0 (by decide)
    exact ⟨congrFun h 3, congrFun h 0⟩
  have u3185 := CU_k hcu8
  have h3186 : CY T H cu (d8 0 3) g8 (H cu 17) := ⟨hcg8, rfl⟩
  have h3187 : RY T H m (d8 0 3) g8 (H m 32) := ⟨hmn8, rfl⟩
  obtain ⟨t9, ht9⟩ : ∃ t : Int, t = H x 9 := ⟨_, rfl⟩
  obtain ⟨y9, hy9⟩ : ∃ y : Int, y = H 0 ((i + 2).toNat) := ⟨_, rfl⟩
  obtain ⟨r3188, q3189, g3190⟩ := hW.ref gx (t' := 6) (n := 13) (j := 2) (p := 0) (q := 0) rfl (by decide) rfl
  refine wl_of hX hb cL_768 (xc_V (pc' := 771) (r := x) (as := [vI (H 0 ((i + 1).toNat)), vI (H 0 ((i + 2).toNat))]) (st := []) (lm_11_101) rfl rfl (Nat.le_of_ble_eq_true rfl) hW gx sh_1 (by decide) rfl (by decide) (u_99 (e := e8) (d := d8) (n := n8) hW gx ⟨by omega, by omega⟩ ⟨by omega, by omega⟩ ecu gcu q3189 g3190 ece8 gce8 (by assumption) (by assumption) (by omega) (by omega) (by omega) (by omega) hcu8 hcen8 hhdr8) (fun R3191 T3192 H3193 p3194 => ?_))
  obtain ⟨e3195, w3197, f3198, z3199, e3196, b3200, p3201⟩ := p3194
  subst e3195
  subst e3196
  show WL _ _ _ _ 771 [(4, vI i), (3, .ref o), (2, .ref m), (1, .ref x), (0, .ref 0)] [vI z3199] _ H3193
  refine wl_of hX hb cL_771 (rw_pop (pc' := 772) rfl rfl ?_)
  refine wl_of hX hb cL_772 (rw_aload_n (pc' := 773) (v := .ref m) rfl rfl rfl ?_)
  refine wl_of hX hb cL_773 (rw_aload_n (pc' := 774) (v := .ref 0) rfl rfl rfl ?_)
  refine wl_of hX hb cL_774 (rw_iload (pc' := 776) (z := i) rfl rfl ?_)
  refine wl_of hX hb cL_776 (rw_iconst (pc' := 777) rfl ?_)
  refine wl_of hX hb cL_777 (rw_iadd (pc' := 778) rfl ?_)
  have k3205 : H3193 0 ((i + 1).toNat) = H 0 ((i + 1).toNat) := (f3198 0 ((i + 1).toNat) _ g0 (wmem_s rfl))
  refine wl_of hX hb cL_778 (xa_I (so := 0) (pc' := 779) (a := 0) w3197 g0 (wsh_s _) (by omega) (wty_s _ _) (by omega) (by omega) rfl (fun b3203 b3204 => ?_))
  refine wl_of hX hb cL_779 (rw_aload_n (pc' := 780) (v := .ref 0) rfl rfl rfl ?_)
  refine wl_of hX hb cL_780 (rw_iload (pc' := 782) (z := i) rfl rfl ?_)
  refine wl_of hX hb cL_782 (rw_iconst (pc' := 783) rfl ?_)
  refine wl_of hX hb cL_783 (rw_iadd (pc' := 784) rfl ?_)
  have k3208 : H3193 0 ((i + 2).toNat) = H 0 ((i + 2).toNat) := (f3198 0 ((i + 2).toNat) _ g0 (wmem_s rfl))
  refine wl_of hX hb cL_784 (xa_I (so := 0) (pc' := 785) (a := 0) w3197 g0 (wsh_s _) (by omega) (wty_s _ _) (by omega) (by omega) rfl (fun b3206 b3207 => ?_))
  have k3209 : wKI H3193 m = wKI H m := (wKI_fr hW gm f3198 rfl)
  have k3210 : H3193 x 9 = H x 9 := (f3198 x 9 _ gx rfl)
  have k3211 : H3193 m 6 = H m 6 := (f3198 m 6 _ gm rfl)
  have k3212 : H3193 x 11 = H x 11 := (f3198 x 11 _ gx rfl)
  have k3213 : H3193 m 13 = H m 13 := (f3198 m 13 _ gm rfl)
  have k3214 : H3193 x 8 = H x 8 := (f3198 x 8 _ gx rfl)
  have k3215 : H3193 m 3 = H m 3 := (f3198 m 3 _ gm rfl)
  rw [show H3193 0 ((i + 2).toNat) = H 0 ((i + 2).toNat) by omega]
  rw [show H3193 0 ((i + 1).toNat) = H 0 ((i + 1).toNat) by omega]
  have h3216 : RB T H3193 m e8 d8 := (RB_fr hW gm f3198 rfl hrb8)
  have h3217 : KNN T H3193 m e8 d8 := (KNN_fr hW gm f3198 rfl hknn8)
  refine wl_of hX hb cL_785 (xc_V (pc' := 788) (r := m) (as := [vI (H 0 ((i + 1).toNat)), vI (H 0 ((i + 2).toNat))]) (st := []) (lm_11_104) rfl rfl (Nat.le_of_ble_eq_true rfl) w3197 gm sh_42 (by decide) rfl (by decide) (u_250 (e := e8) (d := d8) w3197 gm ⟨by omega, by omega⟩ ⟨by omega, by omega⟩ (by omega) (by assumption) (by assumption) (by assumption) (by assumption) h3216 h3217) (fun R3218 T3219 H3220 p3221 => ?_))
  obtain ⟨e3222, w3224, f3225, z3226, e3223, b3227, p3228⟩ := p3221
  subst e3222
  subst e3223
  obtain ⟨a3229, a3230⟩ := p3228
  show WL _ _ _ _ 788 [(4, vI i), (3, .ref o), (2, .ref m), (1, .ref x), (0, .ref 0)] [vI z3226] _ H3220
  refine wl_of hX hb cL_788 (rw_pop (pc' := 789) rfl rfl ?_)
  refine wl_of hX hb cL_789 (rw_goto (p1 := 1653) (by decide) ?_)
  have k3231 : H3220 x 9 = H3193 x 9 := (f3225 x 9 _ gx rfl)
  have k3232 : H3220 m 6 = H3193 m 6 := (f3225 m 6 _ gm rfl)
  have k3233 : H3220 x 11 = H3193 x 11 := (f3225 x 11 _ gx rfl)
  have k3234 : H3220 m 13 = H3193 m 13 := (f3225 m 13 _ gm rfl)
  have k3235 : H3220 x 8 = H3193 x 8 := (f3225 x 8 _ gx rfl)
  have k3236 : H3220 m 3 = H3193 m 3 := (f3225 m 3 _ gm rfl)
  have k3237 : H3220 x 0 = H x 0 := ((f3225 x 0 _ gx rfl).trans (f3198 x 0 _ gx rfl))
  have q3238 : H3220 x 0 = (tc : Int) := k3237.trans e0
  have k3239 : H3220 m 5 = H m 5 := ((f3225 m 5 _ gm rfl).trans (f3198 m 5 _ gm rfl))
  have q3240 : H3220 m 5 = (tm : Int) := k3239.trans em
  have k3241 : H3220 x 6 = H x 6 := ((f3225 x 6 _ gx rfl).trans (f3198 x 6 _ gx rfl))
  have q3242 : H3220 x 6 = (cu : Int) := k3241.trans ecu
  have k3243 : H3220 x 7 = H x 7 := ((f3225 x 7 _ gx rfl).trans (f3198 x 7 _ gx rfl))
  have q3244 : H3220 x 7 = (dr : Int) := k3243.trans edr
  have h3245 : CEN T H3220 ce8 e8 d8 := (CEN_fr w3197 gce8 f3225 rfl p3201)
  have h3246 : TP T H3220 tc B := (TP_fr w3197 gtc f3225 rfl (TP_fr hW gtc f3198 rfl htc))
  have h3247 : TM T H3220 tm B := (TM_fr w3197 gtm f3225 rfl (TM_fr hW gtm f3198 rfl htm))
  have h3248 : DD T H3220 cu  := (DD_fr w3197 gcu f3225 rfl (DD_fr hW gcu f3198 rfl hcu))
  have h3249 : DD T H3220 dr  := (DD_fr w3197 gdr f3225 rfl (DD_fr hW gdr f3198 rfl hdr))
  have h3250 : DE T H3220 cu  := (DE_fr w3197 gcu f3225 rfl (DE_fr hW gcu f3198 rfl hdec))
  have h3251 : DE T H3220 dr  := (DE_fr w3197 gdr f3225 rfl (DE_fr hW gdr f3198 rfl hded))
  have h3252 : SP T H3220 x C8 := (SP_fr w3197 gx f3225 rfl (SP_fr hW gx f3198 rfl hsp))
  have h3253 : CU T H3220 cu e8 d8 n8 := (CU_fr w3197 gcu f3225 rfl (CU_fr hW gcu f3198 rfl hcu8))
  have h3254 : CY T H3220 cu (d8 0 3) g8 (H cu 17) := (CY_fr w3197 gcu f3225 rfl (CY_fr hW gcu f3198 rfl h3186))
  have k3255 : H3220 x 3 = H x 3 := ((f3225 x 3 _ gx rfl).trans (f3198 x 3 _ gx rfl))
  have q3256 : H3220 x 3 = (ce8 : Int) := k3255.trans ece8
  have h3257 : HDR T H3220 ce8  := (HDR_fr w3197 gce8 f3225 rfl (HDR_fr hW gce8 f3198 rfl hhdr8))
  have h3258 : RY T H3220 m (d8 0 3) g8 (H m 32) := (RY_fr w3197 gm f3225 rfl (RY_fr hW gm f3198 rfl h3187))
  have h3259 : RB T H3220 m e8 d8 := (RB_fr w3197 gm f3225 rfl h3216)
  exact WL.loc hX (by simp) (next T H3220 ⟨⟨w3224, g0, gx, gm, go, by omega, by omega⟩, ⟨_, tc, tm, cu, dr, _, _, _, _, _, ce8, q3238, gtc, h3246, q3240, gtm, h3247, q3242, gcu, q3244, gdr, h3248, h3249, h3250, h3251, h3252, hC1, hC2, h3253, h3259, (h3254).1, (h3258).1, hE, hZ, (by omega), (by assumption), (by omega), (by first | assumption | exact SG_0), q3256, gce8, h3245, h3257, a3230, gm⟩, by omega, by omega⟩ (by omega) (by omega))
set_option maxHeartbeats 4000000 in
theorem wl_c20 {kt : Nat → Option mc_E} {CB SB : Nat} {X : mc_S → Prop} {T : wq_T} {H : wq_H} {Len x m o : Nat} {i : Int} (hX : wlX kt CB SB X) (hb : T.2.1 ≤ CB ∧ T.2.2.1 ≤ SB) (hI : wlJ Len x m o T H) (hL : Len ≤ 3072) (hi : 0 ≤ i ∧ i + 6 ≤ Len) (hb2 : T.2.1 + 20 ≤ CB ∧ T.2.2.1 + 500 ≤ SB)  (next : ∀ T' H', wlJ Len x m o T' H' → T'.2.1 ≤ T.2.1 + 20 → T'.2.2.1 ≤ T.2.2.1 + 500 → WL kt CB SB X 1653 (wlL i x m o) [] T' H') : WL kt CB SB X 792 (wlL i x m o) [] T H := by
  obtain ⟨⟨hW, g0, gx, gm, go, hK, hr⟩, hXI, hY1, hY2⟩ := hI
  refine wl_of hX hb cL_792 (rw_aload_n (pc' := 793) (v := .ref x) rfl rfl rfl ?_)
  refine wl_of hX hb cL_793 (rw_aload_n (pc' := 794) (v := .ref 0) rfl rfl rfl ?_)
  refine wl_of hX hb cL_794 (rw_iload (pc' := 796) (z := i) rfl rfl ?_)
  refine wl_of hX hb cL_796 (rw_iconst (pc' := 797) rfl ?_)
  refine wl_of hX hb cL_797 (rw_iadd (pc' := 798) rfl ?_)
  refine wl_of hX hb cL_798 (xa_I (so := 0) (pc' := 799) (a := 0) hW g0 (wsh_s _) (by omega) (wty_s _ _) (by omega) (by omega) rfl (fun b3260 b3261 => ?_))
  refine wl_of hX hb cL_799 (rw_aload_n (pc' := 800) (v := .ref 0) rfl rfl rfl ?_)
  refine wl_of hX hb cL_800 (rw_iload (pc' := 802) (z := i) rfl rfl ?_)
  refine wl_of hX hb cL_802 (rw_iconst (pc' := 803) rfl ?_)
  refine wl_of hX hb cL_803 (rw_iadd (pc' := 804) rfl ?_)
  refine wl_of hX hb cL_804 (xa_I (so := 0) (pc' := 805) (a := 0) hW g0 (wsh_s _) (by omega) (wty_s _ _) (by omega) (by omega) rfl (fun b3262 b3263 => ?_))
  obtain ⟨B, tc, tm, cu, dr, C8, e8, d8, n8, g8, ce8, e0, gtc, htc, em, gtm, htm, ecu, gcu, edr, gdr, hcu, hdr, hdec, hded, hsp, hC1, hC2, hcu8, hrb8, hcg8, hmn8, hE, hZ, hn8, hXA, hV8, hSG, ece8, gce8, hcen8, hhdr8, hknn8, -⟩ := hXI
  have hN3 := RB_n3 hrb8
  have hE13 : ∀ h : Nat, h < 24 → 0 ≤ e8 13 h ∧ e8 13 h ≤ 100 := fun k hk => by
    obtain ⟨s, h1, h2, h3⟩ := hcu8.1.2.2.1
    exact ⟨(h3 k hk).1, (h3 k hk).2.1⟩
  have hXW := hXA.1
  have hXN := hXA.2
  have hE0 : e8 0 3 = d8 0 3 ∧ e8 0 0 = d8 0 0 := by
    have h := hE 0 (by decide)
    exact ⟨congrFun h 3, congrFun h 0⟩
  have u3264 := CU_k hcu8
  have h3265 : CY T H cu (d8 0 3) g8 (H cu 17) := ⟨hcg8, rfl⟩
  have h3266 : RY T H m (d8 0 3) g8 (H m 32) := ⟨hmn8, rfl⟩
  obtain ⟨t9, ht9⟩ : ∃ t : Int, t = H x 9 := ⟨_, rfl⟩
  obtain ⟨y9, hy9⟩ : ∃ y : Int, y = H 0 ((i + 2).toNat) := ⟨_, rfl⟩
  obtain ⟨r3267, q3268, g3269⟩ := hW.ref gx (t' := 6) (n := 13) (j := 2) (p := 0) (q := 0) rfl (by decide) rfl
  refine wl_of hX hb cL_805 (xc_V (pc' := 808) (r := x) (as := [vI (H 0 ((i + 1).toNat)), vI (H 0 ((i + 2).toNat))]) (st := []) (lm_11_105) rfl rfl (Nat.le_of_ble_eq_true rfl) hW gx sh_1 (by decide) rfl (by decide) (u_101 (e := e8) (d := d8) (n := n8) hW gx ⟨by omega, by omega⟩ ⟨by omega, by omega⟩ ecu gcu q3268 g3269 ece8 gce8 (by assumption) (by assumption) (by omega) (by omega) (by omega) (by omega) hcu8 hcen8 hhdr8) (fun R3270 T3271 H3272 p3273 => ?_))
  obtain ⟨e3274, w3276, f3277, z3278, e3275, b3279, p3280⟩ := p3273
  subst e3274
  subst e3275
  show WL _ _ _ _ 808 [(4, vI i), (3, .ref o), (2, .ref m), (1, .ref x), (0, .ref 0)] [vI z3278] _ H3272
  refine wl_of hX hb cL_808 (rw_pop (pc' := 809) rfl rfl ?_)
  refine wl_of hX hb cL_809 (rw_aload_n (pc' := 810) (v := .ref m) rfl rfl rfl ?_)
  refine wl_of hX hb cL_810 (rw_aload_n (pc' := 811) (v := .ref 0) rfl rfl rfl ?_)
  refine wl_of hX hb cL_811 (rw_iload (pc' := 813) (z := i) rfl rfl ?_)
  refine wl_of hX hb cL_813 (rw_iconst (pc' := 814) rfl ?_)
  refine wl_of hX hb cL_814 (rw_iadd (pc' := 815) rfl ?_)
  have k3284 : H3272 0 ((i + 1).toNat) = H 0 ((i + 1).toNat) := (f3277 0 ((i + 1).toNat) _ g0 (wmem_s rfl))
  refine wl_of hX hb cL_815 (xa_I (so := 0) (pc' := 816) (a := 0) w3276 g0 (wsh_s _) (by omega) (wty_s _ _) (by omega) (by omega) rfl (fun b3282 b3283 => ?_))
  refine wl_of hX hb cL_816 (rw_aload_n (pc' := 817) (v := .ref 0) rfl rfl rfl ?_)
  refine wl_of hX hb cL_817 (rw_iload (pc' := 819) (z := i) rfl rfl ?_)
  refine wl_of hX hb cL_819 (rw_iconst (pc' := 820) rfl ?_)
  refine wl_of hX hb cL_820 (rw_iadd (pc' := 821) rfl ?_)
  have k3287 : H3272 0 ((i + 2).toNat) = H 0 ((i + 2).toNat) := (f3277 0 ((i + 2).toNat) _ g0 (wmem_s rfl))
  refine wl_of hX hb cL_821 (xa_I (so := 0) (pc' := 822) (a := 0) w3276 g0 (wsh_s _) (by omega) (wty_s _ _) (by omega) (by omega) rfl (fun b3285 b3286 => ?_))
  have k3288 : wKI H3272 m = wKI H m := (wKI_fr hW gm f3277 rfl)
  have k3289 : H3272 x 9 = H x 9 := (f3277 x 9 _ gx rfl)
  have k3290 : H3272 m 6 = H m 6 := (f3277 m 6 _ gm rfl)
  have k3291 : H3272 x 11 = H x 11 := (f3277 x 11 _ gx rfl)
  have k3292 : H3272 m 13 = H m 13 := (f3277 m 13 _ gm rfl)
  have k3293 : H3272 x 8 = H x 8 := (f3277 x 8 _ gx rfl)
  have k3294 : H3272 m 3 = H m 3 := (f3277 m 3 _ gm rfl)
  rw [show H3272 0 ((i + 2).toNat) = H 0 ((i + 2).toNat) by omega]
  rw [show H3272 0 ((i + 1).toNat) = H 0 ((i + 1).toNat) by omega]
  have h3295 : RB T H3272 m e8 d8 := (RB_fr hW gm f3277 rfl hrb8)
  have h3296 : KNN T H3272 m e8 d8 := (KNN_fr hW gm f3277 rfl hknn8)
  refine wl_of hX hb cL_822 (xc_V (pc' := 825) (r := m) (as := [vI (H 0 ((i + 1).toNat)), vI (H 0 ((i + 2).toNat))]) (st := []) (lm_11_108) rfl rfl (Nat.le_of_ble_eq_true rfl) w3276 gm sh_42 (by decide) rfl (by decide) (u_252 (e := e8) (d := d8) w3276 gm ⟨by omega, by omega⟩ ⟨by omega, by omega⟩ (by omega) (by assumption) (by assumption) (by assumption) (by assumption) h3295 h3296) (fun R3297 T3298 H3299 p3300 => ?_))
  obtain ⟨e3301, w3303, f3304, z3305, e3302, b3306, p3307⟩ := p3300
  subst e3301
  subst e3302
  obtain ⟨a3308, a3309⟩ := p3307
  show WL _ _ _ _ 825 [(4, vI i), (3, .ref o), (2, .ref m), (1, .ref x), (0, .ref 0)] [vI z3305] _ H3299
  refine wl_of hX hb cL_825 (rw_pop (pc' := 826) rfl rfl ?_)
  refine wl_of hX hb cL_826 (rw_goto (p1 := 1653) (by decide) ?_)
  have k3310 : H3299 x 9 = H3272 x 9 := (f3304 x 9 _ gx rfl)
  have k3311 : H3299 m 6 = H3272 m 6 := (f3304 m 6 _ gm rfl)
  have k3312 : H3299 x 11 = H3272 x 11 := (f3304 x 11 _ gx rfl)
  have k3313 : H3299 m 13 = H3272 m 13 := (f3304 m 13 _ gm rfl)
  have k3314 : H3299 x 8 = H3272 x 8 := (f3304 x 8 _ gx rfl)
  have k3315 : H3299 m 3 = H3272 m 3 := (f3304 m 3 _ gm rfl)
  have k3316 : H3299 x 0 = H x 0 := ((f3304 x 0 _ gx rfl).trans (f3277 x 0 _ gx rfl))
  have q3317 : H3299 x 0 = (tc : Int) := k3316.trans e0
  have k3318 : H3299 m 5 = H m 5 := ((f3304 m 5 _ gm rfl).trans (f3277 m 5 _ gm rfl))
  have q3319 : H3299 m 5 = (tm : Int) := k3318.trans em
  have k3320 : H3299 x 6 = H x 6 := ((f3304 x 6 _ gx rfl).trans (f3277 x 6 _ gx rfl))
  have q3321 : H3299 x 6 = (cu : Int) := k3320.trans ecu
  have k3322 : H3299 x 7 = H x 7 := ((f3304 x 7 _ gx rfl).trans (f3277 x 7 _ gx rfl))
  have q3323 : H3299 x 7 = (dr : Int) := k3322.trans edr
  have h3324 : CEN T H3299 ce8 e8 d8 := (CEN_fr w3276 gce8 f3304 rfl p3280)
  have h3325 : TP T H3299 tc B := (TP_fr w3276 gtc f3304 rfl (TP_fr hW gtc f3277 rfl htc))
  have h3326 : TM T H3299 tm B := (TM_fr w3276 gtm f3304 rfl (TM_fr hW gtm f3277 rfl htm))
  have h3327 : DD T H3299 cu  := (DD_fr w3276 gcu f3304 rfl (DD_fr hW gcu f3277 rfl hcu))
  have h3328 : DD T H3299 dr  := (DD_fr w3276 gdr f3304 rfl (DD_fr hW gdr f3277 rfl hdr))
  have h3329 : DE T H3299 cu  := (DE_fr w3276 gcu f3304 rfl (DE_fr hW gcu f3277 rfl hdec))
  have h3330 : DE T H3299 dr  := (DE_fr w3276 gdr f3304 rfl (DE_fr hW gdr f3277 rfl hded))
  have h3331 : SP T H3299 x C8 := (SP_fr w3276 gx f3304 rfl (SP_fr hW gx f3277 rfl hsp))
  have h3332 : CU T H3299 cu e8 d8 n8 := (CU_fr w3276 gcu f3304 rfl (CU_fr hW gcu f3277 rfl hcu8))
  have h3333 : CY T H3299 cu (d8 0 3) g8 (H cu 17) := (CY_fr w3276 gcu f3304 rfl (CY_fr hW gcu f3277 rfl h3265))
  have k3334 : H3299 x 3 = H x 3 := ((f3304 x 3 _ gx rfl).trans (f3277 x 3 _ gx rfl))
  have q3335 : H3299 x 3 = (ce8 : Int) := k3334.trans ece8
  have h3336 : HDR T H3299 ce8  := (HDR_fr w3276 gce8 f3304 rfl (HDR_fr hW gce8 f3277 rfl hhdr8))
  have h3337 : RY T H3299 m (d8 0 3) g8 (H m 32) := (RY_fr w3276 gm f3304 rfl (RY_fr hW gm f3277 rfl h3266))
  have h3338 : RB T H3299 m e8 d8 := (RB_fr w3276 gm f3304 rfl h3295)
  exact WL.loc hX (by simp) (next T H3299 ⟨⟨w3303, g0, gx, gm, go, by omega, by omega⟩, ⟨_, tc, tm, cu, dr, _, _, _, _, _, ce8, q3317, gtc, h3325, q3319, gtm, h3326, q3321, gcu, q3323, gdr, h3327, h3328, h3329, h3330, h3331, hC1, hC2, h3332, h3338, (h3333).1, (h3337).1, hE, hZ, (by omega), (by assumption), (by omega), (by first | assumption | exact SG_0), q3335, gce8, h3324, h3336, a3309, gm⟩, by omega, by omega⟩ (by omega) (by omega))
set_option maxHeartbeats 4000000 in
theorem wl_c21 {kt : Nat → Option mc_E} {CB SB : Nat} {X : mc_S → Prop} {T : wq_T} {H : wq_H} {Len x m o : Nat} {i : Int} (hX : wlX kt CB SB X) (hb : T.2.1 ≤ CB ∧ T.2.2.1 ≤ SB) (hI : wlJ Len x m o T H) (hL : Len ≤ 3072) (hi : 0 ≤ i ∧ i + 6 ≤ Len) (hb2 : T.2.1 + 20 ≤ CB ∧ T.2.2.1 + 500 ≤ SB)  (next : ∀ T' H', wlJ Len x m o T' H' → T'.2.1 ≤ T.2.1 + 20 → T'.2.2.1 ≤ T.2.2.1 + 500 → WL kt CB SB X 1653 (wlL i x m o) [] T' H') : WL kt CB SB X 829 (wlL i x m o) [] T H := by
  obtain ⟨⟨hW, g0, gx, gm, go, hK, hr⟩, hXI, hY1, hY2⟩ := hI
  refine wl_of hX hb cL_829 (rw_aload_n (pc' := 830) (v := .ref x) rfl rfl rfl ?_)
  refine wl_of hX hb cL_830 (rw_aload_n (pc' := 831) (v := .ref 0) rfl rfl rfl ?_)
  refine wl_of hX hb cL_831 (rw_iload (pc' := 833) (z := i) rfl rfl ?_)
  refine wl_of hX hb cL_833 (rw_iconst (pc' := 834) rfl ?_)
  refine wl_of hX hb cL_834 (rw_iadd (pc' := 835) rfl ?_)
  refine wl_of hX hb cL_835 (xa_I (so := 0) (pc' := 836) (a := 0) hW g0 (wsh_s _) (by omega) (wty_s _ _) (by omega) (by omega) rfl (fun b3339 b3340 => ?_))
  refine wl_of hX hb cL_836 (rw_aload_n (pc' := 837) (v := .ref 0) rfl rfl rfl ?_)
  refine wl_of hX hb cL_837 (rw_iload (pc' := 839) (z := i) rfl rfl ?_)
  refine wl_of hX hb cL_839 (rw_iconst (pc' := 840) rfl ?_)
  refine wl_of hX hb cL_840 (rw_iadd (pc' := 841) rfl ?_)
  refine wl_of hX hb cL_841 (xa_I (so := 0) (pc' := 842) (a := 0) hW g0 (wsh_s _) (by omega) (wty_s _ _) (by omega) (by omega) rfl (fun b3341 b3342 => ?_))
  refine wl_of hX hb cL_842 (rw_if_eq (p1 := 849) (p2 := 845) (by decide) rfl ⟨by omega, by omega⟩ (fun c3343 => ?_) (fun c3343 => ?_))
  · refine wl_of hX hb cL_849 (rw_iconst (pc' := 850) rfl ?_)
    obtain ⟨B, tc, tm, cu, dr, C8, e8, d8, n8, g8, ce8, e0, gtc, htc, em, gtm, htm, ecu, gcu, edr, gdr, hcu, hdr, hdec, hded, hsp, hC1, hC2, hcu8, hrb8, hcg8, hmn8, hE, hZ, hn8, hXA, hV8, hSG, ece8, gce8, hcen8, hhdr8, hknn8, -⟩ := hXI
    have hN3 := RB_n3 hrb8
    have hE13 : ∀ h : Nat, h < 24 → 0 ≤ e8 13 h ∧ e8 13 h ≤ 100 := fun k hk => by
      obtain ⟨s, h1, h2, h3⟩ := hcu8.1.2.2.1
      exact ⟨(h3 k hk).1, (h3 k hk).2.1⟩
    have hXW := hXA.1
    have hXN := hXA.2
    have hE0 : e8 0 3 = d8 0 3 ∧ e8 0 0 = d8 0 0 := by
      have h := hE 0 (by decide)
      exact ⟨congrFun h 3, congrFun h 0⟩
    have u3344 := CU_k hcu8
    have h3345 : CY T H cu (d8 0 3) g8 (H cu 17) := ⟨hcg8, rfl⟩
    have h3346 : RY T H m (d8 0 3) g8 (H m 32) := ⟨hmn8, rfl⟩
    obtain ⟨t9, ht9⟩ : ∃ t : Int, t = H x 9 := ⟨_, rfl⟩
    obtain ⟨y9, hy9⟩ : ∃ y : Int, y = 0 := ⟨_, rfl⟩
    obtain ⟨r3347, q3348, g3349⟩ := hW.ref gx (t' := 6) (n := 13) (j := 2) (p := 0) (q := 0) rfl (by decide) rfl
    refine wl_of hX hb cL_850 (xc_V (pc' := 853) (r := x) (as := [vI (H 0 ((i + 1).toNat)), vI 0]) (st := []) (lm_11_109) rfl rfl (Nat.le_of_ble_eq_true rfl) hW gx sh_1 (by decide) rfl (by decide) (u_104 (e := e8) (d := d8) (n := n8) hW gx ⟨by omega, by omega⟩ ⟨by decide, by decide⟩ ecu gcu q3348 g3349 ece8 gce8 (by assumption) (by assumption) (by omega) (by omega) (by omega) (by omega) hcu8 hcen8 hhdr8) (fun R3350 T3351 H3352 p3353 => ?_))
    obtain ⟨e3354, w3356, f3357, z3358, e3355, b3359, p3360⟩ := p3353
    subst e3354
    subst e3355
    show WL _ _ _ _ 853 [(4, vI i), (3, .ref o), (2, .ref m), (1, .ref x), (0, .ref 0)] [vI z3358] _ H3352
    refine wl_of hX hb cL_853 (rw_pop (pc' := 854) rfl rfl ?_)
    refine wl_of hX hb cL_854 (rw_aload_n (pc' := 855) (v := .ref m) rfl rfl rfl ?_)
    refine wl_of hX hb cL_855 (rw_aload_n (pc' := 856) (v := .ref 0) rfl rfl rfl ?_)
    refine wl_of hX hb cL_856 (rw_iload (pc' := 858) (z := i) rfl rfl ?_)
    refine wl_of hX hb cL_858 (rw_iconst (pc' := 859) rfl ?_)
    refine wl_of hX hb cL_859 (rw_iadd (pc' := 860) rfl ?_)
    have k3364 : H3352 0 ((i + 1).toNat) = H 0 ((i + 1).toNat) := (f3357 0 ((i + 1).toNat) _ g0 (wmem_s rfl))
    refine wl_of hX hb cL_860 (xa_I (so := 0) (pc' := 861) (a := 0) w3356 g0 (wsh_s _) (by omega) (wty_s _ _) (by omega) (by omega) rfl (fun b3362 b3363 => ?_))
    refine wl_of hX hb cL_861 (rw_aload_n (pc' := 862) (v := .ref 0) rfl rfl rfl ?_)
    refine wl_of hX hb cL_862 (rw_iload (pc' := 864) (z := i) rfl rfl ?_)
    refine wl_of hX hb cL_864 (rw_iconst (pc' := 865) rfl ?_)
    refine wl_of hX hb cL_865 (rw_iadd (pc' := 866) rfl ?_)
    have k3367 : H3352 0 ((i + 2).toNat) = H 0 ((i + 2).toNat) := (f3357 0 ((i + 2).toNat) _ g0 (wmem_s rfl))
    refine wl_of hX hb cL_866 (xa_I (so := 0) (pc' := 867) (a := 0) w3356 g0 (wsh_s _) (by omega) (wty_s _ _) (by omega) (by omega) rfl (fun b3365 b3366 => ?_))
    refine wl_of hX hb cL_867 (rw_if_eq (p1 := 874) (p2 := 870) (by decide) rfl ⟨by omega, by omega⟩ (fun c3368 => ?_) (fun c3368 => ?_))
    · refine wl_of hX hb cL_874 (rw_iconst (pc' := 875) rfl ?_)
      have k3369 : wKI H3352 m = wKI H m := (wKI_fr hW gm f3357 rfl)
      have k3370 : H3352 x 9 = H x 9 := (f3357 x 9 _ gx rfl)
      have k3371 : H3352 m 6 = H m 6 := (f3357 m 6 _ gm rfl)
      have k3372 : H3352 x 11 = H x 11 := (f3357 x 11 _ gx rfl)
      have k3373 : H3352 m 13 = H m 13 := (f3357 m 13 _ gm rfl)
      have k3374 : H3352 x 8 = H x 8 := (f3357 x 8 _ gx rfl)
      have k3375 : H3352 m 3 = H m 3 := (f3357 m 3 _ gm rfl)
      rw [show H3352 0 ((i + 1).toNat) = H 0 ((i + 1).toNat) by omega]
      have h3376 : RB T H3352 m e8 d8 := (RB_fr hW gm f3357 rfl hrb8)
      have h3377 : KNN T H3352 m e8 d8 := (KNN_fr hW gm f3357 rfl hknn8)
      refine wl_of hX hb cL_875 (xc_V (pc' := 878) (r := m) (as := [vI (H 0 ((i + 1).toNat)), vI 0]) (st := []) (lm_11_113) rfl rfl (Nat.le_of_ble_eq_true rfl) w3356 gm sh_42 (by decide) rfl (by decide) (u_254 (e := e8) (d := d8) w3356 gm ⟨by omega, by omega⟩ ⟨by decide, by decide⟩ (by omega) (by assumption) (by assumption) (by assumption) (by assumption) h3376 h3377) (fun R3378 T3379 H3380 p3381 => ?_))
      obtain ⟨e3382, w3384, f3385, z3386, e3383, b3387, p3388⟩ := p3381
      subst e3382
      subst e3383
      obtain ⟨a3389, a3390⟩ := p3388
      show WL _ _ _ _ 878 [(4, vI i), (3, .ref o), (2, .ref m), (1, .ref x), (0, .ref 0)] [vI z3386] _ H3380
      refine wl_of hX hb cL_878 (rw_pop (pc' := 879) rfl rfl ?_)
      refine wl_of hX hb cL_879 (rw_goto (p1 := 1653) (by decide) ?_)
      have k3391 : H3380 x 9 = H3352 x 9 := (f3385 x 9 _ gx rfl)
      have k3392 : H3380 m 6 = H3352 m 6 := (f3385 m 6 _ gm rfl)
      have k3393 : H3380 x 11 = H3352 x 11 := (f3385 x 11 _ gx rfl)
      have k3394 : H3380 m 13 = H3352 m 13 := (f3385 m 13 _ gm rfl)
      have k3395 : H3380 x 8 = H3352 x 8 := (f3385 x 8 _ gx rfl)
      have k3396 : H3380 m 3 = H3352 m 3 := (f3385 m 3 _ gm rfl)
      have k3397 : H3380 x 0 = H x 0 := ((f3385 x 0 _ gx rfl).trans (f3357 x 0 _ gx rfl))
      have q3398 : H3380 x 0 = (tc : Int) := k3397.trans e0
      have k3399 : H3380 m 5 = H m 5 := ((f3385 m 5 _ gm rfl).trans (f3357 m 5 _ gm rfl))
      have q3400 : H3380 m 5 = (tm : Int) := k3399.trans em
      have k3401 : H3380 x 6 = H x 6 := ((f3385 x 6 _ gx rfl).trans (f3357 x 6 _ gx rfl))
      have q3402 : H3380 x 6 = (cu : Int) := k3401.trans ecu
      have k3403 : H3380 x 7 = H x 7 := ((f3385 x 7 _ gx rfl).trans (f3357 x 7 _ gx rfl))
      have q3404 : H3380 x 7 = (dr : Int) := k3403.trans edr
      have h3405 : CEN T H3380 ce8 e8 d8 := (CEN_fr w3356 gce8 f3385 rfl p3360)
      have h3406 : TP T H3380 tc B := (TP_fr w3356 gtc f3385 rfl (TP_fr hW gtc f3357 rfl htc))
      have h3407 : TM T H3380 tm B := (TM_fr w3356 gtm f3385 rfl (TM_fr hW gtm f3357 rfl htm))
      have h3408 : DD T H3380 cu  := (DD_fr w3356 gcu f3385 rfl (DD_fr hW gcu f3357 rfl hcu))
      have h3409 : DD T H3380 dr  := (DD_fr w3356 gdr f3385 rfl (DD_fr hW gdr f3357 rfl hdr))
      have h3410 : DE T H3380 cu  := (DE_fr w3356 gcu f3385 rfl (DE_fr hW gcu f3357 rfl hdec))
      have h3411 : DE T H3380 dr  := (DE_fr w3356 gdr f3385 rfl (DE_fr hW gdr f3357 rfl hded))
      have h3412 : SP T H3380 x C8 := (SP_fr w3356 gx f3385 rfl (SP_fr hW gx f3357 rfl hsp))
      have h3413 : CU T H3380 cu e8 d8 n8 := (CU_fr w3356 gcu f3385 rfl (CU_fr hW gcu f3357 rfl hcu8))
      have h3414 : CY T H3380 cu (d8 0 3) g8 (H cu 17) := (CY_fr w3356 gcu f3385 rfl (CY_fr hW gcu f3357 rfl h3345))
      have k3415 : H3380 x 3 = H x 3 := ((f3385 x 3 _ gx rfl).trans (f3357 x 3 _ gx rfl))
      have q3416 : H3380 x 3 = (ce8 : Int) := k3415.trans ece8
      have h3417 : HDR T H3380 ce8  := (HDR_fr w3356 gce8 f3385 rfl (HDR_fr hW gce8 f3357 rfl hhdr8))
      have h3418 : RY T H3380 m (d8 0 3) g8 (H m 32) := (RY_fr w3356 gm f3385 rfl (RY_fr hW gm f3357 rfl h3346))
      have h3419 : RB T H3380 m e8 d8 := (RB_fr w3356 gm f3385 rfl h3376)
      exact WL.loc hX (by simp) (next T H3380 ⟨⟨w3384, g0, gx, gm, go, by omega, by omega⟩, ⟨_, tc, tm, cu, dr, _, _, _, _, _, ce8, q3398, gtc, h3406, q3400, gtm, h3407, q3402, gcu, q3404, gdr, h3408, h3409, h3410, h3411, h3412, hC1, hC2, h3413, h3419, (h3414).1, (h3418).1, hE, hZ, (by omega), (by assumption), (by omega), (by first | assumption | exact SG_0), q3416, gce8, h3405, h3417, a3390, gm⟩, by omega, by omega⟩ (by omega) (by omega))
    · exfalso
      omega
  · refine wl_of hX hb cL_845 (rw_iconst (pc' := 846) rfl ?_)
    refine wl_of hX hb cL_846 (rw_goto (p1 := 850) (by decide) ?_)
    obtain ⟨B, tc, tm, cu, dr, C8, e8, d8, n8, g8, ce8, e0, gtc, htc, em, gtm, htm, ecu, gcu, edr, gdr, hcu, hdr, hdec, hded, hsp, hC1, hC2, hcu8, hrb8, hcg8, hmn8, hE, hZ, hn8, hXA, hV8, hSG, ece8, gce8, hcen8, hhdr8, hknn8, -⟩ := hXI
    have hN3 := RB_n3 hrb8
    have hE13 : ∀ h : Nat, h < 24 → 0 ≤ e8 13 h ∧ e8 13 h ≤ 100 := fun k hk => by
      obtain ⟨s, h1, h2, h3⟩ := hcu8.1.2.2.1
      exact ⟨(h3 k hk).1, (h3 k hk).2.1⟩
    have hXW := hXA.1
    have hXN := hXA.2
    have hE0 : e8 0 3 = d8 0 3 ∧ e8 0 0 = d8 0 0 := by
      have h := hE 0 (by decide)
      exact ⟨congrFun h 3, congrFun h 0⟩
    have u3420 := CU_k hcu8
    have h3421 : CY T H cu (d8 0 3) g8 (H cu 17) := ⟨hcg8, rfl⟩
    have h3422 : RY T H m (d8 0 3) g8 (H m 32) := ⟨hmn8, rfl⟩
    obtain ⟨t9, ht9⟩ : ∃ t : Int, t = H x 9 := ⟨_, rfl⟩
    obtain ⟨y9, hy9⟩ : ∃ y : Int, y = 1 := ⟨_, rfl⟩
    obtain ⟨r3423, q3424, g3425⟩ := hW.ref gx (t' := 6) (n := 13) (j := 2) (p := 0) (q := 0) rfl (by decide) rfl
    refine wl_of hX hb cL_850 (xc_V (pc' := 853) (r := x) (as := [vI (H 0 ((i + 1).toNat)), vI 1]) (st := []) (lm_11_109) rfl rfl (Nat.le_of_ble_eq_true rfl) hW gx sh_1 (by decide) rfl (by decide) (u_104 (e := e8) (d := d8) (n := n8) hW gx ⟨by omega, by omega⟩ ⟨by decide, by decide⟩ ecu gcu q3424 g3425 ece8 gce8 (by assumption) (by assumption) (by omega) (by omega) (by omega) (by omega) hcu8 hcen8 hhdr8) (fun R3426 T3427 H3428 p3429 => ?_))
    obtain ⟨e3430, w3432, f3433, z3434, e3431, b3435, p3436⟩ := p3429
    subst e3430
    subst e3431
    show WL _ _ _ _ 853 [(4, vI i), (3, .ref o), (2, .ref m), (1, .ref x), (0, .ref 0)] [vI z3434] _ H3428
    refine wl_of hX hb cL_853 (rw_pop (pc' := 854) rfl rfl ?_)
    refine wl_of hX hb cL_854 (rw_aload_n (pc' := 855) (v := .ref m) rfl rfl rfl ?_)
    refine wl_of hX hb cL_855 (rw_aload_n (pc' := 856) (v := .ref 0) rfl rfl rfl ?_)
    refine wl_of hX hb cL_856 (rw_iload (pc' := 858) (z := i) rfl rfl ?_)
    refine wl_of hX hb cL_858 (rw_iconst (pc' := 859) rfl ?_)
    refine wl_of hX hb cL_859 (rw_iadd (pc' := 860) rfl ?_)
    have k3440 : H3428 0 ((i + 1).toNat) = H 0 ((i + 1).toNat) := (f3433 0 ((i + 1).toNat) _ g0 (wmem_s rfl))
    refine wl_of hX hb cL_860 (xa_I (so := 0) (pc' := 861) (a := 0) w3432 g0 (wsh_s _) (by omega) (wty_s _ _) (by omega) (by omega) rfl (fun b3438 b3439 => ?_))
    refine wl_of hX hb cL_861 (rw_aload_n (pc' := 862) (v := .ref 0) rfl rfl rfl ?_)
    refine wl_of hX hb cL_862 (rw_iload (pc' := 864) (z := i) rfl rfl ?_)
    refine wl_of hX hb cL_864 (rw_iconst (pc' := 865) rfl ?_)
    refine wl_of hX hb cL_865 (rw_iadd (pc' := 866) rfl ?_)
    have k3443 : H3428 0 ((i + 2).toNat) = H 0 ((i + 2).toNat) := (f3433 0 ((i + 2).toNat) _ g0 (wmem_s rfl))
    refine wl_of hX hb cL_866 (xa_I (so := 0) (pc' := 867) (a := 0) w3432 g0 (wsh_s _) (by omega) (wty_s _ _) (by omega) (by omega) rfl (fun b3441 b3442 => ?_))
    refine wl_of hX hb cL_867 (rw_if_eq (p1 := 874) (p2 := 870) (by decide) rfl ⟨by omega, by omega⟩ (fun c3444 => ?_) (fun c3444 => ?_))
    · refine wl_of hX hb cL_874 (rw_iconst (pc' := 875) rfl ?_)
      have k3445 : wKI H3428 m = wKI H m := (wKI_fr hW gm f3433 rfl)
      have k3446 : H3428 x 9 = H x 9 := (f3433 x 9 _ gx rfl)
      have k3447 : H3428 m 6 = H m 6 := (f3433 m 6 _ gm rfl)
      have k3448 : H3428 x 11 = H x 11 := (f3433 x 11 _ gx rfl)
      have k3449 : H3428 m 13 = H m 13 := (f3433 m 13 _ gm rfl)
      have k3450 : H3428 x 8 = H x 8 := (f3433 x 8 _ gx rfl)
      have k3451 : H3428 m 3 = H m 3 := (f3433 m 3 _ gm rfl)
      rw [show H3428 0 ((i + 1).toNat) = H 0 ((i + 1).toNat) by omega]
      have h3452 : RB T H3428 m e8 d8 := (RB_fr hW gm f3433 rfl hrb8)
      have h3453 : KNN T H3428 m e8 d8 := (KNN_fr hW gm f3433 rfl hknn8)
      refine wl_of hX hb cL_875 (xc_V (pc' := 878) (r := m) (as := [vI (H 0 ((i + 1).toNat)), vI 0]) (st := []) (lm_11_113) rfl rfl (Nat.le_of_ble_eq_true rfl) w3432 gm sh_42 (by decide) rfl (by decide) (u_254 (e := e8) (d := d8) w3432 gm ⟨by omega, by omega⟩ ⟨by decide, by decide⟩ (by omega) (by assumption) (by assumption) (by assumption) (by assumption) h3452 h3453) (fun R3454 T3455 H3456 p3457 => ?_))
      obtain ⟨e3458, w3460, f3461, z3462, e3459, b3463, p3464⟩ := p3457
      subst e3458
      subst e3459
      obtain ⟨a3465, a3466⟩ := p3464
      show WL _ _ _ _ 878 [(4, vI i), (3, .ref o), (2, .ref m), (1, .ref x), (0, .ref 0)] [vI z3462] _ H3456
      refine wl_of hX hb cL_878 (rw_pop (pc' := 879) rfl rfl ?_)
      refine wl_of hX hb cL_879 (rw_goto (p1 := 1653) (by decide) ?_)
      have k3467 : H3456 x 9 = H3428 x 9 := (f3461 x 9 _ gx rfl)
      have k3468 : H3456 m 6 = H3428 m 6 := (f3461 m 6 _ gm rfl)
      have k3469 : H3456 x 11 = H3428 x 11 := (f3461 x 11 _ gx rfl)
      have k3470 : H3456 m 13 = H3428 m 13 := (f3461 m 13 _ gm rfl)
      have k3471 : H3456 x 8 = H3428 x 8 := (f3461 x 8 _ gx rfl)
      have k3472 : H3456 m 3 = H3428 m 3 := (f3461 m 3 _ gm rfl)
      have k3473 : H3456 x 0 = H x 0 := ((f3461 x 0 _ gx rfl).trans (f3433 x 0 _ gx rfl))
      have q3474 : H3456 x 0 = (tc : Int) := k3473.trans e0
      have k3475 : H3456 m 5 = H m 5 := ((f3461 m 5 _ gm rfl).trans (f3433 m 5 _ gm rfl))
      have q3476 : H3456 m 5 = (tm : Int) := k3475.trans em
      have k3477 : H3456 x 6 = H x 6 := ((f3461 x 6 _ gx rfl).trans (f3433 x 6 _ gx rfl))
      have q3478 : H3456 x 6 = (cu : Int) := k3477.trans ecu
      have k3479 : H3456 x 7 = H x 7 := ((f3461 x 7 _ gx rfl).trans (f3433 x 7 _ gx rfl))
      have q3480 : H3456 x 7 = (dr : Int) := k3479.trans edr
      have h3481 : CEN T H3456 ce8 e8 d8 := (CEN_fr w3432 gce8 f3461 rfl p3436)
      have h3482 : TP T H3456 tc B := (TP_fr w3432 gtc f3461 rfl (TP_fr hW gtc f3433 rfl htc))
      have h3483 : TM T H3456 tm B := (TM_fr w3432 gtm f3461 rfl (TM_fr hW gtm f3433 rfl htm))
      have h3484 : DD T H3456 cu  := (DD_fr w3432 gcu f3461 rfl (DD_fr hW gcu f3433 rfl hcu))
      have h3485 : DD T H3456 dr  := (DD_fr w3432 gdr f3461 rfl (DD_fr hW gdr f3433 rfl hdr))
      have h3486 : DE T H3456 cu  := (DE_fr w3432 gcu f3461 rfl (DE_fr hW gcu f3433 rfl hdec))
      have h3487 : DE T H3456 dr  := (DE_fr w3432 gdr f3461 rfl (DE_fr hW gdr f3433 rfl hded))
      have h3488 : SP T H3456 x C8 := (SP_fr w3432 gx f3461 rfl (SP_fr hW gx f3433 rfl hsp))
      have h3489 : CU T H3456 cu e8 d8 n8 := (CU_fr w3432 gcu f3461 rfl (CU_fr hW gcu f3433 rfl hcu8))
      have h3490 : CY T H3456 cu (d8 0 3) g8 (H cu 17) := (CY_fr w3432 gcu f3461 rfl (CY_fr hW gcu f3433 rfl h3421))
      have k3491 : H3456 x 3 = H x 3 := ((f3461 x 3 _ gx rfl).trans (f3433 x 3 _ gx rfl))
      have q3492 : H3456 x 3 = (ce8 : Int) := k3491.trans ece8
      have h3493 : HDR T H3456 ce8  := (HDR_fr w3432 gce8 f3461 rfl (HDR_fr hW gce8 f3433 rfl hhdr8))
      have h3494 : RY T H3456 m (d8 0 3) g8 (H m 32) := (RY_fr w3432 gm f3461 rfl (RY_fr hW gm f3433 rfl h3422))
      have h3495 : RB T H3456 m e8 d8 := (RB_fr w3432 gm f3461 rfl h3452)
      exact WL.loc hX (by simp) (next T H3456 ⟨⟨w3460, g0, gx, gm, go, by omega, by omega⟩, ⟨_, tc, tm, cu, dr, _, _, _, _, _, ce8, q3474, gtc, h3482, q3476, gtm, h3483, q3478, gcu, q3480, gdr, h3484, h3485, h3486, h3487, h3488, hC1, hC2, h3489, h3495, (h3490).1, (h3494).1, hE, hZ, (by omega), (by assumption), (by omega), (by first | assumption | exact SG_0), q3492, gce8, h3481, h3493, a3466, gm⟩, by omega, by omega⟩ (by omega) (by omega))
    · refine wl_of hX hb cL_870 (rw_iconst (pc' := 871) rfl ?_)
      refine wl_of hX hb cL_871 (rw_goto (p1 := 875) (by decide) ?_)
      have k3496 : wKI H3428 m = wKI H m := (wKI_fr hW gm f3433 rfl)
      have k3497 : H3428 x 9 = H x 9 := (f3433 x 9 _ gx rfl)
      have k3498 : H3428 m 6 = H m 6 := (f3433 m 6 _ gm rfl)
      have k3499 : H3428 x 11 = H x 11 := (f3433 x 11 _ gx rfl)
      have k3500 : H3428 m 13 = H m 13 := (f3433 m 13 _ gm rfl)
      have k3501 : H3428 x 8 = H x 8 := (f3433 x 8 _ gx rfl)
      have k3502 : H3428 m 3 = H m 3 := (f3433 m 3 _ gm rfl)
      rw [show H3428 0 ((i + 1).toNat) = H 0 ((i + 1).toNat) by omega]
      have h3503 : RB T H3428 m e8 d8 := (RB_fr hW gm f3433 rfl hrb8)
      have h3504 : KNN T H3428 m e8 d8 := (KNN_fr hW gm f3433 rfl hknn8)
      refine wl_of hX hb cL_875 (xc_V (pc' := 878) (r := m) (as := [vI (H 0 ((i + 1).toNat)), vI 1]) (st := []) (lm_11_113) rfl rfl (Nat.le_of_ble_eq_true rfl) w3432 gm sh_42 (by decide) rfl (by decide) (u_254 (e := e8) (d := d8) w3432 gm ⟨by omega, by omega⟩ ⟨by decide, by decide⟩ (by omega) (by assumption) (by assumption) (by assumption) (by assumption) h3503 h3504) (fun R3505 T3506 H3507 p3508 => ?_))
      obtain ⟨e3509, w3511, f3512, z3513, e3510, b3514, p3515⟩ := p3508
      subst e3509
      subst e3510
      obtain ⟨a3516, a3517⟩ := p3515
      show WL _ _ _ _ 878 [(4, vI i), (3, .ref o), (2, .ref m), (1, .ref x), (0, .ref 0)] [vI z3513] _ H3507
      refine wl_of hX hb cL_878 (rw_pop (pc' := 879) rfl rfl ?_)
      refine wl_of hX hb cL_879 (rw_goto (p1 := 1653) (by decide) ?_)
      have k3518 : H3507 x 9 = H3428 x 9 := (f3512 x 9 _ gx rfl)
      have k3519 : H3507 m 6 = H3428 m 6 := (f3512 m 6 _ gm rfl)
      have k3520 : H3507 x 11 = H3428 x 11 := (f3512 x 11 _ gx rfl)
      have k3521 : H3507 m 13 = H3428 m 13 := (f3512 m 13 _ gm rfl)
      have k3522 : H3507 x 8 = H3428 x 8 := (f3512 x 8 _ gx rfl)
      have k3523 : H3507 m 3 = H3428 m 3 := (f3512 m 3 _ gm rfl)
      have k3524 : H3507 x 0 = H x 0 := ((f3512 x 0 _ gx rfl).trans (f3433 x 0 _ gx rfl))
      have q3525 : H3507 x 0 = (tc : Int) := k3524.trans e0
      have k3526 : H3507 m 5 = H m 5 := ((f3512 m 5 _ gm rfl).trans (f3433 m 5 _ gm rfl))
      have q3527 : H3507 m 5 = (tm : Int) := k3526.trans em
      have k3528 : H3507 x 6 = H x 6 := ((f3512 x 6 _ gx rfl).trans (f3433 x 6 _ gx rfl))
      have q3529 : H3507 x 6 = (cu : Int) := k3528.trans ecu
      have k3530 : H3507 x 7 = H x 7 := ((f3512 x 7 _ gx rfl).trans (f3433 x 7 _ gx rfl))
      have q3531 : H3507 x 7 = (dr : Int) := k3530.trans edr
      have h3532 : CEN T H3507 ce8 e8 d8 := (CEN_fr w3432 gce8 f3512 rfl p3436)
      have h3533 : TP T H3507 tc B := (TP_fr w3432 gtc f3512 rfl (TP_fr hW gtc f3433 rfl htc))
      have h3534 : TM T H3507 tm B := (TM_fr w3432 gtm f3512 rfl (TM_fr hW gtm f3433 rfl htm))
      have h3535 : DD T H3507 cu  := (DD_fr w3432 gcu f3512 rfl (DD_fr hW gcu f3433 rfl hcu))
      have h3536 : DD T H3507 dr  := (DD_fr w3432 gdr f3512 rfl (DD_fr hW gdr f3433 rfl hdr))
      have h3537 : DE T H3507 cu  := (DE_fr w3432 gcu f3512 rfl (DE_fr hW gcu f3433 rfl hdec))
      have h3538 : DE T H3507 dr  := (DE_fr w3432 gdr f3512 rfl (DE_fr hW gdr f3433 rfl hded))
      have h3539 : SP T H3507 x C8 := (SP_fr w3432 gx f3512 rfl (SP_fr hW gx f3433 rfl hsp))
      have h3540 : CU T H3507 cu e8 d8 n8 := (CU_fr w3432 gcu f3512 rfl (CU_fr hW gcu f3433 rfl hcu8))
      have h3541 : CY T H3507 cu (d8 0 3) g8 (H cu 17) := (CY_fr w3432 gcu f3512 rfl (CY_fr hW gcu f3433 rfl h3421))
      have k3542 : H3507 x 3 = H x 3 := ((f3512 x 3 _ gx rfl).trans (f3433 x 3 _ gx rfl))
      have q3543 : H3507 x 3 = (ce8 : Int) := k3542.trans ece8
      have h3544 : HDR T H3507 ce8  := (HDR_fr w3432 gce8 f3512 rfl (HDR_fr hW gce8 f3433 rfl hhdr8))
      have h3545 : RY T H3507 m (d8 0 3) g8 (H m 32) := (RY_fr w3432 gm f3512 rfl (RY_fr hW gm f3433 rfl h3422))
      have h3546 : RB T H3507 m e8 d8 := (RB_fr w3432 gm f3512 rfl h3503)
      exact WL.loc hX (by simp) (next T H3507 ⟨⟨w3511, g0, gx, gm, go, by omega, by omega⟩, ⟨_, tc, tm, cu, dr, _, _, _, _, _, ce8, q3525, gtc, h3533, q3527, gtm, h3534, q3529, gcu, q3531, gdr, h3535, h3536, h3537, h3538, h3539, hC1, hC2, h3540, h3546, (h3541).1, (h3545).1, hE, hZ, (by omega), (by assumption), (by omega), (by first | assumption | exact SG_0), q3543, gce8, h3532, h3544, a3517, gm⟩, by omega, by omega⟩ (by omega) (by omega))
