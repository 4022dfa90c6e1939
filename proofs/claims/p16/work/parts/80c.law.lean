/-! THE LAW, GONE ON WITH (own work) -/
set_option maxHeartbeats 4000000 in
theorem wl_c16 {kt : Nat → Option mc_E} {CB SB : Nat} {X : mc_S → Prop} {T : wq_T} {H : wq_H} {Len x m o : Nat} {i : Int} (hX : wlX kt CB SB X) (hb : T.2.1 ≤ CB ∧ T.2.2.1 ≤ SB) (hI : wlJ Len x m o T H) (hL : Len ≤ 3072) (hi : 0 ≤ i ∧ i + 6 ≤ Len) (hb2 : T.2.1 + 20 ≤ CB ∧ T.2.2.1 + 500 ≤ SB)  (next : ∀ T' H', wlJ Len x m o T' H' → T'.2.1 ≤ T.2.1 + 20 → T'.2.2.1 ≤ T.2.2.1 + 500 → WL kt CB SB X 1653 (wlL i x m o) [] T' H') : WL kt CB SB X 668 (wlL i x m o) [] T H := by
  obtain ⟨⟨hW, g0, gx, gm, go, hK, hr⟩, hXI, hY1, hY2⟩ := hI
  refine wl_of hX hb cL_668 (rw_aload_n (pc' := 669) (v := .ref x) rfl rfl rfl ?_)
  refine wl_of hX hb cL_669 (rw_aload_n (pc' := 670) (v := .ref 0) rfl rfl rfl ?_)
  refine wl_of hX hb cL_670 (rw_iload (pc' := 672) (z := i) rfl rfl ?_)
  refine wl_of hX hb cL_672 (rw_iconst (pc' := 673) rfl ?_)
  refine wl_of hX hb cL_673 (rw_iadd (pc' := 674) rfl ?_)
  refine wl_of hX hb cL_674 (xa_I (so := 0) (pc' := 675) (a := 0) hW g0 (wsh_s _) (by omega) (wty_s _ _) (by omega) (by omega) rfl (fun b3012 b3013 => ?_))
  refine wl_of hX hb cL_675 (rw_aload_n (pc' := 676) (v := .ref 0) rfl rfl rfl ?_)
  refine wl_of hX hb cL_676 (rw_iload (pc' := 678) (z := i) rfl rfl ?_)
  refine wl_of hX hb cL_678 (rw_iconst (pc' := 679) rfl ?_)
  refine wl_of hX hb cL_679 (rw_iadd (pc' := 680) rfl ?_)
  refine wl_of hX hb cL_680 (xa_I (so := 0) (pc' := 681) (a := 0) hW g0 (wsh_s _) (by omega) (wty_s _ _) (by omega) (by omega) rfl (fun b3014 b3015 => ?_))
  obtain ⟨B, tc, tm, cu, dr, C8, e8, d8, n8, g8, ce8, e0, gtc, htc, em, gtm, htm, ecu, gcu, edr, gdr, hcu, hdr, hdec, hded, hsp, hC1, hC2, hcu8, hrb8, hcg8, hmn8, hE, hZ, hn8, hXA, hV8, hSG, ece8, gce8, hcen8, hhdr8, hknn8, -⟩ := hXI
  have hN3 := RB_n3 hrb8
  have hE13 : ∀ h : Nat, h < 24 → 0 ≤ e8 13 h ∧ e8 13 h ≤ 100 := fun k hk => by
    obtain ⟨s, h1, h2, h3⟩ := hcu8.1.2.2.1
    exact ⟨(h3 k hk).1, (h3 k hk).2.1⟩
  have hXW := hXA.1
  have hXN := hXA.2
  have hE0 : e8 0 3 = d8 0 3 ∧ e8 0 0 = d8 0 0 := by
    have h := hE 0 (by decide)
    exact ⟨congrFun h 3, congrFun h 0⟩
  have u3016 := CU_k hcu8
  have h3017 : CY T H cu (d8 0 3) g8 (H cu 17) := ⟨hcg8, rfl⟩
  have h3018 : RY T H m (d8 0 3) g8 (H m 32) := ⟨hmn8, rfl⟩
  obtain ⟨t9, ht9⟩ : ∃ t : Int, t = H x 9 := ⟨_, rfl⟩
  obtain ⟨y9, hy9⟩ : ∃ y : Int, y = H 0 ((i + 2).toNat) := ⟨_, rfl⟩
  obtain ⟨r3019, q3020, g3021⟩ := hW.ref gx (t' := 6) (n := 13) (j := 2) (p := 0) (q := 0) rfl (by decide) rfl
  refine wl_of hX hb cL_681 (xc_V (pc' := 684) (r := x) (as := [vI (H 0 ((i + 1).toNat)), vI (H 0 ((i + 2).toNat))]) (st := []) (lm_11_88) rfl rfl (Nat.le_of_ble_eq_true rfl) hW gx sh_1 (by decide) rfl (by decide) (u_93 (e := e8) (d := d8) (n := n8) hW gx ⟨by omega, by omega⟩ ⟨by omega, by omega⟩ ecu gcu q3020 g3021 ece8 gce8 (by assumption) (by assumption) (by omega) (by omega) (by omega) (by omega) hcu8 hcen8 hhdr8) (fun R3022 T3023 H3024 p3025 => ?_))
  obtain ⟨e3026, w3028, f3029, z3030, e3027, b3031, p3032⟩ := p3025
  subst e3026
  subst e3027
  show WL _ _ _ _ 684 [(4, vI i), (3, .ref o), (2, .ref m), (1, .ref x), (0, .ref 0)] [vI z3030] _ H3024
  refine wl_of hX hb cL_684 (rw_pop (pc' := 685) rfl rfl ?_)
  refine wl_of hX hb cL_685 (rw_aload_n (pc' := 686) (v := .ref m) rfl rfl rfl ?_)
  refine wl_of hX hb cL_686 (rw_aload_n (pc' := 687) (v := .ref 0) rfl rfl rfl ?_)
  refine wl_of hX hb cL_687 (rw_iload (pc' := 689) (z := i) rfl rfl ?_)
  refine wl_of hX hb cL_689 (rw_iconst (pc' := 690) rfl ?_)
  refine wl_of hX hb cL_690 (rw_iadd (pc' := 691) rfl ?_)
  have k3036 : H3024 0 ((i + 1).toNat) = H 0 ((i + 1).toNat) := (f3029 0 ((i + 1).toNat) _ g0 (wmem_s rfl))
  refine wl_of hX hb cL_691 (xa_I (so := 0) (pc' := 692) (a := 0) w3028 g0 (wsh_s _) (by omega) (wty_s _ _) (by omega) (by omega) rfl (fun b3034 b3035 => ?_))
  refine wl_of hX hb cL_692 (rw_aload_n (pc' := 693) (v := .ref 0) rfl rfl rfl ?_)
  refine wl_of hX hb cL_693 (rw_iload (pc' := 695) (z := i) rfl rfl ?_)
  refine wl_of hX hb cL_695 (rw_iconst (pc' := 696) rfl ?_)
  refine wl_of hX hb cL_696 (rw_iadd (pc' := 697) rfl ?_)
  have k3039 : H3024 0 ((i + 2).toNat) = H 0 ((i + 2).toNat) := (f3029 0 ((i + 2).toNat) _ g0 (wmem_s rfl))
  refine wl_of hX hb cL_697 (xa_I (so := 0) (pc' := 698) (a := 0) w3028 g0 (wsh_s _) (by omega) (wty_s _ _) (by omega) (by omega) rfl (fun b3037 b3038 => ?_))
  have k3040 : wKI H3024 m = wKI H m := (wKI_fr hW gm f3029 rfl)
  have k3041 : H3024 x 9 = H x 9 := (f3029 x 9 _ gx rfl)
  have k3042 : H3024 m 6 = H m 6 := (f3029 m 6 _ gm rfl)
  have k3043 : H3024 x 11 = H x 11 := (f3029 x 11 _ gx rfl)
  have k3044 : H3024 m 13 = H m 13 := (f3029 m 13 _ gm rfl)
  have k3045 : H3024 x 8 = H x 8 := (f3029 x 8 _ gx rfl)
  have k3046 : H3024 m 3 = H m 3 := (f3029 m 3 _ gm rfl)
  rw [show H3024 0 ((i + 2).toNat) = H 0 ((i + 2).toNat) by omega]
  rw [show H3024 0 ((i + 1).toNat) = H 0 ((i + 1).toNat) by omega]
  have h3047 : RB T H3024 m e8 d8 := (RB_fr hW gm f3029 rfl hrb8)
  have h3048 : KNN T H3024 m e8 d8 := (KNN_fr hW gm f3029 rfl hknn8)
  refine wl_of hX hb cL_698 (xc_V (pc' := 701) (r := m) (as := [vI (H 0 ((i + 1).toNat)), vI (H 0 ((i + 2).toNat))]) (st := []) (lm_11_92) rfl rfl (Nat.le_of_ble_eq_true rfl) w3028 gm sh_42 (by decide) rfl (by decide) (u_245 (e := e8) (d := d8) w3028 gm ⟨by omega, by omega⟩ ⟨by omega, by omega⟩ (by omega) (by assumption) (by assumption) (by assumption) (by assumption) h3047 h3048) (fun R3049 T3050 H3051 p3052 => ?_))
  obtain ⟨e3053, w3055, f3056, z3057, e3054, b3058, p3059⟩ := p3052
  subst e3053
  subst e3054
  obtain ⟨a3060, a3061⟩ := p3059
  show WL _ _ _ _ 701 [(4, vI i), (3, .ref o), (2, .ref m), (1, .ref x), (0, .ref 0)] [vI z3057] _ H3051
  refine wl_of hX hb cL_701 (rw_pop (pc' := 702) rfl rfl ?_)
  refine wl_of hX hb cL_702 (rw_goto (p1 := 1653) (by decide) ?_)
  have k3062 : H3051 x 9 = H3024 x 9 := (f3056 x 9 _ gx rfl)
  have k3063 : H3051 m 6 = H3024 m 6 := (f3056 m 6 _ gm rfl)
  have k3064 : H3051 x 11 = H3024 x 11 := (f3056 x 11 _ gx rfl)
  have k3065 : H3051 m 13 = H3024 m 13 := (f3056 m 13 _ gm rfl)
  have k3066 : H3051 x 8 = H3024 x 8 := (f3056 x 8 _ gx rfl)
  have k3067 : H3051 m 3 = H3024 m 3 := (f3056 m 3 _ gm rfl)
  have k3068 : H3051 x 0 = H x 0 := ((f3056 x 0 _ gx rfl).trans (f3029 x 0 _ gx rfl))
  have q3069 : H3051 x 0 = (tc : Int) := k3068.trans e0
  have k3070 : H3051 m 5 = H m 5 := ((f3056 m 5 _ gm rfl).trans (f3029 m 5 _ gm rfl))
  have q3071 : H3051 m 5 = (tm : Int) := k3070.trans em
  have k3072 : H3051 x 6 = H x 6 := ((f3056 x 6 _ gx rfl).trans (f3029 x 6 _ gx rfl))
  have q3073 : H3051 x 6 = (cu : Int) := k3072.trans ecu
  have k3074 : H3051 x 7 = H x 7 := ((f3056 x 7 _ gx rfl).trans (f3029 x 7 _ gx rfl))
  have q3075 : H3051 x 7 = (dr : Int) := k3074.trans edr
  have h3076 : CEN T H3051 ce8 e8 d8 := (CEN_fr w3028 gce8 f3056 rfl p3032)
  have h3077 : TP T H3051 tc B := (TP_fr w3028 gtc f3056 rfl (TP_fr hW gtc f3029 rfl htc))
  have h3078 : TM T H3051 tm B := (TM_fr w3028 gtm f3056 rfl (TM_fr hW gtm f3029 rfl htm))
  have h3079 : DD T H3051 cu  := (DD_fr w3028 gcu f3056 rfl (DD_fr hW gcu f3029 rfl hcu))
  have h3080 : DD T H3051 dr  := (DD_fr w3028 gdr f3056 rfl (DD_fr hW gdr f3029 rfl hdr))
  have h3081 : DE T H3051 cu  := (DE_fr w3028 gcu f3056 rfl (DE_fr hW gcu f3029 rfl hdec))
  have h3082 : DE T H3051 dr  := (DE_fr w3028 gdr f3056 rfl (DE_fr hW gdr f3029 rfl hded))
  have h3083 : SP T H3051 x C8 := (SP_fr w3028 gx f3056 rfl (SP_fr hW gx f3029 rfl hsp))
  have h3084 : CU T H3051 cu e8 d8 n8 := (CU_fr w3028 gcu f3056 rfl (CU_fr hW gcu f3029 rfl hcu8))
  have h3085 : CY T H3051 cu (d8 0 3) g8 (H cu 17) := (CY_fr w3028 gcu f3056 rfl (CY_fr hW gcu f3029 rfl h3017))
  have k3086 : H3051 x 3 = H x 3 := ((f3056 x 3 _ gx rfl).trans (f3029 x 3 _ gx rfl))
  have q3087 : H3051 x 3 = (ce8 : Int) := k3086.trans ece8
  have h3088 : HDR T H3051 ce8  := (HDR_fr w3028 gce8 f3056 rfl (HDR_fr hW gce8 f3029 rfl hhdr8))
  have h3089 : RY T H3051 m (d8 0 3) g8 (H m 32) := (RY_fr w3028 gm f3056 rfl (RY_fr hW gm f3029 rfl h3018))
  have h3090 : RB T H3051 m e8 d8 := (RB_fr w3028 gm f3056 rfl h3047)
  exact WL.loc hX (by simp) (next T H3051 ⟨⟨w3055, g0, gx, gm, go, by omega, by omega⟩, ⟨_, tc, tm, cu, dr, _, _, _, _, _, ce8, q3069, gtc, h3077, q3071, gtm, h3078, q3073, gcu, q3075, gdr, h3079, h3080, h3081, h3082, h3083, hC1, hC2, h3084, h3090, (h3085).1, (h3089).1, hE, hZ, (by omega), (by assumption), (by omega), (by first | assumption | exact SG_0), q3087, gce8, h3076, h3088, a3061, gm⟩, by omega, by omega⟩ (by omega) (by omega))
set_option maxHeartbeats 4000000 in
theorem wl_c17 {kt : Nat → Option mc_E} {CB SB : Nat} {X : mc_S → Prop} {T : wq_T} {H : wq_H} {Len x m o : Nat} {i : Int} (hX : wlX kt CB SB X) (hb : T.2.1 ≤ CB ∧ T.2.2.1 ≤ SB) (hI : wlJ Len x m o T H) (hL : Len ≤ 3072) (hi : 0 ≤ i ∧ i + 6 ≤ Len) (hb2 : T.2.1 + 20 ≤ CB ∧ T.2.2.1 + 500 ≤ SB)  (next : ∀ T' H', wlJ Len x m o T' H' → T'.2.1 ≤ T.2.1 + 20 → T'.2.2.1 ≤ T.2.2.1 + 500 → WL kt CB SB X 1653 (wlL i x m o) [] T' H') : WL kt CB SB X 705 (wlL i x m o) [] T H := by
  obtain ⟨⟨hW, g0, gx, gm, go, hK, hr⟩, hXI, hY1, hY2⟩ := hI
  refine wl_of hX hb cL_705 (rw_aload_n (pc' := 706) (v := .ref x) rfl rfl rfl ?_)
  obtain ⟨B, tc, tm, cu, dr, C8, e8, d8, n8, g8, ce8, e0, gtc, htc, em, gtm, htm, ecu, gcu, edr, gdr, hcu, hdr, hdec, hded, hsp, hC1, hC2, hcu8, hrb8, hcg8, hmn8, hE, hZ, hn8, hXA, hV8, hSG, ece8, gce8, hcen8, hhdr8, hknn8, -⟩ := hXI
  have hN3 := RB_n3 hrb8
  have hE13 : ∀ h : Nat, h < 24 → 0 ≤ e8 13 h ∧ e8 13 h ≤ 100 := fun k hk => by
    obtain ⟨s, h1, h2, h3⟩ := hcu8.1.2.2.1
    exact ⟨(h3 k hk).1, (h3 k hk).2.1⟩
  have hXW := hXA.1
  have hXN := hXA.2
  have hE0 : e8 0 3 = d8 0 3 ∧ e8 0 0 = d8 0 0 := by
    have h := hE 0 (by decide)
    exact ⟨congrFun h 3, congrFun h 0⟩
  have u3091 := CU_k hcu8
  have h3092 : CY T H cu (d8 0 3) g8 (H cu 17) := ⟨hcg8, rfl⟩
  have h3093 : RY T H m (d8 0 3) g8 (H m 32) := ⟨hmn8, rfl⟩
  obtain ⟨t9, ht9⟩ : ∃ t : Int, t = H x 9 := ⟨_, rfl⟩
  obtain ⟨r3094, q3095, g3096⟩ := hW.ref gx (t' := 6) (n := 13) (j := 2) (p := 0) (q := 0) rfl (by decide) rfl
  refine wl_of hX hb cL_706 (xc_V (pc' := 709) (r := x) (as := []) (st := []) (lm_11_93) rfl rfl (Nat.le_of_ble_eq_true rfl) hW gx sh_1 (by decide) rfl (by decide) (u_97 (e := e8) (d := d8) (n := n8) hW gx ecu gcu q3095 g3096 ece8 gce8 (by assumption) (by assumption) (by omega) (by omega) (by omega) (by omega) hcu8 hcen8 hhdr8) (fun R3097 T3098 H3099 p3100 => ?_))
  obtain ⟨e3101, w3103, f3104, z3105, e3102, b3106, p3107⟩ := p3100
  subst e3101
  subst e3102
  show WL _ _ _ _ 709 [(4, vI i), (3, .ref o), (2, .ref m), (1, .ref x), (0, .ref 0)] [vL z3105] _ H3099
  refine wl_of hX hb cL_709 (rw_pop2 (pc' := 710) rfl rfl ?_)
  refine wl_of hX hb cL_710 (rw_aload_n (pc' := 711) (v := .ref m) rfl rfl rfl ?_)
  have k3109 : wKI H3099 m = wKI H m := (wKI_fr hW gm f3104 rfl)
  have k3110 : H3099 x 9 = H x 9 := (f3104 x 9 _ gx rfl)
  have k3111 : H3099 m 6 = H m 6 := (f3104 m 6 _ gm rfl)
  have k3112 : H3099 x 11 = H x 11 := (f3104 x 11 _ gx rfl)
  have k3113 : H3099 m 13 = H m 13 := (f3104 m 13 _ gm rfl)
  have k3114 : H3099 x 8 = H x 8 := (f3104 x 8 _ gx rfl)
  have k3115 : H3099 m 3 = H m 3 := (f3104 m 3 _ gm rfl)
  have h3116 : RB T H3099 m e8 d8 := (RB_fr hW gm f3104 rfl hrb8)
  have h3117 : KNN T H3099 m e8 d8 := (KNN_fr hW gm f3104 rfl hknn8)
  refine wl_of hX hb cL_711 (xc_V (pc' := 714) (r := m) (as := []) (st := []) (lm_11_96) rfl rfl (Nat.le_of_ble_eq_true rfl) w3103 gm sh_42 (by decide) rfl (by decide) (u_246 (e := e8) (d := d8) w3103 gm (by omega) (by assumption) (by assumption) (by assumption) (by assumption) h3116 h3117) (fun R3118 T3119 H3120 p3121 => ?_))
  obtain ⟨e3122, w3124, f3125, z3126, e3123, b3127, p3128⟩ := p3121
  subst e3122
  subst e3123
  obtain ⟨a3129, a3130⟩ := p3128
  show WL _ _ _ _ 714 [(4, vI i), (3, .ref o), (2, .ref m), (1, .ref x), (0, .ref 0)] [vL z3126] _ H3120
  refine wl_of hX hb cL_714 (rw_pop2 (pc' := 715) rfl rfl ?_)
  refine wl_of hX hb cL_715 (rw_goto (p1 := 1653) (by decide) ?_)
  have k3131 : H3120 x 9 = H3099 x 9 := (f3125 x 9 _ gx rfl)
  have k3132 : H3120 m 6 = H3099 m 6 := (f3125 m 6 _ gm rfl)
  have k3133 : H3120 x 11 = H3099 x 11 := (f3125 x 11 _ gx rfl)
  have k3134 : H3120 m 13 = H3099 m 13 := (f3125 m 13 _ gm rfl)
  have k3135 : H3120 x 8 = H3099 x 8 := (f3125 x 8 _ gx rfl)
  have k3136 : H3120 m 3 = H3099 m 3 := (f3125 m 3 _ gm rfl)
  have k3137 : H3120 x 0 = H x 0 := ((f3125 x 0 _ gx rfl).trans (f3104 x 0 _ gx rfl))
  have q3138 : H3120 x 0 = (tc : Int) := k3137.trans e0
  have k3139 : H3120 m 5 = H m 5 := ((f3125 m 5 _ gm rfl).trans (f3104 m 5 _ gm rfl))
  have q3140 : H3120 m 5 = (tm : Int) := k3139.trans em
  have k3141 : H3120 x 6 = H x 6 := ((f3125 x 6 _ gx rfl).trans (f3104 x 6 _ gx rfl))
  have q3142 : H3120 x 6 = (cu : Int) := k3141.trans ecu
  have k3143 : H3120 x 7 = H x 7 := ((f3125 x 7 _ gx rfl).trans (f3104 x 7 _ gx rfl))
  have q3144 : H3120 x 7 = (dr : Int) := k3143.trans edr
  have h3145 : CEN T H3120 ce8 e8 d8 := (CEN_fr w3103 gce8 f3125 rfl p3107)
  have h3146 : TP T H3120 tc B := (TP_fr w3103 gtc f3125 rfl (TP_fr hW gtc f3104 rfl htc))
  have h3147 : TM T H3120 tm B := (TM_fr w3103 gtm f3125 rfl (TM_fr hW gtm f3104 rfl htm))
  have h3148 : DD T H3120 cu  := (DD_fr w3103 gcu f3125 rfl (DD_fr hW gcu f3104 rfl hcu))
  have h3149 : DD T H3120 dr  := (DD_fr w3103 gdr f3125 rfl (DD_fr hW gdr f3104 rfl hdr))
  have h3150 : DE T H3120 cu  := (DE_fr w3103 gcu f3125 rfl (DE_fr hW gcu f3104 rfl hdec))
  have h3151 : DE T H3120 dr  := (DE_fr w3103 gdr f3125 rfl (DE_fr hW gdr f3104 rfl hded))
  have h3152 : SP T H3120 x C8 := (SP_fr w3103 gx f3125 rfl (SP_fr hW gx f3104 rfl hsp))
  have h3153 : CU T H3120 cu e8 d8 n8 := (CU_fr w3103 gcu f3125 rfl (CU_fr hW gcu f3104 rfl hcu8))
  have h3154 : CY T H3120 cu (d8 0 3) g8 (H cu 17) := (CY_fr w3103 gcu f3125 rfl (CY_fr hW gcu f3104 rfl h3092))
  have k3155 : H3120 x 3 = H x 3 := ((f3125 x 3 _ gx rfl).trans (f3104 x 3 _ gx rfl))
  have q3156 : H3120 x 3 = (ce8 : Int) := k3155.trans ece8
  have h3157 : HDR T H3120 ce8  := (HDR_fr w3103 gce8 f3125 rfl (HDR_fr hW gce8 f3104 rfl hhdr8))
  have h3158 : RY T H3120 m (d8 0 3) g8 (H m 32) := (RY_fr w3103 gm f3125 rfl (RY_fr hW gm f3104 rfl h3093))
  have h3159 : RB T H3120 m e8 d8 := (RB_fr w3103 gm f3125 rfl h3116)
  exact WL.loc hX (by simp) (next T H3120 ⟨⟨w3124, g0, gx, gm, go, by omega, by omega⟩, ⟨_, tc, tm, cu, dr, _, _, _, _, _, ce8, q3138, gtc, h3146, q3140, gtm, h3147, q3142, gcu, q3144, gdr, h3148, h3149, h3150, h3151, h3152, hC1, hC2, h3153, h3159, (h3154).1, (h3158).1, hE, hZ, (by omega), (by assumption), (by omega), (by first | assumption | exact SG_0), q3156, gce8, h3145, h3157, a3130, gm⟩, by omega, by omega⟩ (by omega) (by omega))
set_option maxHeartbeats 4000000 in
theorem wl_c18 {kt : Nat → Option mc_E} {CB SB : Nat} {X : mc_S → Prop} {T : wq_T} {H : wq_H} {Len x m o : Nat} {i : Int} (hX : wlX kt CB SB X) (hb : T.2.1 ≤ CB ∧ T.2.2.1 ≤ SB) (hI : wlJ Len x m o T H) (hL : Len ≤ 3072) (hi : 0 ≤ i ∧ i + 6 ≤ Len) (hb2 : T.2.1 + 20 ≤ CB ∧ T.2.2.1 + 500 ≤ SB)  (next : ∀ T' H', wlJ Len x m o T' H' → T'.2.1 ≤ T.2.1 + 20 → T'.2.2.1 ≤ T.2.2.1 + 500 → WL kt CB SB X 1653 (wlL i x m o) [] T' H') : WL kt CB SB X 718 (wlL i x m o) [] T H := by
  obtain ⟨⟨hW, g0, gx, gm, go, hK, hr⟩, hXI, hY1, hY2⟩ := hI
  refine wl_of hX hb cL_718 (rw_aload_n (pc' := 719) (v := .ref x) rfl rfl rfl ?_)
  refine wl_of hX hb cL_719 (rw_aload_n (pc' := 720) (v := .ref 0) rfl rfl rfl ?_)
  refine wl_of hX hb cL_720 (rw_iload (pc' := 722) (z := i) rfl rfl ?_)
  refine wl_of hX hb cL_722 (rw_iconst (pc' := 723) rfl ?_)
  refine wl_of hX hb cL_723 (rw_iadd (pc' := 724) rfl ?_)
  refine wl_of hX hb cL_724 (xa_I (so := 0) (pc' := 725) (a := 0) hW g0 (wsh_s _) (by omega) (wty_s _ _) (by omega) (by omega) rfl (fun b3160 b3161 => ?_))
  refine wl_of hX hb cL_725 (rw_aload_n (pc' := 726) (v := .ref 0) rfl rfl rfl ?_)
  refine wl_of hX hb cL_726 (rw_iload (pc' := 728) (z := i) rfl rfl ?_)
  refine wl_of hX hb cL_728 (rw_iconst (pc' := 729) rfl ?_)
  refine wl_of hX hb cL_729 (rw_iadd (pc' := 730) rfl ?_)
  refine wl_of hX hb cL_730 (xa_I (so := 0) (pc' := 731) (a := 0) hW g0 (wsh_s _) (by omega) (wty_s _ _) (by omega) (by omega) rfl (fun b3162 b3163 => ?_))
  obtain ⟨B, tc, tm, cu, dr, C8, e8, d8, n8, g8, ce8, e0, gtc, htc, em, gtm, htm, ecu, gcu, edr, gdr, hcu, hdr, hdec, hded, hsp, hC1, hC2, hcu8, hrb8, hcg8, hmn8, hE, hZ, hn8, hXA, hV8, hSG, ece8, gce8, hcen8, hhdr8, hknn8, -⟩ := hXI
  have hN3 := RB_n3 hrb8
  have hE13 : ∀ h : Nat, h < 24 → 0 ≤ e8 13 h ∧ e8 13 h ≤ 100 := fun k hk => by
    obtain ⟨s, h1, h2, h3⟩ := hcu8.1.2.2.1
    exact ⟨(h3 k hk).1, (h3 k hk).2.1⟩
  have hXW := hXA.1
  have hXN := hXA.2
  have hE0 : e8 0 3 = d8 0 3 ∧ e8 0 0 = d8 0 0 := by
    have h := hE 0 (by decide)
    exact ⟨congrFun h 3, congrFun h 0⟩
  have u3164 := CU_k hcu8
  have h3165 : CY T H cu (d8 0 3) g8 (H cu 17) := ⟨hcg8, rfl⟩
  have h3166 : RY T H m (d8 0 3) g8 (H m 32) := ⟨hmn8, rfl⟩
  obtain ⟨t9, ht9⟩ : ∃ t : Int, t = H x 9 := ⟨_, rfl⟩
  obtain ⟨y9, hy9⟩ : ∃ y : Int, y = H 0 ((i + 2).toNat) := ⟨_, rfl⟩
  obtain ⟨r3167, q3168, g3169⟩ := hW.ref gx (t' := 6) (n := 13) (j := 2) (p := 0) (q := 0) rfl (by decide) rfl
  refine wl_of hX hb cL_731 (xc_V (pc' := 734) (r := x) (as := [vI (H 0 ((i + 1).toNat)), vI (H 0 ((i + 2).toNat))]) (st := []) (lm_11_97) rfl rfl (Nat.le_of_ble_eq_true rfl) hW gx sh_1 (by decide) rfl (by decide) (u_98 (e := e8) (d := d8) (n := n8) hW gx ⟨by omega, by omega⟩ ⟨by omega, by omega⟩ ecu gcu q3168 g3169 ece8 gce8 (by assumption) (by assumption) (by omega) (by omega) (by omega) (by omega) hcu8 hcen8 hhdr8) (fun R3170 T3171 H3172 p3173 => ?_))
  obtain ⟨e3174, w3176, f3177, z3178, e3175, b3179, p3180⟩ := p3173
  subst e3174
  subst e3175
  show WL _ _ _ _ 734 [(4, vI i), (3, .ref o), (2, .ref m), (1, .ref x), (0, .ref 0)] [vI z3178] _ H3172
  refine wl_of hX hb cL_734 (rw_pop (pc' := 735) rfl rfl ?_)
  refine wl_of hX hb cL_735 (rw_aload_n (pc' := 736) (v := .ref m) rfl rfl rfl ?_)
  refine wl_of hX hb cL_736 (rw_aload_n (pc' := 737) (v := .ref 0) rfl rfl rfl ?_)
  refine wl_of hX hb cL_737 (rw_iload (pc' := 739) (z := i) rfl rfl ?_)
  refine wl_of hX hb cL_739 (rw_iconst (pc' := 740) rfl ?_)
  refine wl_of hX hb cL_740 (rw_iadd (pc' := 741) rfl ?_)
  have k3184 : H3172 0 ((i + 1).toNat) = H 0 ((i + 1).toNat) := (f3177 0 ((i + 1).toNat) _ g0 (wmem_s rfl))
  refine wl_of hX hb cL_741 (xa_I (so := 0) (pc' := 742) (a := 0) w3176 g0 (wsh_s _) (by omega) (wty_s _ _) (by omega) (by omega) rfl (fun b3182 b3183 => ?_))
  refine wl_of hX hb cL_742 (rw_aload_n (pc' := 743) (v := .ref 0) rfl rfl rfl ?_)
  refine wl_of hX hb cL_743 (rw_iload (pc' := 745) (z := i) rfl rfl ?_)
  refine wl_of hX hb cL_745 (rw_iconst (pc' := 746) rfl ?_)
  refine wl_of hX hb cL_746 (rw_iadd (pc' := 747) rfl ?_)
  have k3187 : H3172 0 ((i + 2).toNat) = H 0 ((i + 2).toNat) := (f3177 0 ((i + 2).toNat) _ g0 (wmem_s rfl))
  refine wl_of hX hb cL_747 (xa_I (so := 0) (pc' := 748) (a := 0) w3176 g0 (wsh_s _) (by omega) (wty_s _ _) (by omega) (by omega) rfl (fun b3185 b3186 => ?_))
  have k3188 : wKI H3172 m = wKI H m := (wKI_fr hW gm f3177 rfl)
  have k3189 : H3172 x 9 = H x 9 := (f3177 x 9 _ gx rfl)
  have k3190 : H3172 m 6 = H m 6 := (f3177 m 6 _ gm rfl)
  have k3191 : H3172 x 11 = H x 11 := (f3177 x 11 _ gx rfl)
  have k3192 : H3172 m 13 = H m 13 := (f3177 m 13 _ gm rfl)
  have k3193 : H3172 x 8 = H x 8 := (f3177 x 8 _ gx rfl)
  have k3194 : H3172 m 3 = H m 3 := (f3177 m 3 _ gm rfl)
  rw [show H3172 0 ((i + 2).toNat) = H 0 ((i + 2).toNat) by omega]
  rw [show H3172 0 ((i + 1).toNat) = H 0 ((i + 1).toNat) by omega]
  have h3195 : RB T H3172 m e8 d8 := (RB_fr hW gm f3177 rfl hrb8)
  have h3196 : KNN T H3172 m e8 d8 := (KNN_fr hW gm f3177 rfl hknn8)
  refine wl_of hX hb cL_748 (xc_V (pc' := 751) (r := m) (as := [vI (H 0 ((i + 1).toNat)), vI (H 0 ((i + 2).toNat))]) (st := []) (lm_11_100) rfl rfl (Nat.le_of_ble_eq_true rfl) w3176 gm sh_42 (by decide) rfl (by decide) (u_249 (e := e8) (d := d8) w3176 gm ⟨by omega, by omega⟩ ⟨by omega, by omega⟩ (by omega) (by assumption) (by assumption) (by assumption) (by assumption) h3195 h3196) (fun R3197 T3198 H3199 p3200 => ?_))
  obtain ⟨e3201, w3203, f3204, z3205, e3202, b3206, p3207⟩ := p3200
  subst e3201
  subst e3202
  obtain ⟨a3208, a3209⟩ := p3207
  show WL _ _ _ _ 751 [(4, vI i), (3, .ref o), (2, .ref m), (1, .ref x), (0, .ref 0)] [vI z3205] _ H3199
  refine wl_of hX hb cL_751 (rw_pop (pc' := 752) rfl rfl ?_)
  refine wl_of hX hb cL_752 (rw_goto (p1 := 1653) (by decide) ?_)
  have k3210 : H3199 x 9 = H3172 x 9 := (f3204 x 9 _ gx rfl)
  have k3211 : H3199 m 6 = H3172 m 6 := (f3204 m 6 _ gm rfl)
  have k3212 : H3199 x 11 = H3172 x 11 := (f3204 x 11 _ gx rfl)
  have k3213 : H3199 m 13 = H3172 m 13 := (f3204 m 13 _ gm rfl)
  have k3214 : H3199 x 8 = H3172 x 8 := (f3204 x 8 _ gx rfl)
  have k3215 : H3199 m 3 = H3172 m 3 := (f3204 m 3 _ gm rfl)
  have k3216 : H3199 x 0 = H x 0 := ((f3204 x 0 _ gx rfl).trans (f3177 x 0 _ gx rfl))
  have q3217 : H3199 x 0 = (tc : Int) := k3216.trans e0
  have k3218 : H3199 m 5 = H m 5 := ((f3204 m 5 _ gm rfl).trans (f3177 m 5 _ gm rfl))
  have q3219 : H3199 m 5 = (tm : Int) := k3218.trans em
  have k3220 : H3199 x 6 = H x 6 := ((f3204 x 6 _ gx rfl).trans (f3177 x 6 _ gx rfl))
  have q3221 : H3199 x 6 = (cu : Int) := k3220.trans ecu
  have k3222 : H3199 x 7 = H x 7 := ((f3204 x 7 _ gx rfl).trans (f3177 x 7 _ gx rfl))
  have q3223 : H3199 x 7 = (dr : Int) := k3222.trans edr
  have h3224 : CEN T H3199 ce8 e8 d8 := (CEN_fr w3176 gce8 f3204 rfl p3180)
  have h3225 : TP T H3199 tc B := (TP_fr w3176 gtc f3204 rfl (TP_fr hW gtc f3177 rfl htc))
  have h3226 : TM T H3199 tm B := (TM_fr w3176 gtm f3204 rfl (TM_fr hW gtm f3177 rfl htm))
  have h3227 : DD T H3199 cu  := (DD_fr w3176 gcu f3204 rfl (DD_fr hW gcu f3177 rfl hcu))
  have h3228 : DD T H3199 dr  := (DD_fr w3176 gdr f3204 rfl (DD_fr hW gdr f3177 rfl hdr))
  have h3229 : DE T H3199 cu  := (DE_fr w3176 gcu f3204 rfl (DE_fr hW gcu f3177 rfl hdec))
  have h3230 : DE T H3199 dr  := (DE_fr w3176 gdr f3204 rfl (DE_fr hW gdr f3177 rfl hded))
  have h3231 : SP T H3199 x C8 := (SP_fr w3176 gx f3204 rfl (SP_fr hW gx f3177 rfl hsp))
  have h3232 : CU T H3199 cu e8 d8 n8 := (CU_fr w3176 gcu f3204 rfl (CU_fr hW gcu f3177 rfl hcu8))
  have h3233 : CY T H3199 cu (d8 0 3) g8 (H cu 17) := (CY_fr w3176 gcu f3204 rfl (CY_fr hW gcu f3177 rfl h3165))
  have k3234 : H3199 x 3 = H x 3 := ((f3204 x 3 _ gx rfl).trans (f3177 x 3 _ gx rfl))
  have q3235 : H3199 x 3 = (ce8 : Int) := k3234.trans ece8
  have h3236 : HDR T H3199 ce8  := (HDR_fr w3176 gce8 f3204 rfl (HDR_fr hW gce8 f3177 rfl hhdr8))
  have h3237 : RY T H3199 m (d8 0 3) g8 (H m 32) := (RY_fr w3176 gm f3204 rfl (RY_fr hW gm f3177 rfl h3166))
  have h3238 : RB T H3199 m e8 d8 := (RB_fr w3176 gm f3204 rfl h3195)
  exact WL.loc hX (by simp) (next T H3199 ⟨⟨w3203, g0, gx, gm, go, by omega, by omega⟩, ⟨_, tc, tm, cu, dr, _, _, _, _, _, ce8, q3217, gtc, h3225, q3219, gtm, h3226, q3221, gcu, q3223, gdr, h3227, h3228, h3229, h3230, h3231, hC1, hC2, h3232, h3238, (h3233).1, (h3237).1, hE, hZ, (by omega), (by assumption), (by omega), (by first | assumption | exact SG_0), q3235, gce8, h3224, h3236, a3209, gm⟩, by omega, by omega⟩ (by omega) (by omega))
set_option maxHeartbeats 4000000 in
theorem wl_c19 {kt : Nat → Option mc_E} {CB SB : Nat} {X : mc_S → Prop} {T : wq_T} {H : wq_H} {Len x m o : Nat} {i : Int} (hX : wlX kt CB SB X) (hb : T.2.1 ≤ CB ∧ T.2.2.1 ≤ SB) (hI : wlJ Len x m o T H) (hL : Len ≤ 3072) (hi : 0 ≤ i ∧ i + 6 ≤ Len) (hb2 : T.2.1 + 20 ≤ CB ∧ T.2.2.1 + 500 ≤ SB)  (next : ∀ T' H', wlJ Len x m o T' H' → T'.2.1 ≤ T.2.1 + 20 → T'.2.2.1 ≤ T.2.2.1 + 500 → WL kt CB SB X 1653 (wlL i x m o) [] T' H') : WL kt CB SB X 755 (wlL i x m o) [] T H := by
  obtain ⟨⟨hW, g0, gx, gm, go, hK, hr⟩, hXI, hY1, hY2⟩ := hI
  refine wl_of hX hb cL_755 (rw_aload_n (pc' := 756) (v := .ref x) rfl rfl rfl ?_)
  refine wl_of hX hb cL_756 (rw_aload_n (pc' := 757) (v := .ref 0) rfl rfl rfl ?_)
  refine wl_of hX hb cL_757 (rw_iload (pc' := 759) (z := i) rfl rfl ?_)
  refine wl_of hX hb cL_759 (rw_iconst (pc' := 760) rfl ?_)
  refine wl_of hX hb cL_760 (rw_iadd (pc' := 761) rfl ?_)
  refine wl_of hX hb cL_761 (xa_I (so := 0) (pc' := 762) (a := 0) hW g0 (wsh_s _) (by omega) (wty_s _ _) (by omega) (by omega) rfl (fun b3239 b3240 => ?_))
  refine wl_of hX hb cL_762 (rw_aload_n (pc' := 763) (v := .ref 0) rfl rfl rfl ?_)
  refine wl_of hX hb cL_763 (rw_iload (pc' := 765) (z := i) rfl rfl ?_)
  refine wl_of hX hb cL_765 (rw_iconst (pc' := 766) rfl ?_)
  refine wl_of hX hb cL_766 (rw_iadd (pc' := 767) rfl ?_)
  refine wl_of hX hb cL_767 (xa_I (so := 0) (pc' := 768) (a := 0) hW g0 (wsh_s _) (by omega) (wty_s _ _) (by omega) (by omega) rfl (fun b3241 b3242 => ?_))
  obtain ⟨B, tc, tm, cu, dr, C8, e8, d8, n8, g8, ce8, e0, gtc, htc, em, gtm, htm, ecu, gcu, edr, gdr, hcu, hdr, hdec, hded, hsp, hC1, hC2, hcu8, hrb8, hcg8, hmn8, hE, hZ, hn8, hXA, hV8, hSG, ece8, gce8, hcen8, hhdr8, hknn8, -⟩ := hXI
  have hN3 := RB_n3 hrb8
  have hE13 : ∀ h : Nat, h < 24 → 0 ≤ e8 13 h ∧ e8 13 h ≤ 100 := fun k hk => by
    obtain ⟨s, h1, h2, h3⟩ := hcu8.1.2.2.1
    exact ⟨(h3 k hk).1, (h3 k hk).2.1⟩
  have hXW := hXA.1
  have hXN := hXA.2
  have hE0 : e8 0 3 = d8 0 3 ∧ e8 0 0 = d8 0 0 := by
    have h := hE 0 (by decide)
    exact ⟨congrFun h 3, congrFun h 0⟩
  have u3243 := CU_k hcu8
  have h3244 : CY T H cu (d8 0 3) g8 (H cu 17) := ⟨hcg8, rfl⟩
  have h3245 : RY T H m (d8 0 3) g8 (H m 32) := ⟨hmn8, rfl⟩
  obtain ⟨t9, ht9⟩ : ∃ t : Int, t = H x 9 := ⟨_, rfl⟩
  obtain ⟨y9, hy9⟩ : ∃ y : Int, y = H 0 ((i + 2).toNat) := ⟨_, rfl⟩
  obtain ⟨r3246, q3247, g3248⟩ := hW.ref gx (t' := 6) (n := 13) (j := 2) (p := 0) (q := 0) rfl (by decide) rfl
  refine wl_of hX hb cL_768 (xc_V (pc' := 771) (r := x) (as := [vI (H 0 ((i + 1).toNat)), vI (H 0 ((i + 2).toNat))]) (st := []) (lm_11_101) rfl rfl (Nat.le_of_ble_eq_true rfl) hW gx sh_1 (by decide) rfl (by decide) (u_99 (e := e8) (d := d8) (n := n8) hW gx ⟨by omega, by omega⟩ ⟨by omega, by omega⟩ ecu gcu q3247 g3248 ece8 gce8 (by assumption) (by assumption) (by omega) (by omega) (by omega) (by omega) hcu8 hcen8 hhdr8) (fun R3249 T3250 H3251 p3252 => ?_))
  obtain ⟨e3253, w3255, f3256, z3257, e3254, b3258, p3259⟩ := p3252
  subst e3253
  subst e3254
  show WL _ _ _ _ 771 [(4, vI i), (3, .ref o), (2, .ref m), (1, .ref x), (0, .ref 0)] [vI z3257] _ H3251
  refine wl_of hX hb cL_771 (rw_pop (pc' := 772) rfl rfl ?_)
  refine wl_of hX hb cL_772 (rw_aload_n (pc' := 773) (v := .ref m) rfl rfl rfl ?_)
  refine wl_of hX hb cL_773 (rw_aload_n (pc' := 774) (v := .ref 0) rfl rfl rfl ?_)
  refine wl_of hX hb cL_774 (rw_iload (pc' := 776) (z := i) rfl rfl ?_)
  refine wl_of hX hb cL_776 (rw_iconst (pc' := 777) rfl ?_)
  refine wl_of hX hb cL_777 (rw_iadd (pc' := 778) rfl ?_)
  have k3263 : H3251 0 ((i + 1).toNat) = H 0 ((i + 1).toNat) := (f3256 0 ((i + 1).toNat) _ g0 (wmem_s rfl))
  refine wl_of hX hb cL_778 (xa_I (so := 0) (pc' := 779) (a := 0) w3255 g0 (wsh_s _) (by omega) (wty_s _ _) (by omega) (by omega) rfl (fun b3261 b3262 => ?_))
  refine wl_of hX hb cL_779 (rw_aload_n (pc' := 780) (v := .ref 0) rfl rfl rfl ?_)
  refine wl_of hX hb cL_780 (rw_iload (pc' := 782) (z := i) rfl rfl ?_)
  refine wl_of hX hb cL_782 (rw_iconst (pc' := 783) rfl ?_)
  refine wl_of hX hb cL_783 (rw_iadd (pc' := 784) rfl ?_)
  have k3266 : H3251 0 ((i + 2).toNat) = H 0 ((i + 2).toNat) := (f3256 0 ((i + 2).toNat) _ g0 (wmem_s rfl))
  refine wl_of hX hb cL_784 (xa_I (so := 0) (pc' := 785) (a := 0) w3255 g0 (wsh_s _) (by omega) (wty_s _ _) (by omega) (by omega) rfl (fun b3264 b3265 => ?_))
  have k3267 : wKI H3251 m = wKI H m := (wKI_fr hW gm f3256 rfl)
  have k3268 : H3251 x 9 = H x 9 := (f3256 x 9 _ gx rfl)
  have k3269 : H3251 m 6 = H m 6 := (f3256 m 6 _ gm rfl)
  have k3270 : H3251 x 11 = H x 11 := (f3256 x 11 _ gx rfl)
  have k3271 : H3251 m 13 = H m 13 := (f3256 m 13 _ gm rfl)
  have k3272 : H3251 x 8 = H x 8 := (f3256 x 8 _ gx rfl)
  have k3273 : H3251 m 3 = H m 3 := (f3256 m 3 _ gm rfl)
  rw [show H3251 0 ((i + 2).toNat) = H 0 ((i + 2).toNat) by omega]
  rw [show H3251 0 ((i + 1).toNat) = H 0 ((i + 1).toNat) by omega]
  have h3274 : RB T H3251 m e8 d8 := (RB_fr hW gm f3256 rfl hrb8)
  have h3275 : KNN T H3251 m e8 d8 := (KNN_fr hW gm f3256 rfl hknn8)
  refine wl_of hX hb cL_785 (xc_V (pc' := 788) (r := m) (as := [vI (H 0 ((i + 1).toNat)), vI (H 0 ((i + 2).toNat))]) (st := []) (lm_11_104) rfl rfl (Nat.le_of_ble_eq_true rfl) w3255 gm sh_42 (by decide) rfl (by decide) (u_250 (e := e8) (d := d8) w3255 gm ⟨by omega, by omega⟩ ⟨by omega, by omega⟩ (by omega) (by assumption) (by assumption) (by assumption) (by assumption) h3274 h3275) (fun R3276 T3277 H3278 p3279 => ?_))
  obtain ⟨e3280, w3282, f3283, z3284, e3281, b3285, p3286⟩ := p3279
  subst e3280
  subst e3281
  obtain ⟨a3287, a3288⟩ := p3286
  show WL _ _ _ _ 788 [(4, vI i), (3, .ref o), (2, .ref m), (1, .ref x), (0, .ref 0)] [vI z3284] _ H3278
  refine wl_of hX hb cL_788 (rw_pop (pc' := 789) rfl rfl ?_)
  refine wl_of hX hb cL_789 (rw_goto (p1 := 1653) (by decide) ?_)
  have k3289 : H3278 x 9 = H3251 x 9 := (f3283 x 9 _ gx rfl)
  have k3290 : H3278 m 6 = H3251 m 6 := (f3283 m 6 _ gm rfl)
  have k3291 : H3278 x 11 = H3251 x 11 := (f3283 x 11 _ gx rfl)
  have k3292 : H3278 m 13 = H3251 m 13 := (f3283 m 13 _ gm rfl)
  have k3293 : H3278 x 8 = H3251 x 8 := (f3283 x 8 _ gx rfl)
  have k3294 : H3278 m 3 = H3251 m 3 := (f3283 m 3 _ gm rfl)
  have k3295 : H3278 x 0 = H x 0 := ((f3283 x 0 _ gx rfl).trans (f3256 x 0 _ gx rfl))
  have q3296 : H3278 x 0 = (tc : Int) := k3295.trans e0
  have k3297 : H3278 m 5 = H m 5 := ((f3283 m 5 _ gm rfl).trans (f3256 m 5 _ gm rfl))
  have q3298 : H3278 m 5 = (tm : Int) := k3297.trans em
  have k3299 : H3278 x 6 = H x 6 := ((f3283 x 6 _ gx rfl).trans (f3256 x 6 _ gx rfl))
  have q3300 : H3278 x 6 = (cu : Int) := k3299.trans ecu
  have k3301 : H3278 x 7 = H x 7 := ((f3283 x 7 _ gx rfl).trans (f3256 x 7 _ gx rfl))
  have q3302 : H3278 x 7 = (dr : Int) := k3301.trans edr
  have h3303 : CEN T H3278 ce8 e8 d8 := (CEN_fr w3255 gce8 f3283 rfl p3259)
  have h3304 : TP T H3278 tc B := (TP_fr w3255 gtc f3283 rfl (TP_fr hW gtc f3256 rfl htc))
  have h3305 : TM T H3278 tm B := (TM_fr w3255 gtm f3283 rfl (TM_fr hW gtm f3256 rfl htm))
  have h3306 : DD T H3278 cu  := (DD_fr w3255 gcu f3283 rfl (DD_fr hW gcu f3256 rfl hcu))
  have h3307 : DD T H3278 dr  := (DD_fr w3255 gdr f3283 rfl (DD_fr hW gdr f3256 rfl hdr))
  have h3308 : DE T H3278 cu  := (DE_fr w3255 gcu f3283 rfl (DE_fr hW gcu f3256 rfl hdec))
  have h3309 : DE T H3278 dr  := (DE_fr w3255 gdr f3283 rfl (DE_fr hW gdr f3256 rfl hded))
  have h3310 : SP T H3278 x C8 := (SP_fr w3255 gx f3283 rfl (SP_fr hW gx f3256 rfl hsp))
  have h3311 : CU T H3278 cu e8 d8 n8 := (CU_fr w3255 gcu f3283 rfl (CU_fr hW gcu f3256 rfl hcu8))
  have h3312 : CY T H3278 cu (d8 0 3) g8 (H cu 17) := (CY_fr w3255 gcu f3283 rfl (CY_fr hW gcu f3256 rfl h3244))
  have k3313 : H3278 x 3 = H x 3 := ((f3283 x 3 _ gx rfl).trans (f3256 x 3 _ gx rfl))
  have q3314 : H3278 x 3 = (ce8 : Int) := k3313.trans ece8
  have h3315 : HDR T H3278 ce8  := (HDR_fr w3255 gce8 f3283 rfl (HDR_fr hW gce8 f3256 rfl hhdr8))
  have h3316 : RY T H3278 m (d8 0 3) g8 (H m 32) := (RY_fr w3255 gm f3283 rfl (RY_fr hW gm f3256 rfl h3245))
  have h3317 : RB T H3278 m e8 d8 := (RB_fr w3255 gm f3283 rfl h3274)
  exact WL.loc hX (by simp) (next T H3278 ⟨⟨w3282, g0, gx, gm, go, by omega, by omega⟩, ⟨_, tc, tm, cu, dr, _, _, _, _, _, ce8, q3296, gtc, h3304, q3298, gtm, h3305, q3300, gcu, q3302, gdr, h3306, h3307, h3308, h3309, h3310, hC1, hC2, h3311, h3317, (h3312).1, (h3316).1, hE, hZ, (by omega), (by assumption), (by omega), (by first | assumption | exact SG_0), q3314, gce8, h3303, h3315, a3288, gm⟩, by omega, by omega⟩ (by omega) (by omega))
set_option maxHeartbeats 4000000 in
theorem wl_c20 {kt : Nat → Option mc_E} {CB SB : Nat} {X : mc_S → Prop} {T : wq_T} {H : wq_H} {Len x m o : Nat} {i : Int} (hX : wlX kt CB SB X) (hb : T.2.1 ≤ CB ∧ T.2.2.1 ≤ SB) (hI : wlJ Len x m o T H) (hL : Len ≤ 3072) (hi : 0 ≤ i ∧ i + 6 ≤ Len) (hb2 : T.2.1 + 20 ≤ CB ∧ T.2.2.1 + 500 ≤ SB)  (next : ∀ T' H', wlJ Len x m o T' H' → T'.2.1 ≤ T.2.1 + 20 → T'.2.2.1 ≤ T.2.2.1 + 500 → WL kt CB SB X 1653 (wlL i x m o) [] T' H') : WL kt CB SB X 792 (wlL i x m o) [] T H := by
  obtain ⟨⟨hW, g0, gx, gm, go, hK, hr⟩, hXI, hY1, hY2⟩ := hI
  refine wl_of hX hb cL_792 (rw_aload_n (pc' := 793) (v := .ref x) rfl rfl rfl ?_)
  refine wl_of hX hb cL_793 (rw_aload_n (pc' := 794) (v := .ref 0) rfl rfl rfl ?_)
  refine wl_of hX hb cL_794 (rw_iload (pc' := 796) (z := i) rfl rfl ?_)
  refine wl_of hX hb cL_796 (rw_iconst (pc' := 797) rfl ?_)
  refine wl_of hX hb cL_797 (rw_iadd (pc' := 798) rfl ?_)
  refine wl_of hX hb cL_798 (xa_I (so := 0) (pc' := 799) (a := 0) hW g0 (wsh_s _) (by omega) (wty_s _ _) (by omega) (by omega) rfl (fun b3318 b3319 => ?_))
  refine wl_of hX hb cL_799 (rw_aload_n (pc' := 800) (v := .ref 0) rfl rfl rfl ?_)
  refine wl_of hX hb cL_800 (rw_iload (pc' := 802) (z := i) rfl rfl ?_)
  refine wl_of hX hb cL_802 (rw_iconst (pc' := 803) rfl ?_)
  refine wl_of hX hb cL_803 (rw_iadd (pc' := 804) rfl ?_)
  refine wl_of hX hb cL_804 (xa_I (so := 0) (pc' := 805) (a := 0) hW g0 (wsh_s _) (by omega) (wty_s _ _) (by omega) (by omega) rfl (fun b3320 b3321 => ?_))
  obtain ⟨B, tc, tm, cu, dr, C8, e8, d8, n8, g8, ce8, e0, gtc, htc, em, gtm, htm, ecu, gcu, edr, gdr, hcu, hdr, hdec, hded, hsp, hC1, hC2, hcu8, hrb8, hcg8, hmn8, hE, hZ, hn8, hXA, hV8, hSG, ece8, gce8, hcen8, hhdr8, hknn8, -⟩ := hXI
  have hN3 := RB_n3 hrb8
  have hE13 : ∀ h : Nat, h < 24 → 0 ≤ e8 13 h ∧ e8 13 h ≤ 100 := fun k hk => by
    obtain ⟨s, h1, h2, h3⟩ := hcu8.1.2.2.1
    exact ⟨(h3 k hk).1, (h3 k hk).2.1⟩
  have hXW := hXA.1
  have hXN := hXA.2
  have hE0 : e8 0 3 = d8 0 3 ∧ e8 0 0 = d8 0 0 := by
    have h := hE 0 (by decide)
    exact ⟨congrFun h 3, congrFun h 0⟩
  have u3322 := CU_k hcu8
  have h3323 : CY T H cu (d8 0 3) g8 (H cu 17) := ⟨hcg8, rfl⟩
  have h3324 : RY T H m (d8 0 3) g8 (H m 32) := ⟨hmn8, rfl⟩
  obtain ⟨t9, ht9⟩ : ∃ t : Int, t = H x 9 := ⟨_, rfl⟩
  obtain ⟨y9, hy9⟩ : ∃ y : Int, y = H 0 ((i + 2).toNat) := ⟨_, rfl⟩
  obtain ⟨r3325, q3326, g3327⟩ := hW.ref gx (t' := 6) (n := 13) (j := 2) (p := 0) (q := 0) rfl (by decide) rfl
  refine wl_of hX hb cL_805 (xc_V (pc' := 808) (r := x) (as := [vI (H 0 ((i + 1).toNat)), vI (H 0 ((i + 2).toNat))]) (st := []) (lm_11_105) rfl rfl (Nat.le_of_ble_eq_true rfl) hW gx sh_1 (by decide) rfl (by decide) (u_101 (e := e8) (d := d8) (n := n8) hW gx ⟨by omega, by omega⟩ ⟨by omega, by omega⟩ ecu gcu q3326 g3327 ece8 gce8 (by assumption) (by assumption) (by omega) (by omega) (by omega) (by omega) hcu8 hcen8 hhdr8) (fun R3328 T3329 H3330 p3331 => ?_))
  obtain ⟨e3332, w3334, f3335, z3336, e3333, b3337, p3338⟩ := p3331
  subst e3332
  subst e3333
  show WL _ _ _ _ 808 [(4, vI i), (3, .ref o), (2, .ref m), (1, .ref x), (0, .ref 0)] [vI z3336] _ H3330
  refine wl_of hX hb cL_808 (rw_pop (pc' := 809) rfl rfl ?_)
  refine wl_of hX hb cL_809 (rw_aload_n (pc' := 810) (v := .ref m) rfl rfl rfl ?_)
  refine wl_of hX hb cL_810 (rw_aload_n (pc' := 811) (v := .ref 0) rfl rfl rfl ?_)
  refine wl_of hX hb cL_811 (rw_iload (pc' := 813) (z := i) rfl rfl ?_)
  refine wl_of hX hb cL_813 (rw_iconst (pc' := 814) rfl ?_)
  refine wl_of hX hb cL_814 (rw_iadd (pc' := 815) rfl ?_)
  have k3342 : H3330 0 ((i + 1).toNat) = H 0 ((i + 1).toNat) := (f3335 0 ((i + 1).toNat) _ g0 (wmem_s rfl))
  refine wl_of hX hb cL_815 (xa_I (so := 0) (pc' := 816) (a := 0) w3334 g0 (wsh_s _) (by omega) (wty_s _ _) (by omega) (by omega) rfl (fun b3340 b3341 => ?_))
  refine wl_of hX hb cL_816 (rw_aload_n (pc' := 817) (v := .ref 0) rfl rfl rfl ?_)
  refine wl_of hX hb cL_817 (rw_iload (pc' := 819) (z := i) rfl rfl ?_)
  refine wl_of hX hb cL_819 (rw_iconst (pc' := 820) rfl ?_)
  refine wl_of hX hb cL_820 (rw_iadd (pc' := 821) rfl ?_)
  have k3345 : H3330 0 ((i + 2).toNat) = H 0 ((i + 2).toNat) := (f3335 0 ((i + 2).toNat) _ g0 (wmem_s rfl))
  refine wl_of hX hb cL_821 (xa_I (so := 0) (pc' := 822) (a := 0) w3334 g0 (wsh_s _) (by omega) (wty_s _ _) (by omega) (by omega) rfl (fun b3343 b3344 => ?_))
  have k3346 : wKI H3330 m = wKI H m := (wKI_fr hW gm f3335 rfl)
  have k3347 : H3330 x 9 = H x 9 := (f3335 x 9 _ gx rfl)
  have k3348 : H3330 m 6 = H m 6 := (f3335 m 6 _ gm rfl)
  have k3349 : H3330 x 11 = H x 11 := (f3335 x 11 _ gx rfl)
  have k3350 : H3330 m 13 = H m 13 := (f3335 m 13 _ gm rfl)
  have k3351 : H3330 x 8 = H x 8 := (f3335 x 8 _ gx rfl)
  have k3352 : H3330 m 3 = H m 3 := (f3335 m 3 _ gm rfl)
  rw [show H3330 0 ((i + 2).toNat) = H 0 ((i + 2).toNat) by omega]
  rw [show H3330 0 ((i + 1).toNat) = H 0 ((i + 1).toNat) by omega]
  have h3353 : RB T H3330 m e8 d8 := (RB_fr hW gm f3335 rfl hrb8)
  have h3354 : KNN T H3330 m e8 d8 := (KNN_fr hW gm f3335 rfl hknn8)
  refine wl_of hX hb cL_822 (xc_V (pc' := 825) (r := m) (as := [vI (H 0 ((i + 1).toNat)), vI (H 0 ((i + 2).toNat))]) (st := []) (lm_11_108) rfl rfl (Nat.le_of_ble_eq_true rfl) w3334 gm sh_42 (by decide) rfl (by decide) (u_252 (e := e8) (d := d8) w3334 gm ⟨by omega, by omega⟩ ⟨by omega, by omega⟩ (by omega) (by assumption) (by assumption) (by assumption) (by assumption) h3353 h3354) (fun R3355 T3356 H3357 p3358 => ?_))
  obtain ⟨e3359, w3361, f3362, z3363, e3360, b3364, p3365⟩ := p3358
  subst e3359
  subst e3360
  obtain ⟨a3366, a3367⟩ := p3365
  show WL _ _ _ _ 825 [(4, vI i), (3, .ref o), (2, .ref m), (1, .ref x), (0, .ref 0)] [vI z3363] _ H3357
  refine wl_of hX hb cL_825 (rw_pop (pc' := 826) rfl rfl ?_)
  refine wl_of hX hb cL_826 (rw_goto (p1 := 1653) (by decide) ?_)
  have k3368 : H3357 x 9 = H3330 x 9 := (f3362 x 9 _ gx rfl)
  have k3369 : H3357 m 6 = H3330 m 6 := (f3362 m 6 _ gm rfl)
  have k3370 : H3357 x 11 = H3330 x 11 := (f3362 x 11 _ gx rfl)
  have k3371 : H3357 m 13 = H3330 m 13 := (f3362 m 13 _ gm rfl)
  have k3372 : H3357 x 8 = H3330 x 8 := (f3362 x 8 _ gx rfl)
  have k3373 : H3357 m 3 = H3330 m 3 := (f3362 m 3 _ gm rfl)
  have k3374 : H3357 x 0 = H x 0 := ((f3362 x 0 _ gx rfl).trans (f3335 x 0 _ gx rfl))
  have q3375 : H3357 x 0 = (tc : Int) := k3374.trans e0
  have k3376 : H3357 m 5 = H m 5 := ((f3362 m 5 _ gm rfl).trans (f3335 m 5 _ gm rfl))
  have q3377 : H3357 m 5 = (tm : Int) := k3376.trans em
  have k3378 : H3357 x 6 = H x 6 := ((f3362 x 6 _ gx rfl).trans (f3335 x 6 _ gx rfl))
  have q3379 : H3357 x 6 = (cu : Int) := k3378.trans ecu
  have k3380 : H3357 x 7 = H x 7 := ((f3362 x 7 _ gx rfl).trans (f3335 x 7 _ gx rfl))
  have q3381 : H3357 x 7 = (dr : Int) := k3380.trans edr
  have h3382 : CEN T H3357 ce8 e8 d8 := (CEN_fr w3334 gce8 f3362 rfl p3338)
  have h3383 : TP T H3357 tc B := (TP_fr w3334 gtc f3362 rfl (TP_fr hW gtc f3335 rfl htc))
  have h3384 : TM T H3357 tm B := (TM_fr w3334 gtm f3362 rfl (TM_fr hW gtm f3335 rfl htm))
  have h3385 : DD T H3357 cu  := (DD_fr w3334 gcu f3362 rfl (DD_fr hW gcu f3335 rfl hcu))
  have h3386 : DD T H3357 dr  := (DD_fr w3334 gdr f3362 rfl (DD_fr hW gdr f3335 rfl hdr))
  have h3387 : DE T H3357 cu  := (DE_fr w3334 gcu f3362 rfl (DE_fr hW gcu f3335 rfl hdec))
  have h3388 : DE T H3357 dr  := (DE_fr w3334 gdr f3362 rfl (DE_fr hW gdr f3335 rfl hded))
  have h3389 : SP T H3357 x C8 := (SP_fr w3334 gx f3362 rfl (SP_fr hW gx f3335 rfl hsp))
  have h3390 : CU T H3357 cu e8 d8 n8 := (CU_fr w3334 gcu f3362 rfl (CU_fr hW gcu f3335 rfl hcu8))
  have h3391 : CY T H3357 cu (d8 0 3) g8 (H cu 17) := (CY_fr w3334 gcu f3362 rfl (CY_fr hW gcu f3335 rfl h3323))
  have k3392 : H3357 x 3 = H x 3 := ((f3362 x 3 _ gx rfl).trans (f3335 x 3 _ gx rfl))
  have q3393 : H3357 x 3 = (ce8 : Int) := k3392.trans ece8
  have h3394 : HDR T H3357 ce8  := (HDR_fr w3334 gce8 f3362 rfl (HDR_fr hW gce8 f3335 rfl hhdr8))
  have h3395 : RY T H3357 m (d8 0 3) g8 (H m 32) := (RY_fr w3334 gm f3362 rfl (RY_fr hW gm f3335 rfl h3324))
  have h3396 : RB T H3357 m e8 d8 := (RB_fr w3334 gm f3362 rfl h3353)
  exact WL.loc hX (by simp) (next T H3357 ⟨⟨w3361, g0, gx, gm, go, by omega, by omega⟩, ⟨_, tc, tm, cu, dr, _, _, _, _, _, ce8, q3375, gtc, h3383, q3377, gtm, h3384, q3379, gcu, q3381, gdr, h3385, h3386, h3387, h3388, h3389, hC1, hC2, h3390, h3396, (h3391).1, (h3395).1, hE, hZ, (by omega), (by assumption), (by omega), (by first | assumption | exact SG_0), q3393, gce8, h3382, h3394, a3367, gm⟩, by omega, by omega⟩ (by omega) (by omega))
set_option maxHeartbeats 4000000 in
theorem wl_c21 {kt : Nat → Option mc_E} {CB SB : Nat} {X : mc_S → Prop} {T : wq_T} {H : wq_H} {Len x m o : Nat} {i : Int} (hX : wlX kt CB SB X) (hb : T.2.1 ≤ CB ∧ T.2.2.1 ≤ SB) (hI : wlJ Len x m o T H) (hL : Len ≤ 3072) (hi : 0 ≤ i ∧ i + 6 ≤ Len) (hb2 : T.2.1 + 20 ≤ CB ∧ T.2.2.1 + 500 ≤ SB)  (next : ∀ T' H', wlJ Len x m o T' H' → T'.2.1 ≤ T.2.1 + 20 → T'.2.2.1 ≤ T.2.2.1 + 500 → WL kt CB SB X 1653 (wlL i x m o) [] T' H') : WL kt CB SB X 829 (wlL i x m o) [] T H := by
  obtain ⟨⟨hW, g0, gx, gm, go, hK, hr⟩, hXI, hY1, hY2⟩ := hI
  refine wl_of hX hb cL_829 (rw_aload_n (pc' := 830) (v := .ref x) rfl rfl rfl ?_)
  refine wl_of hX hb cL_830 (rw_aload_n (pc' := 831) (v := .ref 0) rfl rfl rfl ?_)
  refine wl_of hX hb cL_831 (rw_iload (pc' := 833) (z := i) rfl rfl ?_)
  refine wl_of hX hb cL_833 (rw_iconst (pc' := 834) rfl ?_)
  refine wl_of hX hb cL_834 (rw_iadd (pc' := 835) rfl ?_)
  refine wl_of hX hb cL_835 (xa_I (so := 0) (pc' := 836) (a := 0) hW g0 (wsh_s _) (by omega) (wty_s _ _) (by omega) (by omega) rfl (fun b3397 b3398 => ?_))
  refine wl_of hX hb cL_836 (rw_aload_n (pc' := 837) (v := .ref 0) rfl rfl rfl ?_)
  refine wl_of hX hb cL_837 (rw_iload (pc' := 839) (z := i) rfl rfl ?_)
  refine wl_of hX hb cL_839 (rw_iconst (pc' := 840) rfl ?_)
  refine wl_of hX hb cL_840 (rw_iadd (pc' := 841) rfl ?_)
  refine wl_of hX hb cL_841 (xa_I (so := 0) (pc' := 842) (a := 0) hW g0 (wsh_s _) (by omega) (wty_s _ _) (by omega) (by omega) rfl (fun b3399 b3400 => ?_))
  refine wl_of hX hb cL_842 (rw_if_eq (p1 := 849) (p2 := 845) (by decide) rfl ⟨by omega, by omega⟩ (fun c3401 => ?_) (fun c3401 => ?_))
  · refine wl_of hX hb cL_849 (rw_iconst (pc' := 850) rfl ?_)
    obtain ⟨B, tc, tm, cu, dr, C8, e8, d8, n8, g8, ce8, e0, gtc, htc, em, gtm, htm, ecu, gcu, edr, gdr, hcu, hdr, hdec, hded, hsp, hC1, hC2, hcu8, hrb8, hcg8, hmn8, hE, hZ, hn8, hXA, hV8, hSG, ece8, gce8, hcen8, hhdr8, hknn8, -⟩ := hXI
    have hN3 := RB_n3 hrb8
    have hE13 : ∀ h : Nat, h < 24 → 0 ≤ e8 13 h ∧ e8 13 h ≤ 100 := fun k hk => by
      obtain ⟨s, h1, h2, h3⟩ := hcu8.1.2.2.1
      exact ⟨(h3 k hk).1, (h3 k hk).2.1⟩
    have hXW := hXA.1
    have hXN := hXA.2
    have hE0 : e8 0 3 = d8 0 3 ∧ e8 0 0 = d8 0 0 := by
      have h := hE 0 (by decide)
      exact ⟨congrFun h 3, congrFun h 0⟩
    have u3402 := CU_k hcu8
    have h3403 : CY T H cu (d8 0 3) g8 (H cu 17) := ⟨hcg8, rfl⟩
    have h3404 : RY T H m (d8 0 3) g8 (H m 32) := ⟨hmn8, rfl⟩
    obtain ⟨t9, ht9⟩ : ∃ t : Int, t = H x 9 := ⟨_, rfl⟩
    obtain ⟨y9, hy9⟩ : ∃ y : Int, y = 0 := ⟨_, rfl⟩
    obtain ⟨r3405, q3406, g3407⟩ := hW.ref gx (t' := 6) (n := 13) (j := 2) (p := 0) (q := 0) rfl (by decide) rfl
    refine wl_of hX hb cL_850 (xc_V (pc' := 853) (r := x) (as := [vI (H 0 ((i + 1).toNat)), vI 0]) (st := []) (lm_11_109) rfl rfl (Nat.le_of_ble_eq_true rfl) hW gx sh_1 (by decide) rfl (by decide) (u_104 (e := e8) (d := d8) (n := n8) hW gx ⟨by omega, by omega⟩ ⟨by decide, by decide⟩ ecu gcu q3406 g3407 ece8 gce8 (by assumption) (by assumption) (by omega) (by omega) (by omega) (by omega) hcu8 hcen8 hhdr8) (fun R3408 T3409 H3410 p3411 => ?_))
    obtain ⟨e3412, w3414, f3415, z3416, e3413, b3417, p3418⟩ := p3411
    subst e3412
    subst e3413
    show WL _ _ _ _ 853 [(4, vI i), (3, .ref o), (2, .ref m), (1, .ref x), (0, .ref 0)] [vI z3416] _ H3410
    refine wl_of hX hb cL_853 (rw_pop (pc' := 854) rfl rfl ?_)
    refine wl_of hX hb cL_854 (rw_aload_n (pc' := 855) (v := .ref m) rfl rfl rfl ?_)
    refine wl_of hX hb cL_855 (rw_aload_n (pc' := 856) (v := .ref 0) rfl rfl rfl ?_)
    refine wl_of hX hb cL_856 (rw_iload (pc' := 858) (z := i) rfl rfl ?_)
    refine wl_of hX hb cL_858 (rw_iconst (pc' := 859) rfl ?_)
    refine wl_of hX hb cL_859 (rw_iadd (pc' := 860) rfl ?_)
    have k3422 : H3410 0 ((i + 1).toNat) = H 0 ((i + 1).toNat) := (f3415 0 ((i + 1).toNat) _ g0 (wmem_s rfl))
    refine wl_of hX hb cL_860 (xa_I (so := 0) (pc' := 861) (a := 0) w3414 g0 (wsh_s _) (by omega) (wty_s _ _) (by omega) (by omega) rfl (fun b3420 b3421 => ?_))
    refine wl_of hX hb cL_861 (rw_aload_n (pc' := 862) (v := .ref 0) rfl rfl rfl ?_)
    refine wl_of hX hb cL_862 (rw_iload (pc' := 864) (z := i) rfl rfl ?_)
    refine wl_of hX hb cL_864 (rw_iconst (pc' := 865) rfl ?_)
    refine wl_of hX hb cL_865 (rw_iadd (pc' := 866) rfl ?_)
    have k3425 : H3410 0 ((i + 2).toNat) = H 0 ((i + 2).toNat) := (f3415 0 ((i + 2).toNat) _ g0 (wmem_s rfl))
    refine wl_of hX hb cL_866 (xa_I (so := 0) (pc' := 867) (a := 0) w3414 g0 (wsh_s _) (by omega) (wty_s _ _) (by omega) (by omega) rfl (fun b3423 b3424 => ?_))
    refine wl_of hX hb cL_867 (rw_if_eq (p1 := 874) (p2 := 870) (by decide) rfl ⟨by omega, by omega⟩ (fun c3426 => ?_) (fun c3426 => ?_))
    · refine wl_of hX hb cL_874 (rw_iconst (pc' := 875) rfl ?_)
      have k3427 : wKI H3410 m = wKI H m := (wKI_fr hW gm f3415 rfl)
      have k3428 : H3410 x 9 = H x 9 := (f3415 x 9 _ gx rfl)
      have k3429 : H3410 m 6 = H m 6 := (f3415 m 6 _ gm rfl)
      have k3430 : H3410 x 11 = H x 11 := (f3415 x 11 _ gx rfl)
      have k3431 : H3410 m 13 = H m 13 := (f3415 m 13 _ gm rfl)
      have k3432 : H3410 x 8 = H x 8 := (f3415 x 8 _ gx rfl)
      have k3433 : H3410 m 3 = H m 3 := (f3415 m 3 _ gm rfl)
      rw [show H3410 0 ((i + 1).toNat) = H 0 ((i + 1).toNat) by omega]
      have h3434 : RB T H3410 m e8 d8 := (RB_fr hW gm f3415 rfl hrb8)
      have h3435 : KNN T H3410 m e8 d8 := (KNN_fr hW gm f3415 rfl hknn8)
      refine wl_of hX hb cL_875 (xc_V (pc' := 878) (r := m) (as := [vI (H 0 ((i + 1).toNat)), vI 0]) (st := []) (lm_11_113) rfl rfl (Nat.le_of_ble_eq_true rfl) w3414 gm sh_42 (by decide) rfl (by decide) (u_254 (e := e8) (d := d8) w3414 gm ⟨by omega, by omega⟩ ⟨by decide, by decide⟩ (by omega) (by assumption) (by assumption) (by assumption) (by assumption) h3434 h3435) (fun R3436 T3437 H3438 p3439 => ?_))
      obtain ⟨e3440, w3442, f3443, z3444, e3441, b3445, p3446⟩ := p3439
      subst e3440
      subst e3441
      obtain ⟨a3447, a3448⟩ := p3446
      show WL _ _ _ _ 878 [(4, vI i), (3, .ref o), (2, .ref m), (1, .ref x), (0, .ref 0)] [vI z3444] _ H3438
      refine wl_of hX hb cL_878 (rw_pop (pc' := 879) rfl rfl ?_)
      refine wl_of hX hb cL_879 (rw_goto (p1 := 1653) (by decide) ?_)
      have k3449 : H3438 x 9 = H3410 x 9 := (f3443 x 9 _ gx rfl)
      have k3450 : H3438 m 6 = H3410 m 6 := (f3443 m 6 _ gm rfl)
      have k3451 : H3438 x 11 = H3410 x 11 := (f3443 x 11 _ gx rfl)
      have k3452 : H3438 m 13 = H3410 m 13 := (f3443 m 13 _ gm rfl)
      have k3453 : H3438 x 8 = H3410 x 8 := (f3443 x 8 _ gx rfl)
      have k3454 : H3438 m 3 = H3410 m 3 := (f3443 m 3 _ gm rfl)
      have k3455 : H3438 x 0 = H x 0 := ((f3443 x 0 _ gx rfl).trans (f3415 x 0 _ gx rfl))
      have q3456 : H3438 x 0 = (tc : Int) := k3455.trans e0
      have k3457 : H3438 m 5 = H m 5 := ((f3443 m 5 _ gm rfl).trans (f3415 m 5 _ gm rfl))
      have q3458 : H3438 m 5 = (tm : Int) := k3457.trans em
      have k3459 : H3438 x 6 = H x 6 := ((f3443 x 6 _ gx rfl).trans (f3415 x 6 _ gx rfl))
      have q3460 : H3438 x 6 = (cu : Int) := k3459.trans ecu
      have k3461 : H3438 x 7 = H x 7 := ((f3443 x 7 _ gx rfl).trans (f3415 x 7 _ gx rfl))
      have q3462 : H3438 x 7 = (dr : Int) := k3461.trans edr
      have h3463 : CEN T H3438 ce8 e8 d8 := (CEN_fr w3414 gce8 f3443 rfl p3418)
      have h3464 : TP T H3438 tc B := (TP_fr w3414 gtc f3443 rfl (TP_fr hW gtc f3415 rfl htc))
      have h3465 : TM T H3438 tm B := (TM_fr w3414 gtm f3443 rfl (TM_fr hW gtm f3415 rfl htm))
      have h3466 : DD T H3438 cu  := (DD_fr w3414 gcu f3443 rfl (DD_fr hW gcu f3415 rfl hcu))
      have h3467 : DD T H3438 dr  := (DD_fr w3414 gdr f3443 rfl (DD_fr hW gdr f3415 rfl hdr))
      have h3468 : DE T H3438 cu  := (DE_fr w3414 gcu f3443 rfl (DE_fr hW gcu f3415 rfl hdec))
      have h3469 : DE T H3438 dr  := (DE_fr w3414 gdr f3443 rfl (DE_fr hW gdr f3415 rfl hded))
      have h3470 : SP T H3438 x C8 := (SP_fr w3414 gx f3443 rfl (SP_fr hW gx f3415 rfl hsp))
      have h3471 : CU T H3438 cu e8 d8 n8 := (CU_fr w3414 gcu f3443 rfl (CU_fr hW gcu f3415 rfl hcu8))
      have h3472 : CY T H3438 cu (d8 0 3) g8 (H cu 17) := (CY_fr w3414 gcu f3443 rfl (CY_fr hW gcu f3415 rfl h3403))
      have k3473 : H3438 x 3 = H x 3 := ((f3443 x 3 _ gx rfl).trans (f3415 x 3 _ gx rfl))
      have q3474 : H3438 x 3 = (ce8 : Int) := k3473.trans ece8
      have h3475 : HDR T H3438 ce8  := (HDR_fr w3414 gce8 f3443 rfl (HDR_fr hW gce8 f3415 rfl hhdr8))
      have h3476 : RY T H3438 m (d8 0 3) g8 (H m 32) := (RY_fr w3414 gm f3443 rfl (RY_fr hW gm f3415 rfl h3404))
      have h3477 : RB T H3438 m e8 d8 := (RB_fr w3414 gm f3443 rfl h3434)
      exact WL.loc hX (by simp) (next T H3438 ⟨⟨w3442, g0, gx, gm, go, by omega, by omega⟩, ⟨_, tc, tm, cu, dr, _, _, _, _, _, ce8, q3456, gtc, h3464, q3458, gtm, h3465, q3460, gcu, q3462, gdr, h3466, h3467, h3468, h3469, h3470, hC1, hC2, h3471, h3477, (h3472).1, (h3476).1, hE, hZ, (by omega), (by assumption), (by omega), (by first | assumption | exact SG_0), q3474, gce8, h3463, h3475, a3448, gm⟩, by omega, by omega⟩ (by omega) (by omega))
    · exfalso
      omega
  · refine wl_of hX hb cL_845 (rw_iconst (pc' := 846) rfl ?_)
    refine wl_of hX hb cL_846 (rw_goto (p1 := 850) (by decide) ?_)
    obtain ⟨B, tc, tm, cu, dr, C8, e8, d8, n8, g8, ce8, e0, gtc, htc, em, gtm, htm, ecu, gcu, edr, gdr, hcu, hdr, hdec, hded, hsp, hC1, hC2, hcu8, hrb8, hcg8, hmn8, hE, hZ, hn8, hXA, hV8, hSG, ece8, gce8, hcen8, hhdr8, hknn8, -⟩ := hXI
    have hN3 := RB_n3 hrb8
    have hE13 : ∀ h : Nat, h < 24 → 0 ≤ e8 13 h ∧ e8 13 h ≤ 100 := fun k hk => by
      obtain ⟨s, h1, h2, h3⟩ := hcu8.1.2.2.1
      exact ⟨(h3 k hk).1, (h3 k hk).2.1⟩
    have hXW := hXA.1
    have hXN := hXA.2
    have hE0 : e8 0 3 = d8 0 3 ∧ e8 0 0 = d8 0 0 := by
      have h := hE 0 (by decide)
      exact ⟨congrFun h 3, congrFun h 0⟩
    have u3478 := CU_k hcu8
    have h3479 : CY T H cu (d8 0 3) g8 (H cu 17) := ⟨hcg8, rfl⟩
    have h3480 : RY T H m (d8 0 3) g8 (H m 32) := ⟨hmn8, rfl⟩
    obtain ⟨t9, ht9⟩ : ∃ t : Int, t = H x 9 := ⟨_, rfl⟩
    obtain ⟨y9, hy9⟩ : ∃ y : Int, y = 1 := ⟨_, rfl⟩
    obtain ⟨r3481, q3482, g3483⟩ := hW.ref gx (t' := 6) (n := 13) (j := 2) (p := 0) (q := 0) rfl (by decide) rfl
    refine wl_of hX hb cL_850 (xc_V (pc' := 853) (r := x) (as := [vI (H 0 ((i + 1).toNat)), vI 1]) (st := []) (lm_11_109) rfl rfl (Nat.le_of_ble_eq_true rfl) hW gx sh_1 (by decide) rfl (by decide) (u_104 (e := e8) (d := d8) (n := n8) hW gx ⟨by omega, by omega⟩ ⟨by decide, by decide⟩ ecu gcu q3482 g3483 ece8 gce8 (by assumption) (by assumption) (by omega) (by omega) (by omega) (by omega) hcu8 hcen8 hhdr8) (fun R3484 T3485 H3486 p3487 => ?_))
    obtain ⟨e3488, w3490, f3491, z3492, e3489, b3493, p3494⟩ := p3487
    subst e3488
    subst e3489
    show WL _ _ _ _ 853 [(4, vI i), (3, .ref o), (2, .ref m), (1, .ref x), (0, .ref 0)] [vI z3492] _ H3486
    refine wl_of hX hb cL_853 (rw_pop (pc' := 854) rfl rfl ?_)
    refine wl_of hX hb cL_854 (rw_aload_n (pc' := 855) (v := .ref m) rfl rfl rfl ?_)
    refine wl_of hX hb cL_855 (rw_aload_n (pc' := 856) (v := .ref 0) rfl rfl rfl ?_)
    refine wl_of hX hb cL_856 (rw_iload (pc' := 858) (z := i) rfl rfl ?_)
    refine wl_of hX hb cL_858 (rw_iconst (pc' := 859) rfl ?_)
    refine wl_of hX hb cL_859 (rw_iadd (pc' := 860) rfl ?_)
    have k3498 : H3486 0 ((i + 1).toNat) = H 0 ((i + 1).toNat) := (f3491 0 ((i + 1).toNat) _ g0 (wmem_s rfl))
    refine wl_of hX hb cL_860 (xa_I (so := 0) (pc' := 861) (a := 0) w3490 g0 (wsh_s _) (by omega) (wty_s _ _) (by omega) (by omega) rfl (fun b3496 b3497 => ?_))
    refine wl_of hX hb cL_861 (rw_aload_n (pc' := 862) (v := .ref 0) rfl rfl rfl ?_)
    refine wl_of hX hb cL_862 (rw_iload (pc' := 864) (z := i) rfl rfl ?_)
    refine wl_of hX hb cL_864 (rw_iconst (pc' := 865) rfl ?_)
    refine wl_of hX hb cL_865 (rw_iadd (pc' := 866) rfl ?_)
    have k3501 : H3486 0 ((i + 2).toNat) = H 0 ((i + 2).toNat) := (f3491 0 ((i + 2).toNat) _ g0 (wmem_s rfl))
    refine wl_of hX hb cL_866 (xa_I (so := 0) (pc' := 867) (a := 0) w3490 g0 (wsh_s _) (by omega) (wty_s _ _) (by omega) (by omega) rfl (fun b3499 b3500 => ?_))
    refine wl_of hX hb cL_867 (rw_if_eq (p1 := 874) (p2 := 870) (by decide) rfl ⟨by omega, by omega⟩ (fun c3502 => ?_) (fun c3502 => ?_))
    · refine wl_of hX hb cL_874 (rw_iconst (pc' := 875) rfl ?_)
      have k3503 : wKI H3486 m = wKI H m := (wKI_fr hW gm f3491 rfl)
      have k3504 : H3486 x 9 = H x 9 := (f3491 x 9 _ gx rfl)
      have k3505 : H3486 m 6 = H m 6 := (f3491 m 6 _ gm rfl)
      have k3506 : H3486 x 11 = H x 11 := (f3491 x 11 _ gx rfl)
      have k3507 : H3486 m 13 = H m 13 := (f3491 m 13 _ gm rfl)
      have k3508 : H3486 x 8 = H x 8 := (f3491 x 8 _ gx rfl)
      have k3509 : H3486 m 3 = H m 3 := (f3491 m 3 _ gm rfl)
      rw [show H3486 0 ((i + 1).toNat) = H 0 ((i + 1).toNat) by omega]
      have h3510 : RB T H3486 m e8 d8 := (RB_fr hW gm f3491 rfl hrb8)
      have h3511 : KNN T H3486 m e8 d8 := (KNN_fr hW gm f3491 rfl hknn8)
      refine wl_of hX hb cL_875 (xc_V (pc' := 878) (r := m) (as := [vI (H 0 ((i + 1).toNat)), vI 0]) (st := []) (lm_11_113) rfl rfl (Nat.le_of_ble_eq_true rfl) w3490 gm sh_42 (by decide) rfl (by decide) (u_254 (e := e8) (d := d8) w3490 gm ⟨by omega, by omega⟩ ⟨by decide, by decide⟩ (by omega) (by assumption) (by assumption) (by assumption) (by assumption) h3510 h3511) (fun R3512 T3513 H3514 p3515 => ?_))
      obtain ⟨e3516, w3518, f3519, z3520, e3517, b3521, p3522⟩ := p3515
      subst e3516
      subst e3517
      obtain ⟨a3523, a3524⟩ := p3522
      show WL _ _ _ _ 878 [(4, vI i), (3, .ref o), (2, .ref m), (1, .ref x), (0, .ref 0)] [vI z3520] _ H3514
      refine wl_of hX hb cL_878 (rw_pop (pc' := 879) rfl rfl ?_)
      refine wl_of hX hb cL_879 (rw_goto (p1 := 1653) (by decide) ?_)
      have k3525 : H3514 x 9 = H3486 x 9 := (f3519 x 9 _ gx rfl)
      have k3526 : H3514 m 6 = H3486 m 6 := (f3519 m 6 _ gm rfl)
      have k3527 : H3514 x 11 = H3486 x 11 := (f3519 x 11 _ gx rfl)
      have k3528 : H3514 m 13 = H3486 m 13 := (f3519 m 13 _ gm rfl)
      have k3529 : H3514 x 8 = H3486 x 8 := (f3519 x 8 _ gx rfl)
      have k3530 : H3514 m 3 = H3486 m 3 := (f3519 m 3 _ gm rfl)
      have k3531 : H3514 x 0 = H x 0 := ((f3519 x 0 _ gx rfl).trans (f3491 x 0 _ gx rfl))
      have q3532 : H3514 x 0 = (tc : Int) := k3531.trans e0
      have k3533 : H3514 m 5 = H m 5 := ((f3519 m 5 _ gm rfl).trans (f3491 m 5 _ gm rfl))
      have q3534 : H3514 m 5 = (tm : Int) := k3533.trans em
      have k3535 : H3514 x 6 = H x 6 := ((f3519 x 6 _ gx rfl).trans (f3491 x 6 _ gx rfl))
      have q3536 : H3514 x 6 = (cu : Int) := k3535.trans ecu
      have k3537 : H3514 x 7 = H x 7 := ((f3519 x 7 _ gx rfl).trans (f3491 x 7 _ gx rfl))
      have q3538 : H3514 x 7 = (dr : Int) := k3537.trans edr
      have h3539 : CEN T H3514 ce8 e8 d8 := (CEN_fr w3490 gce8 f3519 rfl p3494)
      have h3540 : TP T H3514 tc B := (TP_fr w3490 gtc f3519 rfl (TP_fr hW gtc f3491 rfl htc))
      have h3541 : TM T H3514 tm B := (TM_fr w3490 gtm f3519 rfl (TM_fr hW gtm f3491 rfl htm))
      have h3542 : DD T H3514 cu  := (DD_fr w3490 gcu f3519 rfl (DD_fr hW gcu f3491 rfl hcu))
      have h3543 : DD T H3514 dr  := (DD_fr w3490 gdr f3519 rfl (DD_fr hW gdr f3491 rfl hdr))
      have h3544 : DE T H3514 cu  := (DE_fr w3490 gcu f3519 rfl (DE_fr hW gcu f3491 rfl hdec))
      have h3545 : DE T H3514 dr  := (DE_fr w3490 gdr f3519 rfl (DE_fr hW gdr f3491 rfl hded))
      have h3546 : SP T H3514 x C8 := (SP_fr w3490 gx f3519 rfl (SP_fr hW gx f3491 rfl hsp))
      have h3547 : CU T H3514 cu e8 d8 n8 := (CU_fr w3490 gcu f3519 rfl (CU_fr hW gcu f3491 rfl hcu8))
      have h3548 : CY T H3514 cu (d8 0 3) g8 (H cu 17) := (CY_fr w3490 gcu f3519 rfl (CY_fr hW gcu f3491 rfl h3479))
      have k3549 : H3514 x 3 = H x 3 := ((f3519 x 3 _ gx rfl).trans (f3491 x 3 _ gx rfl))
      have q3550 : H3514 x 3 = (ce8 : Int) := k3549.trans ece8
      have h3551 : HDR T H3514 ce8  := (HDR_fr w3490 gce8 f3519 rfl (HDR_fr hW gce8 f3491 rfl hhdr8))
      have h3552 : RY T H3514 m (d8 0 3) g8 (H m 32) := (RY_fr w3490 gm f3519 rfl (RY_fr hW gm f3491 rfl h3480))
      have h3553 : RB T H3514 m e8 d8 := (RB_fr w3490 gm f3519 rfl h3510)
      exact WL.loc hX (by simp) (next T H3514 ⟨⟨w3518, g0, gx, gm, go, by omega, by omega⟩, ⟨_, tc, tm, cu, dr, _, _, _, _, _, ce8, q3532, gtc, h3540, q3534, gtm, h3541, q3536, gcu, q3538, gdr, h3542, h3543, h3544, h3545, h3546, hC1, hC2, h3547, h3553, (h3548).1, (h3552).1, hE, hZ, (by omega), (by assumption), (by omega), (by first | assumption | exact SG_0), q3550, gce8, h3539, h3551, a3524, gm⟩, by omega, by omega⟩ (by omega) (by omega))
    · refine wl_of hX hb cL_870 (rw_iconst (pc' := 871) rfl ?_)
      refine wl_of hX hb cL_871 (rw_goto (p1 := 875) (by decide) ?_)
      have k3554 : wKI H3486 m = wKI H m := (wKI_fr hW gm f3491 rfl)
      have k3555 : H3486 x 9 = H x 9 := (f3491 x 9 _ gx rfl)
      have k3556 : H3486 m 6 = H m 6 := (f3491 m 6 _ gm rfl)
      have k3557 : H3486 x 11 = H x 11 := (f3491 x 11 _ gx rfl)
      have k3558 : H3486 m 13 = H m 13 := (f3491 m 13 _ gm rfl)
      have k3559 : H3486 x 8 = H x 8 := (f3491 x 8 _ gx rfl)
      have k3560 : H3486 m 3 = H m 3 := (f3491 m 3 _ gm rfl)
      rw [show H3486 0 ((i + 1).toNat) = H 0 ((i + 1).toNat) by omega]
      have h3561 : RB T H3486 m e8 d8 := (RB_fr hW gm f3491 rfl hrb8)
      have h3562 : KNN T H3486 m e8 d8 := (KNN_fr hW gm f3491 rfl hknn8)
      refine wl_of hX hb cL_875 (xc_V (pc' := 878) (r := m) (as := [vI (H 0 ((i + 1).toNat)), vI 1]) (st := []) (lm_11_113) rfl rfl (Nat.le_of_ble_eq_true rfl) w3490 gm sh_42 (by decide) rfl (by decide) (u_254 (e := e8) (d := d8) w3490 gm ⟨by omega, by omega⟩ ⟨by decide, by decide⟩ (by omega) (by assumption) (by assumption) (by assumption) (by assumption) h3561 h3562) (fun R3563 T3564 H3565 p3566 => ?_))
      obtain ⟨e3567, w3569, f3570, z3571, e3568, b3572, p3573⟩ := p3566
      subst e3567
      subst e3568
      obtain ⟨a3574, a3575⟩ := p3573
      show WL _ _ _ _ 878 [(4, vI i), (3, .ref o), (2, .ref m), (1, .ref x), (0, .ref 0)] [vI z3571] _ H3565
      refine wl_of hX hb cL_878 (rw_pop (pc' := 879) rfl rfl ?_)
      refine wl_of hX hb cL_879 (rw_goto (p1 := 1653) (by decide) ?_)
      have k3576 : H3565 x 9 = H3486 x 9 := (f3570 x 9 _ gx rfl)
      have k3577 : H3565 m 6 = H3486 m 6 := (f3570 m 6 _ gm rfl)
      have k3578 : H3565 x 11 = H3486 x 11 := (f3570 x 11 _ gx rfl)
      have k3579 : H3565 m 13 = H3486 m 13 := (f3570 m 13 _ gm rfl)
      have k3580 : H3565 x 8 = H3486 x 8 := (f3570 x 8 _ gx rfl)
      have k3581 : H3565 m 3 = H3486 m 3 := (f3570 m 3 _ gm rfl)
      have k3582 : H3565 x 0 = H x 0 := ((f3570 x 0 _ gx rfl).trans (f3491 x 0 _ gx rfl))
      have q3583 : H3565 x 0 = (tc : Int) := k3582.trans e0
      have k3584 : H3565 m 5 = H m 5 := ((f3570 m 5 _ gm rfl).trans (f3491 m 5 _ gm rfl))
      have q3585 : H3565 m 5 = (tm : Int) := k3584.trans em
      have k3586 : H3565 x 6 = H x 6 := ((f3570 x 6 _ gx rfl).trans (f3491 x 6 _ gx rfl))
      have q3587 : H3565 x 6 = (cu : Int) := k3586.trans ecu
      have k3588 : H3565 x 7 = H x 7 := ((f3570 x 7 _ gx rfl).trans (f3491 x 7 _ gx rfl))
      have q3589 : H3565 x 7 = (dr : Int) := k3588.trans edr
      have h3590 : CEN T H3565 ce8 e8 d8 := (CEN_fr w3490 gce8 f3570 rfl p3494)
      have h3591 : TP T H3565 tc B := (TP_fr w3490 gtc f3570 rfl (TP_fr hW gtc f3491 rfl htc))
      have h3592 : TM T H3565 tm B := (TM_fr w3490 gtm f3570 rfl (TM_fr hW gtm f3491 rfl htm))
      have h3593 : DD T H3565 cu  := (DD_fr w3490 gcu f3570 rfl (DD_fr hW gcu f3491 rfl hcu))
      have h3594 : DD T H3565 dr  := (DD_fr w3490 gdr f3570 rfl (DD_fr hW gdr f3491 rfl hdr))
      have h3595 : DE T H3565 cu  := (DE_fr w3490 gcu f3570 rfl (DE_fr hW gcu f3491 rfl hdec))
      have h3596 : DE T H3565 dr  := (DE_fr w3490 gdr f3570 rfl (DE_fr hW gdr f3491 rfl hded))
      have h3597 : SP T H3565 x C8 := (SP_fr w3490 gx f3570 rfl (SP_fr hW gx f3491 rfl hsp))
      have h3598 : CU T H3565 cu e8 d8 n8 := (CU_fr w3490 gcu f3570 rfl (CU_fr hW gcu f3491 rfl hcu8))
      have h3599 : CY T H3565 cu (d8 0 3) g8 (H cu 17) := (CY_fr w3490 gcu f3570 rfl (CY_fr hW gcu f3491 rfl h3479))
      have k3600 : H3565 x 3 = H x 3 := ((f3570 x 3 _ gx rfl).trans (f3491 x 3 _ gx rfl))
      have q3601 : H3565 x 3 = (ce8 : Int) := k3600.trans ece8
      have h3602 : HDR T H3565 ce8  := (HDR_fr w3490 gce8 f3570 rfl (HDR_fr hW gce8 f3491 rfl hhdr8))
      have h3603 : RY T H3565 m (d8 0 3) g8 (H m 32) := (RY_fr w3490 gm f3570 rfl (RY_fr hW gm f3491 rfl h3480))
      have h3604 : RB T H3565 m e8 d8 := (RB_fr w3490 gm f3570 rfl h3561)
      exact WL.loc hX (by simp) (next T H3565 ⟨⟨w3569, g0, gx, gm, go, by omega, by omega⟩, ⟨_, tc, tm, cu, dr, _, _, _, _, _, ce8, q3583, gtc, h3591, q3585, gtm, h3592, q3587, gcu, q3589, gdr, h3593, h3594, h3595, h3596, h3597, hC1, hC2, h3598, h3604, (h3599).1, (h3603).1, hE, hZ, (by omega), (by assumption), (by omega), (by first | assumption | exact SG_0), q3601, gce8, h3590, h3602, a3575, gm⟩, by omega, by omega⟩ (by omega) (by omega))
