/-! THE LAW, GONE ON WITH (own work) -/
set_option maxHeartbeats 4000000 in
theorem wl_c16 {kt : Nat → Option mc_E} {CB SB : Nat} {X : mc_S → Prop} {T : wq_T} {H : wq_H} {Len x m o : Nat} {i : Int} (hX : wlX kt CB SB X) (hb : T.2.1 ≤ CB ∧ T.2.2.1 ≤ SB) (hI : wlJ Len x m o T H) (hL : Len ≤ 3072) (hi : 0 ≤ i ∧ i + 6 ≤ Len) (hb2 : T.2.1 + 20 ≤ CB ∧ T.2.2.1 + 500 ≤ SB)  (next : ∀ T' H', wlJ Len x m o T' H' → T'.2.1 ≤ T.2.1 + 20 → T'.2.2.1 ≤ T.2.2.1 + 500 → WL kt CB SB X 1653 (wlL i x m o) [] T' H') : WL kt CB SB X 668 (wlL i x m o) [] T H := by
  obtain ⟨⟨hW, g0, gx, gm, go, hK, hr⟩, hXI, hY1, hY2⟩ := hI
  refine wl_of hX hb cL_668 (rw_aload_n (pc' := 669) (v := .ref x) rfl rfl rfl ?_)
  refine wl_of hX hb cL_669 (rw_aload_n (pc' := 670) (v := .ref 0) rfl rfl rfl ?_)
  refine wl_of hX hb cL_670 (rw_iload (pc' := 672) (z := i) rfl rfl ?_)
  refine wl_of hX hb cL_672 (rw_iconst (pc' := 673) rfl ?_)
  refine wl_of hX hb cL_673 (rw_iadd (pc' := 674) rfl ?_)
  refine wl_of hX hb cL_674 (xa_I (so := 0) (pc' := 675) (a := 0) hW g0 (wsh_s _) (by omega) (wty_s _ _) (by omega) (by omega) rfl (fun b3178 b3179 => ?_))
  refine wl_of hX hb cL_675 (rw_aload_n (pc' := 676) (v := .ref 0) rfl rfl rfl ?_)
  refine wl_of hX hb cL_676 (rw_iload (pc' := 678) (z := i) rfl rfl ?_)
  refine wl_of hX hb cL_678 (rw_iconst (pc' := 679) rfl ?_)
  refine wl_of hX hb cL_679 (rw_iadd (pc' := 680) rfl ?_)
  refine wl_of hX hb cL_680 (xa_I (so := 0) (pc' := 681) (a := 0) hW g0 (wsh_s _) (by omega) (wty_s _ _) (by omega) (by omega) rfl (fun b3180 b3181 => ?_))
  obtain ⟨B, tc, tm, cu, dr, C8, e8, d8, n8, g8, ce8, e0, gtc, htc, em, gtm, htm, ecu, gcu, edr, gdr, hcu, hdr, hdec, hded, hsp, hC1, hC2, hcu8, hrb8, hcg8, hmn8, hE, hZ, hn8, hXA, hV8, hSG, ece8, gce8, hcen8, hhdr8, hknn8, -⟩ := hXI
  have hN3 := RB_n3 hrb8
  have hE13 : ∀ h : Nat, h < 24 → 0 ≤ e8 13 h ∧ e8 13 h ≤ 100 := fun k hk => by
    obtain ⟨s, h1, h2, h3⟩ := hcu8.1.2.2.1
    exact ⟨(h3 k hk).1, (h3 k hk).2.1⟩
  have hXW := hXA.1
  have hXN := hXA.2
  have hE0 : e8 0 3 = d8 0 3 ∧ e8 0 0 = d8 0 0 := by
    have h := hE 0 (by decide)
    exact ⟨congrFun h 3, congrFun h 0⟩
  have u3182 := CU_k hcu8
  have h3183 : CY T H cu (d8 0 3) g8 (H cu 17) := ⟨hcg8, rfl⟩
  have h3184 : RY T H m (d8 0 3) g8 (H m 32) := ⟨hmn8, rfl⟩
  obtain ⟨t9, ht9⟩ : ∃ t : Int, t = H x 9 := ⟨_, rfl⟩
  obtain ⟨y9, hy9⟩ : ∃ y : Int, y = H 0 ((i + 2).toNat) := ⟨_, rfl⟩
  obtain ⟨r3185, q3186, g3187⟩ := hW.ref gx (t' := 6) (n := 13) (j := 2) (p := 0) (q := 0) rfl (by decide) rfl
  refine wl_of hX hb cL_681 (xc_V (pc' := 684) (r := x) (as := [vI (H 0 ((i + 1).toNat)), vI (H 0 ((i + 2).toNat))]) (st := []) (lm_11_88) rfl rfl (Nat.le_of_ble_eq_true rfl) hW gx sh_1 (by decide) rfl (by decide) (u_93 (e := e8) (d := d8) (n := n8) hW gx ⟨by omega, by omega⟩ ⟨by omega, by omega⟩ ecu gcu q3186 g3187 ece8 gce8 (by assumption) (by assumption) (by omega) (by omega) (by omega) (by omega) hcu8 hcen8 hhdr8) (fun R3188 T3189 H3190 p3191 => ?_))
  obtain ⟨e3192, w3194, f3195, z3196, e3193, b3197, p3198⟩ := p3191
  subst e3192
  subst e3193
  show WL _ _ _ _ 684 [(4, vI i), (3, .ref o), (2, .ref m), (1, .ref x), (0, .ref 0)] [vI z3196] _ H3190
  refine wl_of hX hb cL_684 (rw_pop (pc' := 685) rfl rfl ?_)
  refine wl_of hX hb cL_685 (rw_aload_n (pc' := 686) (v := .ref m) rfl rfl rfl ?_)
  refine wl_of hX hb cL_686 (rw_aload_n (pc' := 687) (v := .ref 0) rfl rfl rfl ?_)
  refine wl_of hX hb cL_687 (rw_iload (pc' := 689) (z := i) rfl rfl ?_)
  refine wl_of hX hb cL_689 (rw_iconst (pc' := 690) rfl ?_)
  refine wl_of hX hb cL_690 (rw_iadd (pc' := 691) rfl ?_)
  have k3202 : H3190 0 ((i + 1).toNat) = H 0 ((i + 1).toNat) := (f3195 0 ((i + 1).toNat) _ g0 (wmem_s rfl))
  refine wl_of hX hb cL_691 (xa_I (so := 0) (pc' := 692) (a := 0) w3194 g0 (wsh_s _) (by omega) (wty_s _ _) (by omega) (by omega) rfl (fun b3200 b3201 => ?_))
  refine wl_of hX hb cL_692 (rw_aload_n (pc' := 693) (v := .ref 0) rfl rfl rfl ?_)
  refine wl_of hX hb cL_693 (rw_iload (pc' := 695) (z := i) rfl rfl ?_)
  refine wl_of hX hb cL_695 (rw_iconst (pc' := 696) rfl ?_)
  refine wl_of hX hb cL_696 (rw_iadd (pc' := 697) rfl ?_)
  have k3205 : H3190 0 ((i + 2).toNat) = H 0 ((i + 2).toNat) := (f3195 0 ((i + 2).toNat) _ g0 (wmem_s rfl))
  refine wl_of hX hb cL_697 (xa_I (so := 0) (pc' := 698) (a := 0) w3194 g0 (wsh_s _) (by omega) (wty_s _ _) (by omega) (by omega) rfl (fun b3203 b3204 => ?_))
  have k3206 : wKI H3190 m = wKI H m := (wKI_fr hW gm f3195 rfl)
  have k3207 : H3190 x 9 = H x 9 := (f3195 x 9 _ gx rfl)
  have k3208 : H3190 m 6 = H m 6 := (f3195 m 6 _ gm rfl)
  have k3209 : H3190 x 11 = H x 11 := (f3195 x 11 _ gx rfl)
  have k3210 : H3190 m 13 = H m 13 := (f3195 m 13 _ gm rfl)
  have k3211 : H3190 x 8 = H x 8 := (f3195 x 8 _ gx rfl)
  have k3212 : H3190 m 3 = H m 3 := (f3195 m 3 _ gm rfl)
  rw [show H3190 0 ((i + 2).toNat) = H 0 ((i + 2).toNat) by omega]
  rw [show H3190 0 ((i + 1).toNat) = H 0 ((i + 1).toNat) by omega]
  have h3213 : RB T H3190 m e8 d8 := (RB_fr hW gm f3195 rfl hrb8)
  have h3214 : KNN T H3190 m e8 d8 := (KNN_fr hW gm f3195 rfl hknn8)
  refine wl_of hX hb cL_698 (xc_V (pc' := 701) (r := m) (as := [vI (H 0 ((i + 1).toNat)), vI (H 0 ((i + 2).toNat))]) (st := []) (lm_11_92) rfl rfl (Nat.le_of_ble_eq_true rfl) w3194 gm sh_42 (by decide) rfl (by decide) (u_245 (e := e8) (d := d8) w3194 gm ⟨by omega, by omega⟩ ⟨by omega, by omega⟩ (by omega) (by assumption) (by assumption) (by assumption) (by assumption) h3213 h3214) (fun R3215 T3216 H3217 p3218 => ?_))
  obtain ⟨e3219, w3221, f3222, z3223, e3220, b3224, p3225⟩ := p3218
  subst e3219
  subst e3220
  obtain ⟨a3226, a3227⟩ := p3225
  show WL _ _ _ _ 701 [(4, vI i), (3, .ref o), (2, .ref m), (1, .ref x), (0, .ref 0)] [vI z3223] _ H3217
  refine wl_of hX hb cL_701 (rw_pop (pc' := 702) rfl rfl ?_)
  refine wl_of hX hb cL_702 (rw_goto (p1 := 1653) (by decide) ?_)
  have k3228 : H3217 x 9 = H3190 x 9 := (f3222 x 9 _ gx rfl)
  have k3229 : H3217 m 6 = H3190 m 6 := (f3222 m 6 _ gm rfl)
  have k3230 : H3217 x 11 = H3190 x 11 := (f3222 x 11 _ gx rfl)
  have k3231 : H3217 m 13 = H3190 m 13 := (f3222 m 13 _ gm rfl)
  have k3232 : H3217 x 8 = H3190 x 8 := (f3222 x 8 _ gx rfl)
  have k3233 : H3217 m 3 = H3190 m 3 := (f3222 m 3 _ gm rfl)
  have k3234 : H3217 x 0 = H x 0 := ((f3222 x 0 _ gx rfl).trans (f3195 x 0 _ gx rfl))
  have q3235 : H3217 x 0 = (tc : Int) := k3234.trans e0
  have k3236 : H3217 m 5 = H m 5 := ((f3222 m 5 _ gm rfl).trans (f3195 m 5 _ gm rfl))
  have q3237 : H3217 m 5 = (tm : Int) := k3236.trans em
  have k3238 : H3217 x 6 = H x 6 := ((f3222 x 6 _ gx rfl).trans (f3195 x 6 _ gx rfl))
  have q3239 : H3217 x 6 = (cu : Int) := k3238.trans ecu
  have k3240 : H3217 x 7 = H x 7 := ((f3222 x 7 _ gx rfl).trans (f3195 x 7 _ gx rfl))
  have q3241 : H3217 x 7 = (dr : Int) := k3240.trans edr
  have h3242 : TP T H3217 tc B := (TP_fr w3194 gtc f3222 rfl (TP_fr hW gtc f3195 rfl htc))
  have h3243 : TM T H3217 tm B := (TM_fr w3194 gtm f3222 rfl (TM_fr hW gtm f3195 rfl htm))
  have h3244 : DD T H3217 cu  := (DD_fr w3194 gcu f3222 rfl (DD_fr hW gcu f3195 rfl hcu))
  have h3245 : DD T H3217 dr  := (DD_fr w3194 gdr f3222 rfl (DD_fr hW gdr f3195 rfl hdr))
  have h3246 : DE T H3217 cu  := (DE_fr w3194 gcu f3222 rfl (DE_fr hW gcu f3195 rfl hdec))
  have h3247 : DE T H3217 dr  := (DE_fr w3194 gdr f3222 rfl (DE_fr hW gdr f3195 rfl hded))
  have h3248 : SP T H3217 x C8 := (SP_fr w3194 gx f3222 rfl (SP_fr hW gx f3195 rfl hsp))
  have h3249 : CU T H3217 cu e8 d8 n8 := (CU_fr w3194 gcu f3222 rfl (CU_fr hW gcu f3195 rfl hcu8))
  have h3250 : CY T H3217 cu (d8 0 3) g8 (H cu 17) := (CY_fr w3194 gcu f3222 rfl (CY_fr hW gcu f3195 rfl h3183))
  have k3251 : H3217 x 3 = H x 3 := ((f3222 x 3 _ gx rfl).trans (f3195 x 3 _ gx rfl))
  have q3252 : H3217 x 3 = (ce8 : Int) := k3251.trans ece8
  have h3253 : CEN T H3217 ce8 e8 d8 := (CEN_fr w3194 gce8 f3222 rfl p3198)
  have h3254 : HDR T H3217 ce8  := (HDR_fr w3194 gce8 f3222 rfl (HDR_fr hW gce8 f3195 rfl hhdr8))
  have h3255 : RY T H3217 m (d8 0 3) g8 (H m 32) := (RY_fr w3194 gm f3222 rfl (RY_fr hW gm f3195 rfl h3184))
  have h3256 : RB T H3217 m e8 d8 := (RB_fr w3194 gm f3222 rfl h3213)
  exact WL.loc hX (by simp) (next T H3217 ⟨⟨w3221, g0, gx, gm, go, by omega, by omega⟩, ⟨_, tc, tm, cu, dr, _, _, _, _, _, ce8, q3235, gtc, h3242, q3237, gtm, h3243, q3239, gcu, q3241, gdr, h3244, h3245, h3246, h3247, h3248, hC1, hC2, h3249, h3256, (h3250).1, (h3255).1, hE, hZ, (by omega), (by assumption), (by omega), (by first | assumption | exact SG_0), q3252, gce8, h3253, h3254, a3227, gm⟩, by omega, by omega⟩ (by omega) (by omega))
set_option maxHeartbeats 4000000 in
theorem wl_c17 {kt : Nat → Option mc_E} {CB SB : Nat} {X : mc_S → Prop} {T : wq_T} {H : wq_H} {Len x m o : Nat} {i : Int} (hX : wlX kt CB SB X) (hb : T.2.1 ≤ CB ∧ T.2.2.1 ≤ SB) (hI : wlJ Len x m o T H) (hL : Len ≤ 3072) (hi : 0 ≤ i ∧ i + 6 ≤ Len) (hb2 : T.2.1 + 20 ≤ CB ∧ T.2.2.1 + 500 ≤ SB)  (next : ∀ T' H', wlJ Len x m o T' H' → T'.2.1 ≤ T.2.1 + 20 → T'.2.2.1 ≤ T.2.2.1 + 500 → WL kt CB SB X 1653 (wlL i x m o) [] T' H') : WL kt CB SB X 705 (wlL i x m o) [] T H := by
  obtain ⟨⟨hW, g0, gx, gm, go, hK, hr⟩, hXI, hY1, hY2⟩ := hI
  refine wl_of hX hb cL_705 (rw_aload_n (pc' := 706) (v := .ref x) rfl rfl rfl ?_)
  obtain ⟨B, tc, tm, cu, dr, C8, e8, d8, n8, g8, ce8, e0, gtc, htc, em, gtm, htm, ecu, gcu, edr, gdr, hcu, hdr, hdec, hded, hsp, hC1, hC2, hcu8, hrb8, hcg8, hmn8, hE, hZ, hn8, hXA, hV8, hSG, ece8, gce8, hcen8, hhdr8, hknn8, -⟩ := hXI
  have hN3 := RB_n3 hrb8
  have hE13 : ∀ h : Nat, h < 24 → 0 ≤ e8 13 h ∧ e8 13 h ≤ 100 := fun k hk => by
    obtain ⟨s, h1, h2, h3⟩ := hcu8.1.2.2.1
    exact ⟨(h3 k hk).1, (h3 k hk).2.1⟩
  have hXW := hXA.1
  have hXN := hXA.2
  have hE0 : e8 0 3 = d8 0 3 ∧ e8 0 0 = d8 0 0 := by
    have h := hE 0 (by decide)
    exact ⟨congrFun h 3, congrFun h 0⟩
  have u3257 := CU_k hcu8
  have h3258 : CY T H cu (d8 0 3) g8 (H cu 17) := ⟨hcg8, rfl⟩
  have h3259 : RY T H m (d8 0 3) g8 (H m 32) := ⟨hmn8, rfl⟩
  obtain ⟨t9, ht9⟩ : ∃ t : Int, t = H x 9 := ⟨_, rfl⟩
  obtain ⟨r3260, q3261, g3262⟩ := hW.ref gx (t' := 6) (n := 13) (j := 2) (p := 0) (q := 0) rfl (by decide) rfl
  refine wl_of hX hb cL_706 (xc_V (pc' := 709) (r := x) (as := []) (st := []) (lm_11_93) rfl rfl (Nat.le_of_ble_eq_true rfl) hW gx sh_1 (by decide) rfl (by decide) (u_97 (e := e8) (d := d8) (n := n8) hW gx ecu gcu q3261 g3262 ece8 gce8 (by assumption) (by assumption) (by omega) (by omega) (by omega) (by omega) hcu8 hcen8 hhdr8) (fun R3263 T3264 H3265 p3266 => ?_))
  obtain ⟨e3267, w3269, f3270, z3271, e3268, b3272, p3273⟩ := p3266
  subst e3267
  subst e3268
  show WL _ _ _ _ 709 [(4, vI i), (3, .ref o), (2, .ref m), (1, .ref x), (0, .ref 0)] [vL z3271] _ H3265
  refine wl_of hX hb cL_709 (rw_pop2 (pc' := 710) rfl rfl ?_)
  refine wl_of hX hb cL_710 (rw_aload_n (pc' := 711) (v := .ref m) rfl rfl rfl ?_)
  have k3275 : wKI H3265 m = wKI H m := (wKI_fr hW gm f3270 rfl)
  have k3276 : H3265 x 9 = H x 9 := (f3270 x 9 _ gx rfl)
  have k3277 : H3265 m 6 = H m 6 := (f3270 m 6 _ gm rfl)
  have k3278 : H3265 x 11 = H x 11 := (f3270 x 11 _ gx rfl)
  have k3279 : H3265 m 13 = H m 13 := (f3270 m 13 _ gm rfl)
  have k3280 : H3265 x 8 = H x 8 := (f3270 x 8 _ gx rfl)
  have k3281 : H3265 m 3 = H m 3 := (f3270 m 3 _ gm rfl)
  have h3282 : RB T H3265 m e8 d8 := (RB_fr hW gm f3270 rfl hrb8)
  have h3283 : KNN T H3265 m e8 d8 := (KNN_fr hW gm f3270 rfl hknn8)
  refine wl_of hX hb cL_711 (xc_V (pc' := 714) (r := m) (as := []) (st := []) (lm_11_96) rfl rfl (Nat.le_of_ble_eq_true rfl) w3269 gm sh_42 (by decide) rfl (by decide) (u_246 (e := e8) (d := d8) w3269 gm (by omega) (by assumption) (by assumption) (by assumption) (by assumption) h3282 h3283) (fun R3284 T3285 H3286 p3287 => ?_))
  obtain ⟨e3288, w3290, f3291, z3292, e3289, b3293, p3294⟩ := p3287
  subst e3288
  subst e3289
  obtain ⟨a3295, a3296⟩ := p3294
  show WL _ _ _ _ 714 [(4, vI i), (3, .ref o), (2, .ref m), (1, .ref x), (0, .ref 0)] [vL z3292] _ H3286
  refine wl_of hX hb cL_714 (rw_pop2 (pc' := 715) rfl rfl ?_)
  refine wl_of hX hb cL_715 (rw_goto (p1 := 1653) (by decide) ?_)
  have k3297 : H3286 x 9 = H3265 x 9 := (f3291 x 9 _ gx rfl)
  have k3298 : H3286 m 6 = H3265 m 6 := (f3291 m 6 _ gm rfl)
  have k3299 : H3286 x 11 = H3265 x 11 := (f3291 x 11 _ gx rfl)
  have k3300 : H3286 m 13 = H3265 m 13 := (f3291 m 13 _ gm rfl)
  have k3301 : H3286 x 8 = H3265 x 8 := (f3291 x 8 _ gx rfl)
  have k3302 : H3286 m 3 = H3265 m 3 := (f3291 m 3 _ gm rfl)
  have k3303 : H3286 x 0 = H x 0 := ((f3291 x 0 _ gx rfl).trans (f3270 x 0 _ gx rfl))
  have q3304 : H3286 x 0 = (tc : Int) := k3303.trans e0
  have k3305 : H3286 m 5 = H m 5 := ((f3291 m 5 _ gm rfl).trans (f3270 m 5 _ gm rfl))
  have q3306 : H3286 m 5 = (tm : Int) := k3305.trans em
  have k3307 : H3286 x 6 = H x 6 := ((f3291 x 6 _ gx rfl).trans (f3270 x 6 _ gx rfl))
  have q3308 : H3286 x 6 = (cu : Int) := k3307.trans ecu
  have k3309 : H3286 x 7 = H x 7 := ((f3291 x 7 _ gx rfl).trans (f3270 x 7 _ gx rfl))
  have q3310 : H3286 x 7 = (dr : Int) := k3309.trans edr
  have h3311 : TP T H3286 tc B := (TP_fr w3269 gtc f3291 rfl (TP_fr hW gtc f3270 rfl htc))
  have h3312 : TM T H3286 tm B := (TM_fr w3269 gtm f3291 rfl (TM_fr hW gtm f3270 rfl htm))
  have h3313 : DD T H3286 cu  := (DD_fr w3269 gcu f3291 rfl (DD_fr hW gcu f3270 rfl hcu))
  have h3314 : DD T H3286 dr  := (DD_fr w3269 gdr f3291 rfl (DD_fr hW gdr f3270 rfl hdr))
  have h3315 : DE T H3286 cu  := (DE_fr w3269 gcu f3291 rfl (DE_fr hW gcu f3270 rfl hdec))
  have h3316 : DE T H3286 dr  := (DE_fr w3269 gdr f3291 rfl (DE_fr hW gdr f3270 rfl hded))
  have h3317 : SP T H3286 x C8 := (SP_fr w3269 gx f3291 rfl (SP_fr hW gx f3270 rfl hsp))
  have h3318 : CU T H3286 cu e8 d8 n8 := (CU_fr w3269 gcu f3291 rfl (CU_fr hW gcu f3270 rfl hcu8))
  have h3319 : CY T H3286 cu (d8 0 3) g8 (H cu 17) := (CY_fr w3269 gcu f3291 rfl (CY_fr hW gcu f3270 rfl h3258))
  have k3320 : H3286 x 3 = H x 3 := ((f3291 x 3 _ gx rfl).trans (f3270 x 3 _ gx rfl))
  have q3321 : H3286 x 3 = (ce8 : Int) := k3320.trans ece8
  have h3322 : CEN T H3286 ce8 e8 d8 := (CEN_fr w3269 gce8 f3291 rfl p3273)
  have h3323 : HDR T H3286 ce8  := (HDR_fr w3269 gce8 f3291 rfl (HDR_fr hW gce8 f3270 rfl hhdr8))
  have h3324 : RY T H3286 m (d8 0 3) g8 (H m 32) := (RY_fr w3269 gm f3291 rfl (RY_fr hW gm f3270 rfl h3259))
  have h3325 : RB T H3286 m e8 d8 := (RB_fr w3269 gm f3291 rfl h3282)
  exact WL.loc hX (by simp) (next T H3286 ⟨⟨w3290, g0, gx, gm, go, by omega, by omega⟩, ⟨_, tc, tm, cu, dr, _, _, _, _, _, ce8, q3304, gtc, h3311, q3306, gtm, h3312, q3308, gcu, q3310, gdr, h3313, h3314, h3315, h3316, h3317, hC1, hC2, h3318, h3325, (h3319).1, (h3324).1, hE, hZ, (by omega), (by assumption), (by omega), (by first | assumption | exact SG_0), q3321, gce8, h3322, h3323, a3296, gm⟩, by omega, by omega⟩ (by omega) (by omega))
set_option maxHeartbeats 4000000 in
theorem wl_c18 {kt : Nat → Option mc_E} {CB SB : Nat} {X : mc_S → Prop} {T : wq_T} {H : wq_H} {Len x m o : Nat} {i : Int} (hX : wlX kt CB SB X) (hb : T.2.1 ≤ CB ∧ T.2.2.1 ≤ SB) (hI : wlJ Len x m o T H) (hL : Len ≤ 3072) (hi : 0 ≤ i ∧ i + 6 ≤ Len) (hb2 : T.2.1 + 20 ≤ CB ∧ T.2.2.1 + 500 ≤ SB)  (next : ∀ T' H', wlJ Len x m o T' H' → T'.2.1 ≤ T.2.1 + 20 → T'.2.2.1 ≤ T.2.2.1 + 500 → WL kt CB SB X 1653 (wlL i x m o) [] T' H') : WL kt CB SB X 718 (wlL i x m o) [] T H := by
  obtain ⟨⟨hW, g0, gx, gm, go, hK, hr⟩, hXI, hY1, hY2⟩ := hI
  refine wl_of hX hb cL_718 (rw_aload_n (pc' := 719) (v := .ref x) rfl rfl rfl ?_)
  refine wl_of hX hb cL_719 (rw_aload_n (pc' := 720) (v := .ref 0) rfl rfl rfl ?_)
  refine wl_of hX hb cL_720 (rw_iload (pc' := 722) (z := i) rfl rfl ?_)
  refine wl_of hX hb cL_722 (rw_iconst (pc' := 723) rfl ?_)
  refine wl_of hX hb cL_723 (rw_iadd (pc' := 724) rfl ?_)
  refine wl_of hX hb cL_724 (xa_I (so := 0) (pc' := 725) (a := 0) hW g0 (wsh_s _) (by omega) (wty_s _ _) (by omega) (by omega) rfl (fun b3326 b3327 => ?_))
  refine wl_of hX hb cL_725 (rw_aload_n (pc' := 726) (v := .ref 0) rfl rfl rfl ?_)
  refine wl_of hX hb cL_726 (rw_iload (pc' := 728) (z := i) rfl rfl ?_)
  refine wl_of hX hb cL_728 (rw_iconst (pc' := 729) rfl ?_)
  refine wl_of hX hb cL_729 (rw_iadd (pc' := 730) rfl ?_)
  refine wl_of hX hb cL_730 (xa_I (so := 0) (pc' := 731) (a := 0) hW g0 (wsh_s _) (by omega) (wty_s _ _) (by omega) (by omega) rfl (fun b3328 b3329 => ?_))
  obtain ⟨B, tc, tm, cu, dr, C8, e8, d8, n8, g8, ce8, e0, gtc, htc, em, gtm, htm, ecu, gcu, edr, gdr, hcu, hdr, hdec, hded, hsp, hC1, hC2, hcu8, hrb8, hcg8, hmn8, hE, hZ, hn8, hXA, hV8, hSG, ece8, gce8, hcen8, hhdr8, hknn8, -⟩ := hXI
  have hN3 := RB_n3 hrb8
  have hE13 : ∀ h : Nat, h < 24 → 0 ≤ e8 13 h ∧ e8 13 h ≤ 100 := fun k hk => by
    obtain ⟨s, h1, h2, h3⟩ := hcu8.1.2.2.1
    exact ⟨(h3 k hk).1, (h3 k hk).2.1⟩
  have hXW := hXA.1
  have hXN := hXA.2
  have hE0 : e8 0 3 = d8 0 3 ∧ e8 0 0 = d8 0 0 := by
    have h := hE 0 (by decide)
    exact ⟨congrFun h 3, congrFun h 0⟩
  have u3330 := CU_k hcu8
  have h3331 : CY T H cu (d8 0 3) g8 (H cu 17) := ⟨hcg8, rfl⟩
  have h3332 : RY T H m (d8 0 3) g8 (H m 32) := ⟨hmn8, rfl⟩
  obtain ⟨t9, ht9⟩ : ∃ t : Int, t = H x 9 := ⟨_, rfl⟩
  obtain ⟨y9, hy9⟩ : ∃ y : Int, y = H 0 ((i + 2).toNat) := ⟨_, rfl⟩
  obtain ⟨r3333, q3334, g3335⟩ := hW.ref gx (t' := 6) (n := 13) (j := 2) (p := 0) (q := 0) rfl (by decide) rfl
  refine wl_of hX hb cL_731 (xc_V (pc' := 734) (r := x) (as := [vI (H 0 ((i + 1).toNat)), vI (H 0 ((i + 2).toNat))]) (st := []) (lm_11_97) rfl rfl (Nat.le_of_ble_eq_true rfl) hW gx sh_1 (by decide) rfl (by decide) (u_98 (e := e8) (d := d8) (n := n8) hW gx ⟨by omega, by omega⟩ ⟨by omega, by omega⟩ ecu gcu q3334 g3335 ece8 gce8 (by assumption) (by assumption) (by omega) (by omega) (by omega) (by omega) hcu8 hcen8 hhdr8) (fun R3336 T3337 H3338 p3339 => ?_))
  obtain ⟨e3340, w3342, f3343, z3344, e3341, b3345, p3346⟩ := p3339
  subst e3340
  subst e3341
  rcases p3346 with ⟨a3347, a3348, a3349⟩ | ⟨a3350, a3351, a3352⟩
  · show WL _ _ _ _ 734 [(4, vI i), (3, .ref o), (2, .ref m), (1, .ref x), (0, .ref 0)] [vI z3344] _ H3338
    refine wl_of hX hb cL_734 (rw_aload_n (pc' := 735) (v := .ref m) rfl rfl rfl ?_)
    refine wl_of hX hb cL_735 (rw_aload_n (pc' := 736) (v := .ref 0) rfl rfl rfl ?_)
    refine wl_of hX hb cL_736 (rw_iload (pc' := 738) (z := i) rfl rfl ?_)
    refine wl_of hX hb cL_738 (rw_iconst (pc' := 739) rfl ?_)
    refine wl_of hX hb cL_739 (rw_iadd (pc' := 740) rfl ?_)
    have k3355 : H3338 0 ((i + 1).toNat) = H 0 ((i + 1).toNat) := (f3343 0 ((i + 1).toNat) _ g0 (wmem_s rfl))
    refine wl_of hX hb cL_740 (xa_I (so := 0) (pc' := 741) (a := 0) w3342 g0 (wsh_s _) (by omega) (wty_s _ _) (by omega) (by omega) rfl (fun b3353 b3354 => ?_))
    refine wl_of hX hb cL_741 (rw_aload_n (pc' := 742) (v := .ref 0) rfl rfl rfl ?_)
    refine wl_of hX hb cL_742 (rw_iload (pc' := 744) (z := i) rfl rfl ?_)
    refine wl_of hX hb cL_744 (rw_iconst (pc' := 745) rfl ?_)
    refine wl_of hX hb cL_745 (rw_iadd (pc' := 746) rfl ?_)
    have k3358 : H3338 0 ((i + 2).toNat) = H 0 ((i + 2).toNat) := (f3343 0 ((i + 2).toNat) _ g0 (wmem_s rfl))
    refine wl_of hX hb cL_746 (xa_I (so := 0) (pc' := 747) (a := 0) w3342 g0 (wsh_s _) (by omega) (wty_s _ _) (by omega) (by omega) rfl (fun b3356 b3357 => ?_))
    have k3359 : wKI H3338 m = wKI H m := (wKI_fr hW gm f3343 rfl)
    have k3360 : H3338 x 9 = H x 9 := (f3343 x 9 _ gx rfl)
    have k3361 : H3338 m 6 = H m 6 := (f3343 m 6 _ gm rfl)
    have k3362 : H3338 x 11 = H x 11 := (f3343 x 11 _ gx rfl)
    have k3363 : H3338 m 13 = H m 13 := (f3343 m 13 _ gm rfl)
    have k3364 : H3338 x 8 = H x 8 := (f3343 x 8 _ gx rfl)
    have k3365 : H3338 m 3 = H m 3 := (f3343 m 3 _ gm rfl)
    rw [show H3338 0 ((i + 2).toNat) = H 0 ((i + 2).toNat) by omega]
    rw [show H3338 0 ((i + 1).toNat) = H 0 ((i + 1).toNat) by omega]
    have h3366 : RB T H3338 m e8 d8 := (RB_fr hW gm f3343 rfl hrb8)
    have h3367 : KNN T H3338 m e8 d8 := (KNN_fr hW gm f3343 rfl hknn8)
    refine wl_of hX hb cL_747 (xc_V (pc' := 750) (r := m) (as := [vI (H 0 ((i + 1).toNat)), vI (H 0 ((i + 2).toNat))]) (st := [vI z3344]) (lm_11_100) rfl rfl (Nat.le_of_ble_eq_true rfl) w3342 gm sh_42 (by decide) rfl (by decide) (u_249 (e := e8) (d := d8) w3342 gm ⟨by omega, by omega⟩ ⟨by omega, by omega⟩ (by omega) (by assumption) (by assumption) (by assumption) (by assumption) h3366 h3367) (fun R3368 T3369 H3370 p3371 => ?_))
    obtain ⟨e3372, w3374, f3375, z3376, e3373, b3377, p3378⟩ := p3371
    subst e3372
    subst e3373
    rcases p3378 with ⟨a3379, a3380, a3381, a3382⟩ | ⟨a3383, a3384, a3385, a3386⟩
    · show WL _ _ _ _ 750 [(4, vI i), (3, .ref o), (2, .ref m), (1, .ref x), (0, .ref 0)] [vI z3376, vI z3344] _ H3370
      refine wl_of hX hb cL_750 (rw_icmp_eq (p1 := 1653) (p2 := 753) (by decide) rfl ⟨b3345.1, b3345.2⟩ ⟨b3377.1, b3377.2⟩ (fun c3387 => ?_) (fun c3387 => ?_))
      · have k3388 : H3370 x 9 = H3338 x 9 := (f3375 x 9 _ gx rfl)
        have k3389 : H3370 m 6 = H3338 m 6 := (f3375 m 6 _ gm rfl)
        have k3390 : H3370 x 11 = H3338 x 11 := (f3375 x 11 _ gx rfl)
        have k3391 : H3370 m 13 = H3338 m 13 := (f3375 m 13 _ gm rfl)
        have k3392 : H3370 x 8 = H3338 x 8 := (f3375 x 8 _ gx rfl)
        have k3393 : H3370 m 3 = H3338 m 3 := (f3375 m 3 _ gm rfl)
        have k3394 : H3370 x 0 = H x 0 := ((f3375 x 0 _ gx rfl).trans (f3343 x 0 _ gx rfl))
        have q3395 : H3370 x 0 = (tc : Int) := k3394.trans e0
        have k3396 : H3370 m 5 = H m 5 := ((f3375 m 5 _ gm rfl).trans (f3343 m 5 _ gm rfl))
        have q3397 : H3370 m 5 = (tm : Int) := k3396.trans em
        have k3398 : H3370 x 6 = H x 6 := ((f3375 x 6 _ gx rfl).trans (f3343 x 6 _ gx rfl))
        have q3399 : H3370 x 6 = (cu : Int) := k3398.trans ecu
        have k3400 : H3370 x 7 = H x 7 := ((f3375 x 7 _ gx rfl).trans (f3343 x 7 _ gx rfl))
        have q3401 : H3370 x 7 = (dr : Int) := k3400.trans edr
        have h3402 : TP T H3370 tc B := (TP_fr w3342 gtc f3375 rfl (TP_fr hW gtc f3343 rfl htc))
        have h3403 : TM T H3370 tm B := (TM_fr w3342 gtm f3375 rfl (TM_fr hW gtm f3343 rfl htm))
        have h3404 : DD T H3370 cu  := (DD_fr w3342 gcu f3375 rfl (DD_fr hW gcu f3343 rfl hcu))
        have h3405 : DD T H3370 dr  := (DD_fr w3342 gdr f3375 rfl (DD_fr hW gdr f3343 rfl hdr))
        have h3406 : DE T H3370 cu  := (DE_fr w3342 gcu f3375 rfl (DE_fr hW gcu f3343 rfl hdec))
        have h3407 : DE T H3370 dr  := (DE_fr w3342 gdr f3375 rfl (DE_fr hW gdr f3343 rfl hded))
        have h3408 : SP T H3370 x C8 := (SP_fr w3342 gx f3375 rfl (SP_fr hW gx f3343 rfl hsp))
        have h3409 : CU T H3370 cu e8 d8 n8 := (CU_fr w3342 gcu f3375 rfl (CU_fr hW gcu f3343 rfl hcu8))
        have h3410 : CY T H3370 cu (d8 0 3) g8 (H cu 17) := (CY_fr w3342 gcu f3375 rfl (CY_fr hW gcu f3343 rfl h3331))
        have k3411 : H3370 x 3 = H x 3 := ((f3375 x 3 _ gx rfl).trans (f3343 x 3 _ gx rfl))
        have q3412 : H3370 x 3 = (ce8 : Int) := k3411.trans ece8
        have h3413 : CEN T H3370 ce8 e8 d8 := (CEN_fr w3342 gce8 f3375 rfl a3349)
        have h3414 : HDR T H3370 ce8  := (HDR_fr w3342 gce8 f3375 rfl (HDR_fr hW gce8 f3343 rfl hhdr8))
        have h3415 : RY T H3370 m (d8 0 3) g8 (H m 32) := (RY_fr w3342 gm f3375 rfl (RY_fr hW gm f3343 rfl h3332))
        have h3416 : RB T H3370 m e8 d8 := (RB_fr w3342 gm f3375 rfl h3366)
        exact WL.loc hX (by simp) (next T H3370 ⟨⟨w3374, g0, gx, gm, go, by omega, by omega⟩, ⟨_, tc, tm, cu, dr, _, _, _, _, _, ce8, q3395, gtc, h3402, q3397, gtm, h3403, q3399, gcu, q3401, gdr, h3404, h3405, h3406, h3407, h3408, hC1, hC2, h3409, h3416, (h3410).1, (h3415).1, hE, hZ, (by omega), (by assumption), (by omega), (by first | assumption | exact SG_0), q3412, gce8, h3413, h3414, a3382, gm⟩, by omega, by omega⟩ (by omega) (by omega))
      · exfalso
        omega
    · show WL _ _ _ _ 750 [(4, vI i), (3, .ref o), (2, .ref m), (1, .ref x), (0, .ref 0)] [vI z3376, vI z3344] _ H3370
      refine wl_of hX hb cL_750 (rw_icmp_eq (p1 := 1653) (p2 := 753) (by decide) rfl ⟨b3345.1, b3345.2⟩ ⟨b3377.1, b3377.2⟩ (fun c3417 => ?_) (fun c3417 => ?_))
      · have k3418 : H3370 x 9 = H3338 x 9 := (f3375 x 9 _ gx rfl)
        have k3419 : H3370 m 6 = H3338 m 6 := (f3375 m 6 _ gm rfl)
        have k3420 : H3370 x 11 = H3338 x 11 := (f3375 x 11 _ gx rfl)
        have k3421 : H3370 m 13 = H3338 m 13 := (f3375 m 13 _ gm rfl)
        have k3422 : H3370 x 8 = H3338 x 8 := (f3375 x 8 _ gx rfl)
        have k3423 : H3370 m 3 = H3338 m 3 := (f3375 m 3 _ gm rfl)
        have k3424 : H3370 x 0 = H x 0 := ((f3375 x 0 _ gx rfl).trans (f3343 x 0 _ gx rfl))
        have q3425 : H3370 x 0 = (tc : Int) := k3424.trans e0
        have k3426 : H3370 m 5 = H m 5 := ((f3375 m 5 _ gm rfl).trans (f3343 m 5 _ gm rfl))
        have q3427 : H3370 m 5 = (tm : Int) := k3426.trans em
        have k3428 : H3370 x 6 = H x 6 := ((f3375 x 6 _ gx rfl).trans (f3343 x 6 _ gx rfl))
        have q3429 : H3370 x 6 = (cu : Int) := k3428.trans ecu
        have k3430 : H3370 x 7 = H x 7 := ((f3375 x 7 _ gx rfl).trans (f3343 x 7 _ gx rfl))
        have q3431 : H3370 x 7 = (dr : Int) := k3430.trans edr
        have h3432 : TP T H3370 tc B := (TP_fr w3342 gtc f3375 rfl (TP_fr hW gtc f3343 rfl htc))
        have h3433 : TM T H3370 tm B := (TM_fr w3342 gtm f3375 rfl (TM_fr hW gtm f3343 rfl htm))
        have h3434 : DD T H3370 cu  := (DD_fr w3342 gcu f3375 rfl (DD_fr hW gcu f3343 rfl hcu))
        have h3435 : DD T H3370 dr  := (DD_fr w3342 gdr f3375 rfl (DD_fr hW gdr f3343 rfl hdr))
        have h3436 : DE T H3370 cu  := (DE_fr w3342 gcu f3375 rfl (DE_fr hW gcu f3343 rfl hdec))
        have h3437 : DE T H3370 dr  := (DE_fr w3342 gdr f3375 rfl (DE_fr hW gdr f3343 rfl hded))
        have h3438 : SP T H3370 x C8 := (SP_fr w3342 gx f3375 rfl (SP_fr hW gx f3343 rfl hsp))
        have h3439 : CU T H3370 cu e8 d8 n8 := (CU_fr w3342 gcu f3375 rfl (CU_fr hW gcu f3343 rfl hcu8))
        have h3440 : CY T H3370 cu (d8 0 3) g8 (H cu 17) := (CY_fr w3342 gcu f3375 rfl (CY_fr hW gcu f3343 rfl h3331))
        have k3441 : H3370 x 3 = H x 3 := ((f3375 x 3 _ gx rfl).trans (f3343 x 3 _ gx rfl))
        have q3442 : H3370 x 3 = (ce8 : Int) := k3441.trans ece8
        have h3443 : CEN T H3370 ce8 e8 d8 := (CEN_fr w3342 gce8 f3375 rfl a3349)
        have h3444 : HDR T H3370 ce8  := (HDR_fr w3342 gce8 f3375 rfl (HDR_fr hW gce8 f3343 rfl hhdr8))
        have h3445 : RY T H3370 m (d8 0 3) g8 (H m 32) := (RY_fr w3342 gm f3375 rfl (RY_fr hW gm f3343 rfl h3332))
        have h3446 : RB T H3370 m e8 d8 := (RB_fr w3342 gm f3375 rfl h3366)
        exact WL.loc hX (by simp) (next T H3370 ⟨⟨w3374, g0, gx, gm, go, by omega, by omega⟩, ⟨_, tc, tm, cu, dr, _, _, _, _, _, ce8, q3425, gtc, h3432, q3427, gtm, h3433, q3429, gcu, q3431, gdr, h3434, h3435, h3436, h3437, h3438, hC1, hC2, h3439, h3446, (h3440).1, (h3445).1, hE, hZ, (by omega), (by assumption), (by omega), (by first | assumption | exact SG_0), q3442, gce8, h3443, h3444, a3386, gm⟩, by omega, by omega⟩ (by omega) (by omega))
      · refine wl_of hX hb cL_753 (rw_iconst (pc' := 754) rfl ?_)
        exfalso
        omega
  · show WL _ _ _ _ 734 [(4, vI i), (3, .ref o), (2, .ref m), (1, .ref x), (0, .ref 0)] [vI z3344] _ H3338
    refine wl_of hX hb cL_734 (rw_aload_n (pc' := 735) (v := .ref m) rfl rfl rfl ?_)
    refine wl_of hX hb cL_735 (rw_aload_n (pc' := 736) (v := .ref 0) rfl rfl rfl ?_)
    refine wl_of hX hb cL_736 (rw_iload (pc' := 738) (z := i) rfl rfl ?_)
    refine wl_of hX hb cL_738 (rw_iconst (pc' := 739) rfl ?_)
    refine wl_of hX hb cL_739 (rw_iadd (pc' := 740) rfl ?_)
    have k3449 : H3338 0 ((i + 1).toNat) = H 0 ((i + 1).toNat) := (f3343 0 ((i + 1).toNat) _ g0 (wmem_s rfl))
    refine wl_of hX hb cL_740 (xa_I (so := 0) (pc' := 741) (a := 0) w3342 g0 (wsh_s _) (by omega) (wty_s _ _) (by omega) (by omega) rfl (fun b3447 b3448 => ?_))
    refine wl_of hX hb cL_741 (rw_aload_n (pc' := 742) (v := .ref 0) rfl rfl rfl ?_)
    refine wl_of hX hb cL_742 (rw_iload (pc' := 744) (z := i) rfl rfl ?_)
    refine wl_of hX hb cL_744 (rw_iconst (pc' := 745) rfl ?_)
    refine wl_of hX hb cL_745 (rw_iadd (pc' := 746) rfl ?_)
    have k3452 : H3338 0 ((i + 2).toNat) = H 0 ((i + 2).toNat) := (f3343 0 ((i + 2).toNat) _ g0 (wmem_s rfl))
    refine wl_of hX hb cL_746 (xa_I (so := 0) (pc' := 747) (a := 0) w3342 g0 (wsh_s _) (by omega) (wty_s _ _) (by omega) (by omega) rfl (fun b3450 b3451 => ?_))
    have k3453 : wKI H3338 m = wKI H m := (wKI_fr hW gm f3343 rfl)
    have k3454 : H3338 x 9 = H x 9 := (f3343 x 9 _ gx rfl)
    have k3455 : H3338 m 6 = H m 6 := (f3343 m 6 _ gm rfl)
    have k3456 : H3338 x 11 = H x 11 := (f3343 x 11 _ gx rfl)
    have k3457 : H3338 m 13 = H m 13 := (f3343 m 13 _ gm rfl)
    have k3458 : H3338 x 8 = H x 8 := (f3343 x 8 _ gx rfl)
    have k3459 : H3338 m 3 = H m 3 := (f3343 m 3 _ gm rfl)
    rw [show H3338 0 ((i + 2).toNat) = H 0 ((i + 2).toNat) by omega]
    rw [show H3338 0 ((i + 1).toNat) = H 0 ((i + 1).toNat) by omega]
    have h3460 : RB T H3338 m e8 d8 := (RB_fr hW gm f3343 rfl hrb8)
    have h3461 : KNN T H3338 m e8 d8 := (KNN_fr hW gm f3343 rfl hknn8)
    refine wl_of hX hb cL_747 (xc_V (pc' := 750) (r := m) (as := [vI (H 0 ((i + 1).toNat)), vI (H 0 ((i + 2).toNat))]) (st := [vI z3344]) (lm_11_100) rfl rfl (Nat.le_of_ble_eq_true rfl) w3342 gm sh_42 (by decide) rfl (by decide) (u_249 (e := e8) (d := d8) w3342 gm ⟨by omega, by omega⟩ ⟨by omega, by omega⟩ (by omega) (by assumption) (by assumption) (by assumption) (by assumption) h3460 h3461) (fun R3462 T3463 H3464 p3465 => ?_))
    obtain ⟨e3466, w3468, f3469, z3470, e3467, b3471, p3472⟩ := p3465
    subst e3466
    subst e3467
    rcases p3472 with ⟨a3473, a3474, a3475, a3476⟩ | ⟨a3477, a3478, a3479, a3480⟩
    · show WL _ _ _ _ 750 [(4, vI i), (3, .ref o), (2, .ref m), (1, .ref x), (0, .ref 0)] [vI z3470, vI z3344] _ H3464
      refine wl_of hX hb cL_750 (rw_icmp_eq (p1 := 1653) (p2 := 753) (by decide) rfl ⟨b3345.1, b3345.2⟩ ⟨b3471.1, b3471.2⟩ (fun c3481 => ?_) (fun c3481 => ?_))
      · have k3482 : H3464 x 9 = H3338 x 9 := (f3469 x 9 _ gx rfl)
        have k3483 : H3464 m 6 = H3338 m 6 := (f3469 m 6 _ gm rfl)
        have k3484 : H3464 x 11 = H3338 x 11 := (f3469 x 11 _ gx rfl)
        have k3485 : H3464 m 13 = H3338 m 13 := (f3469 m 13 _ gm rfl)
        have k3486 : H3464 x 8 = H3338 x 8 := (f3469 x 8 _ gx rfl)
        have k3487 : H3464 m 3 = H3338 m 3 := (f3469 m 3 _ gm rfl)
        have k3488 : H3464 x 0 = H x 0 := ((f3469 x 0 _ gx rfl).trans (f3343 x 0 _ gx rfl))
        have q3489 : H3464 x 0 = (tc : Int) := k3488.trans e0
        have k3490 : H3464 m 5 = H m 5 := ((f3469 m 5 _ gm rfl).trans (f3343 m 5 _ gm rfl))
        have q3491 : H3464 m 5 = (tm : Int) := k3490.trans em
        have k3492 : H3464 x 6 = H x 6 := ((f3469 x 6 _ gx rfl).trans (f3343 x 6 _ gx rfl))
        have q3493 : H3464 x 6 = (cu : Int) := k3492.trans ecu
        have k3494 : H3464 x 7 = H x 7 := ((f3469 x 7 _ gx rfl).trans (f3343 x 7 _ gx rfl))
        have q3495 : H3464 x 7 = (dr : Int) := k3494.trans edr
        have h3496 : TP T H3464 tc B := (TP_fr w3342 gtc f3469 rfl (TP_fr hW gtc f3343 rfl htc))
        have h3497 : TM T H3464 tm B := (TM_fr w3342 gtm f3469 rfl (TM_fr hW gtm f3343 rfl htm))
        have h3498 : DD T H3464 cu  := (DD_fr w3342 gcu f3469 rfl (DD_fr hW gcu f3343 rfl hcu))
        have h3499 : DD T H3464 dr  := (DD_fr w3342 gdr f3469 rfl (DD_fr hW gdr f3343 rfl hdr))
        have h3500 : DE T H3464 cu  := (DE_fr w3342 gcu f3469 rfl (DE_fr hW gcu f3343 rfl hdec))
        have h3501 : DE T H3464 dr  := (DE_fr w3342 gdr f3469 rfl (DE_fr hW gdr f3343 rfl hded))
        have h3502 : SP T H3464 x C8 := (SP_fr w3342 gx f3469 rfl (SP_fr hW gx f3343 rfl hsp))
        have h3503 : CU T H3464 cu e8 d8 n8 := (CU_fr w3342 gcu f3469 rfl (CU_fr hW gcu f3343 rfl hcu8))
        have h3504 : CY T H3464 cu (d8 0 3) g8 (H cu 17) := (CY_fr w3342 gcu f3469 rfl (CY_fr hW gcu f3343 rfl h3331))
        have k3505 : H3464 x 3 = H x 3 := ((f3469 x 3 _ gx rfl).trans (f3343 x 3 _ gx rfl))
        have q3506 : H3464 x 3 = (ce8 : Int) := k3505.trans ece8
        have h3507 : CEN T H3464 ce8 e8 d8 := (CEN_fr w3342 gce8 f3469 rfl a3352)
        have h3508 : HDR T H3464 ce8  := (HDR_fr w3342 gce8 f3469 rfl (HDR_fr hW gce8 f3343 rfl hhdr8))
        have h3509 : RY T H3464 m (d8 0 3) g8 (H m 32) := (RY_fr w3342 gm f3469 rfl (RY_fr hW gm f3343 rfl h3332))
        have h3510 : RB T H3464 m e8 d8 := (RB_fr w3342 gm f3469 rfl h3460)
        exact WL.loc hX (by simp) (next T H3464 ⟨⟨w3468, g0, gx, gm, go, by omega, by omega⟩, ⟨_, tc, tm, cu, dr, _, _, _, _, _, ce8, q3489, gtc, h3496, q3491, gtm, h3497, q3493, gcu, q3495, gdr, h3498, h3499, h3500, h3501, h3502, hC1, hC2, h3503, h3510, (h3504).1, (h3509).1, hE, hZ, (by omega), (by assumption), (by omega), (by first | assumption | exact SG_0), q3506, gce8, h3507, h3508, a3476, gm⟩, by omega, by omega⟩ (by omega) (by omega))
      · refine wl_of hX hb cL_753 (rw_iconst (pc' := 754) rfl ?_)
        exfalso
        omega
    · show WL _ _ _ _ 750 [(4, vI i), (3, .ref o), (2, .ref m), (1, .ref x), (0, .ref 0)] [vI z3470, vI z3344] _ H3464
      refine wl_of hX hb cL_750 (rw_icmp_eq (p1 := 1653) (p2 := 753) (by decide) rfl ⟨b3345.1, b3345.2⟩ ⟨b3471.1, b3471.2⟩ (fun c3511 => ?_) (fun c3511 => ?_))
      · have k3512 : H3464 x 9 = H3338 x 9 := (f3469 x 9 _ gx rfl)
        have k3513 : H3464 m 6 = H3338 m 6 := (f3469 m 6 _ gm rfl)
        have k3514 : H3464 x 11 = H3338 x 11 := (f3469 x 11 _ gx rfl)
        have k3515 : H3464 m 13 = H3338 m 13 := (f3469 m 13 _ gm rfl)
        have k3516 : H3464 x 8 = H3338 x 8 := (f3469 x 8 _ gx rfl)
        have k3517 : H3464 m 3 = H3338 m 3 := (f3469 m 3 _ gm rfl)
        have k3518 : H3464 x 0 = H x 0 := ((f3469 x 0 _ gx rfl).trans (f3343 x 0 _ gx rfl))
        have q3519 : H3464 x 0 = (tc : Int) := k3518.trans e0
        have k3520 : H3464 m 5 = H m 5 := ((f3469 m 5 _ gm rfl).trans (f3343 m 5 _ gm rfl))
        have q3521 : H3464 m 5 = (tm : Int) := k3520.trans em
        have k3522 : H3464 x 6 = H x 6 := ((f3469 x 6 _ gx rfl).trans (f3343 x 6 _ gx rfl))
        have q3523 : H3464 x 6 = (cu : Int) := k3522.trans ecu
        have k3524 : H3464 x 7 = H x 7 := ((f3469 x 7 _ gx rfl).trans (f3343 x 7 _ gx rfl))
        have q3525 : H3464 x 7 = (dr : Int) := k3524.trans edr
        have h3526 : TP T H3464 tc B := (TP_fr w3342 gtc f3469 rfl (TP_fr hW gtc f3343 rfl htc))
        have h3527 : TM T H3464 tm B := (TM_fr w3342 gtm f3469 rfl (TM_fr hW gtm f3343 rfl htm))
        have h3528 : DD T H3464 cu  := (DD_fr w3342 gcu f3469 rfl (DD_fr hW gcu f3343 rfl hcu))
        have h3529 : DD T H3464 dr  := (DD_fr w3342 gdr f3469 rfl (DD_fr hW gdr f3343 rfl hdr))
        have h3530 : DE T H3464 cu  := (DE_fr w3342 gcu f3469 rfl (DE_fr hW gcu f3343 rfl hdec))
        have h3531 : DE T H3464 dr  := (DE_fr w3342 gdr f3469 rfl (DE_fr hW gdr f3343 rfl hded))
        have h3532 : SP T H3464 x C8 := (SP_fr w3342 gx f3469 rfl (SP_fr hW gx f3343 rfl hsp))
        have h3533 : CU T H3464 cu e8 d8 n8 := (CU_fr w3342 gcu f3469 rfl (CU_fr hW gcu f3343 rfl hcu8))
        have h3534 : CY T H3464 cu (d8 0 3) g8 (H cu 17) := (CY_fr w3342 gcu f3469 rfl (CY_fr hW gcu f3343 rfl h3331))
        have k3535 : H3464 x 3 = H x 3 := ((f3469 x 3 _ gx rfl).trans (f3343 x 3 _ gx rfl))
        have q3536 : H3464 x 3 = (ce8 : Int) := k3535.trans ece8
        have h3537 : CEN T H3464 ce8 e8 d8 := (CEN_fr w3342 gce8 f3469 rfl a3352)
        have h3538 : HDR T H3464 ce8  := (HDR_fr w3342 gce8 f3469 rfl (HDR_fr hW gce8 f3343 rfl hhdr8))
        have h3539 : RY T H3464 m (d8 0 3) g8 (H m 32) := (RY_fr w3342 gm f3469 rfl (RY_fr hW gm f3343 rfl h3332))
        have h3540 : RB T H3464 m e8 d8 := (RB_fr w3342 gm f3469 rfl h3460)
        exact WL.loc hX (by simp) (next T H3464 ⟨⟨w3468, g0, gx, gm, go, by omega, by omega⟩, ⟨_, tc, tm, cu, dr, _, _, _, _, _, ce8, q3519, gtc, h3526, q3521, gtm, h3527, q3523, gcu, q3525, gdr, h3528, h3529, h3530, h3531, h3532, hC1, hC2, h3533, h3540, (h3534).1, (h3539).1, hE, hZ, (by omega), (by assumption), (by omega), (by first | assumption | exact SG_0), q3536, gce8, h3537, h3538, a3480, gm⟩, by omega, by omega⟩ (by omega) (by omega))
      · refine wl_of hX hb cL_753 (rw_iconst (pc' := 754) rfl ?_)
        exfalso
        omega
set_option maxHeartbeats 4000000 in
theorem wl_c19 {kt : Nat → Option mc_E} {CB SB : Nat} {X : mc_S → Prop} {T : wq_T} {H : wq_H} {Len x m o : Nat} {i : Int} (hX : wlX kt CB SB X) (hb : T.2.1 ≤ CB ∧ T.2.2.1 ≤ SB) (hI : wlJ Len x m o T H) (hL : Len ≤ 3072) (hi : 0 ≤ i ∧ i + 6 ≤ Len) (hb2 : T.2.1 + 20 ≤ CB ∧ T.2.2.1 + 500 ≤ SB)  (next : ∀ T' H', wlJ Len x m o T' H' → T'.2.1 ≤ T.2.1 + 20 → T'.2.2.1 ≤ T.2.2.1 + 500 → WL kt CB SB X 1653 (wlL i x m o) [] T' H') : WL kt CB SB X 755 (wlL i x m o) [] T H := by
  obtain ⟨⟨hW, g0, gx, gm, go, hK, hr⟩, hXI, hY1, hY2⟩ := hI
  refine wl_of hX hb cL_755 (rw_aload_n (pc' := 756) (v := .ref x) rfl rfl rfl ?_)
  refine wl_of hX hb cL_756 (rw_aload_n (pc' := 757) (v := .ref 0) rfl rfl rfl ?_)
  refine wl_of hX hb cL_757 (rw_iload (pc' := 759) (z := i) rfl rfl ?_)
  refine wl_of hX hb cL_759 (rw_iconst (pc' := 760) rfl ?_)
  refine wl_of hX hb cL_760 (rw_iadd (pc' := 761) rfl ?_)
  refine wl_of hX hb cL_761 (xa_I (so := 0) (pc' := 762) (a := 0) hW g0 (wsh_s _) (by omega) (wty_s _ _) (by omega) (by omega) rfl (fun b3541 b3542 => ?_))
  refine wl_of hX hb cL_762 (rw_aload_n (pc' := 763) (v := .ref 0) rfl rfl rfl ?_)
  refine wl_of hX hb cL_763 (rw_iload (pc' := 765) (z := i) rfl rfl ?_)
  refine wl_of hX hb cL_765 (rw_iconst (pc' := 766) rfl ?_)
  refine wl_of hX hb cL_766 (rw_iadd (pc' := 767) rfl ?_)
  refine wl_of hX hb cL_767 (xa_I (so := 0) (pc' := 768) (a := 0) hW g0 (wsh_s _) (by omega) (wty_s _ _) (by omega) (by omega) rfl (fun b3543 b3544 => ?_))
  obtain ⟨B, tc, tm, cu, dr, C8, e8, d8, n8, g8, ce8, e0, gtc, htc, em, gtm, htm, ecu, gcu, edr, gdr, hcu, hdr, hdec, hded, hsp, hC1, hC2, hcu8, hrb8, hcg8, hmn8, hE, hZ, hn8, hXA, hV8, hSG, ece8, gce8, hcen8, hhdr8, hknn8, -⟩ := hXI
  have hN3 := RB_n3 hrb8
  have hE13 : ∀ h : Nat, h < 24 → 0 ≤ e8 13 h ∧ e8 13 h ≤ 100 := fun k hk => by
    obtain ⟨s, h1, h2, h3⟩ := hcu8.1.2.2.1
    exact ⟨(h3 k hk).1, (h3 k hk).2.1⟩
  have hXW := hXA.1
  have hXN := hXA.2
  have hE0 : e8 0 3 = d8 0 3 ∧ e8 0 0 = d8 0 0 := by
    have h := hE 0 (by decide)
    exact ⟨congrFun h 3, congrFun h 0⟩
  have u3545 := CU_k hcu8
  have h3546 : CY T H cu (d8 0 3) g8 (H cu 17) := ⟨hcg8, rfl⟩
  have h3547 : RY T H m (d8 0 3) g8 (H m 32) := ⟨hmn8, rfl⟩
  obtain ⟨t9, ht9⟩ : ∃ t : Int, t = H x 9 := ⟨_, rfl⟩
  obtain ⟨y9, hy9⟩ : ∃ y : Int, y = H 0 ((i + 2).toNat) := ⟨_, rfl⟩
  obtain ⟨r3548, q3549, g3550⟩ := hW.ref gx (t' := 6) (n := 13) (j := 2) (p := 0) (q := 0) rfl (by decide) rfl
  refine wl_of hX hb cL_768 (xc_V (pc' := 771) (r := x) (as := [vI (H 0 ((i + 1).toNat)), vI (H 0 ((i + 2).toNat))]) (st := []) (lm_11_101) rfl rfl (Nat.le_of_ble_eq_true rfl) hW gx sh_1 (by decide) rfl (by decide) (u_99 (e := e8) (d := d8) (n := n8) hW gx ⟨by omega, by omega⟩ ⟨by omega, by omega⟩ ecu gcu q3549 g3550 ece8 gce8 (by assumption) (by assumption) (by omega) (by omega) (by omega) (by omega) hcu8 hcen8 hhdr8) (fun R3551 T3552 H3553 p3554 => ?_))
  obtain ⟨e3555, w3557, f3558, z3559, e3556, b3560, p3561⟩ := p3554
  subst e3555
  subst e3556
  show WL _ _ _ _ 771 [(4, vI i), (3, .ref o), (2, .ref m), (1, .ref x), (0, .ref 0)] [vI z3559] _ H3553
  refine wl_of hX hb cL_771 (rw_pop (pc' := 772) rfl rfl ?_)
  refine wl_of hX hb cL_772 (rw_aload_n (pc' := 773) (v := .ref m) rfl rfl rfl ?_)
  refine wl_of hX hb cL_773 (rw_aload_n (pc' := 774) (v := .ref 0) rfl rfl rfl ?_)
  refine wl_of hX hb cL_774 (rw_iload (pc' := 776) (z := i) rfl rfl ?_)
  refine wl_of hX hb cL_776 (rw_iconst (pc' := 777) rfl ?_)
  refine wl_of hX hb cL_777 (rw_iadd (pc' := 778) rfl ?_)
  have k3565 : H3553 0 ((i + 1).toNat) = H 0 ((i + 1).toNat) := (f3558 0 ((i + 1).toNat) _ g0 (wmem_s rfl))
  refine wl_of hX hb cL_778 (xa_I (so := 0) (pc' := 779) (a := 0) w3557 g0 (wsh_s _) (by omega) (wty_s _ _) (by omega) (by omega) rfl (fun b3563 b3564 => ?_))
  refine wl_of hX hb cL_779 (rw_aload_n (pc' := 780) (v := .ref 0) rfl rfl rfl ?_)
  refine wl_of hX hb cL_780 (rw_iload (pc' := 782) (z := i) rfl rfl ?_)
  refine wl_of hX hb cL_782 (rw_iconst (pc' := 783) rfl ?_)
  refine wl_of hX hb cL_783 (rw_iadd (pc' := 784) rfl ?_)
  have k3568 : H3553 0 ((i + 2).toNat) = H 0 ((i + 2).toNat) := (f3558 0 ((i + 2).toNat) _ g0 (wmem_s rfl))
  refine wl_of hX hb cL_784 (xa_I (so := 0) (pc' := 785) (a := 0) w3557 g0 (wsh_s _) (by omega) (wty_s _ _) (by omega) (by omega) rfl (fun b3566 b3567 => ?_))
  have k3569 : wKI H3553 m = wKI H m := (wKI_fr hW gm f3558 rfl)
  have k3570 : H3553 x 9 = H x 9 := (f3558 x 9 _ gx rfl)
  have k3571 : H3553 m 6 = H m 6 := (f3558 m 6 _ gm rfl)
  have k3572 : H3553 x 11 = H x 11 := (f3558 x 11 _ gx rfl)
  have k3573 : H3553 m 13 = H m 13 := (f3558 m 13 _ gm rfl)
  have k3574 : H3553 x 8 = H x 8 := (f3558 x 8 _ gx rfl)
  have k3575 : H3553 m 3 = H m 3 := (f3558 m 3 _ gm rfl)
  rw [show H3553 0 ((i + 2).toNat) = H 0 ((i + 2).toNat) by omega]
  rw [show H3553 0 ((i + 1).toNat) = H 0 ((i + 1).toNat) by omega]
  have h3576 : RB T H3553 m e8 d8 := (RB_fr hW gm f3558 rfl hrb8)
  have h3577 : KNN T H3553 m e8 d8 := (KNN_fr hW gm f3558 rfl hknn8)
  refine wl_of hX hb cL_785 (xc_V (pc' := 788) (r := m) (as := [vI (H 0 ((i + 1).toNat)), vI (H 0 ((i + 2).toNat))]) (st := []) (lm_11_104) rfl rfl (Nat.le_of_ble_eq_true rfl) w3557 gm sh_42 (by decide) rfl (by decide) (u_250 (e := e8) (d := d8) w3557 gm ⟨by omega, by omega⟩ ⟨by omega, by omega⟩ (by omega) (by assumption) (by assumption) (by assumption) (by assumption) h3576 h3577) (fun R3578 T3579 H3580 p3581 => ?_))
  obtain ⟨e3582, w3584, f3585, z3586, e3583, b3587, p3588⟩ := p3581
  subst e3582
  subst e3583
  obtain ⟨a3589, a3590⟩ := p3588
  show WL _ _ _ _ 788 [(4, vI i), (3, .ref o), (2, .ref m), (1, .ref x), (0, .ref 0)] [vI z3586] _ H3580
  refine wl_of hX hb cL_788 (rw_pop (pc' := 789) rfl rfl ?_)
  refine wl_of hX hb cL_789 (rw_goto (p1 := 1653) (by decide) ?_)
  have k3591 : H3580 x 9 = H3553 x 9 := (f3585 x 9 _ gx rfl)
  have k3592 : H3580 m 6 = H3553 m 6 := (f3585 m 6 _ gm rfl)
  have k3593 : H3580 x 11 = H3553 x 11 := (f3585 x 11 _ gx rfl)
  have k3594 : H3580 m 13 = H3553 m 13 := (f3585 m 13 _ gm rfl)
  have k3595 : H3580 x 8 = H3553 x 8 := (f3585 x 8 _ gx rfl)
  have k3596 : H3580 m 3 = H3553 m 3 := (f3585 m 3 _ gm rfl)
  have k3597 : H3580 x 0 = H x 0 := ((f3585 x 0 _ gx rfl).trans (f3558 x 0 _ gx rfl))
  have q3598 : H3580 x 0 = (tc : Int) := k3597.trans e0
  have k3599 : H3580 m 5 = H m 5 := ((f3585 m 5 _ gm rfl).trans (f3558 m 5 _ gm rfl))
  have q3600 : H3580 m 5 = (tm : Int) := k3599.trans em
  have k3601 : H3580 x 6 = H x 6 := ((f3585 x 6 _ gx rfl).trans (f3558 x 6 _ gx rfl))
  have q3602 : H3580 x 6 = (cu : Int) := k3601.trans ecu
  have k3603 : H3580 x 7 = H x 7 := ((f3585 x 7 _ gx rfl).trans (f3558 x 7 _ gx rfl))
  have q3604 : H3580 x 7 = (dr : Int) := k3603.trans edr
  have h3605 : TP T H3580 tc B := (TP_fr w3557 gtc f3585 rfl (TP_fr hW gtc f3558 rfl htc))
  have h3606 : TM T H3580 tm B := (TM_fr w3557 gtm f3585 rfl (TM_fr hW gtm f3558 rfl htm))
  have h3607 : DD T H3580 cu  := (DD_fr w3557 gcu f3585 rfl (DD_fr hW gcu f3558 rfl hcu))
  have h3608 : DD T H3580 dr  := (DD_fr w3557 gdr f3585 rfl (DD_fr hW gdr f3558 rfl hdr))
  have h3609 : DE T H3580 cu  := (DE_fr w3557 gcu f3585 rfl (DE_fr hW gcu f3558 rfl hdec))
  have h3610 : DE T H3580 dr  := (DE_fr w3557 gdr f3585 rfl (DE_fr hW gdr f3558 rfl hded))
  have h3611 : SP T H3580 x C8 := (SP_fr w3557 gx f3585 rfl (SP_fr hW gx f3558 rfl hsp))
  have h3612 : CU T H3580 cu e8 d8 n8 := (CU_fr w3557 gcu f3585 rfl (CU_fr hW gcu f3558 rfl hcu8))
  have h3613 : CY T H3580 cu (d8 0 3) g8 (H cu 17) := (CY_fr w3557 gcu f3585 rfl (CY_fr hW gcu f3558 rfl h3546))
  have k3614 : H3580 x 3 = H x 3 := ((f3585 x 3 _ gx rfl).trans (f3558 x 3 _ gx rfl))
  have q3615 : H3580 x 3 = (ce8 : Int) := k3614.trans ece8
  have h3616 : CEN T H3580 ce8 e8 d8 := (CEN_fr w3557 gce8 f3585 rfl p3561)
  have h3617 : HDR T H3580 ce8  := (HDR_fr w3557 gce8 f3585 rfl (HDR_fr hW gce8 f3558 rfl hhdr8))
  have h3618 : RY T H3580 m (d8 0 3) g8 (H m 32) := (RY_fr w3557 gm f3585 rfl (RY_fr hW gm f3558 rfl h3547))
  have h3619 : RB T H3580 m e8 d8 := (RB_fr w3557 gm f3585 rfl h3576)
  exact WL.loc hX (by simp) (next T H3580 ⟨⟨w3584, g0, gx, gm, go, by omega, by omega⟩, ⟨_, tc, tm, cu, dr, _, _, _, _, _, ce8, q3598, gtc, h3605, q3600, gtm, h3606, q3602, gcu, q3604, gdr, h3607, h3608, h3609, h3610, h3611, hC1, hC2, h3612, h3619, (h3613).1, (h3618).1, hE, hZ, (by omega), (by assumption), (by omega), (by first | assumption | exact SG_0), q3615, gce8, h3616, h3617, a3590, gm⟩, by omega, by omega⟩ (by omega) (by omega))
set_option maxHeartbeats 4000000 in
theorem wl_c20 {kt : Nat → Option mc_E} {CB SB : Nat} {X : mc_S → Prop} {T : wq_T} {H : wq_H} {Len x m o : Nat} {i : Int} (hX : wlX kt CB SB X) (hb : T.2.1 ≤ CB ∧ T.2.2.1 ≤ SB) (hI : wlJ Len x m o T H) (hL : Len ≤ 3072) (hi : 0 ≤ i ∧ i + 6 ≤ Len) (hb2 : T.2.1 + 20 ≤ CB ∧ T.2.2.1 + 500 ≤ SB)  (next : ∀ T' H', wlJ Len x m o T' H' → T'.2.1 ≤ T.2.1 + 20 → T'.2.2.1 ≤ T.2.2.1 + 500 → WL kt CB SB X 1653 (wlL i x m o) [] T' H') : WL kt CB SB X 792 (wlL i x m o) [] T H := by
  obtain ⟨⟨hW, g0, gx, gm, go, hK, hr⟩, hXI, hY1, hY2⟩ := hI
  refine wl_of hX hb cL_792 (rw_aload_n (pc' := 793) (v := .ref x) rfl rfl rfl ?_)
  refine wl_of hX hb cL_793 (rw_aload_n (pc' := 794) (v := .ref 0) rfl rfl rfl ?_)
  refine wl_of hX hb cL_794 (rw_iload (pc' := 796) (z := i) rfl rfl ?_)
  refine wl_of hX hb cL_796 (rw_iconst (pc' := 797) rfl ?_)
  refine wl_of hX hb cL_797 (rw_iadd (pc' := 798) rfl ?_)
  refine wl_of hX hb cL_798 (xa_I (so := 0) (pc' := 799) (a := 0) hW g0 (wsh_s _) (by omega) (wty_s _ _) (by omega) (by omega) rfl (fun b3620 b3621 => ?_))
  refine wl_of hX hb cL_799 (rw_aload_n (pc' := 800) (v := .ref 0) rfl rfl rfl ?_)
  refine wl_of hX hb cL_800 (rw_iload (pc' := 802) (z := i) rfl rfl ?_)
  refine wl_of hX hb cL_802 (rw_iconst (pc' := 803) rfl ?_)
  refine wl_of hX hb cL_803 (rw_iadd (pc' := 804) rfl ?_)
  refine wl_of hX hb cL_804 (xa_I (so := 0) (pc' := 805) (a := 0) hW g0 (wsh_s _) (by omega) (wty_s _ _) (by omega) (by omega) rfl (fun b3622 b3623 => ?_))
  obtain ⟨B, tc, tm, cu, dr, C8, e8, d8, n8, g8, ce8, e0, gtc, htc, em, gtm, htm, ecu, gcu, edr, gdr, hcu, hdr, hdec, hded, hsp, hC1, hC2, hcu8, hrb8, hcg8, hmn8, hE, hZ, hn8, hXA, hV8, hSG, ece8, gce8, hcen8, hhdr8, hknn8, -⟩ := hXI
  have hN3 := RB_n3 hrb8
  have hE13 : ∀ h : Nat, h < 24 → 0 ≤ e8 13 h ∧ e8 13 h ≤ 100 := fun k hk => by
    obtain ⟨s, h1, h2, h3⟩ := hcu8.1.2.2.1
    exact ⟨(h3 k hk).1, (h3 k hk).2.1⟩
  have hXW := hXA.1
  have hXN := hXA.2
  have hE0 : e8 0 3 = d8 0 3 ∧ e8 0 0 = d8 0 0 := by
    have h := hE 0 (by decide)
    exact ⟨congrFun h 3, congrFun h 0⟩
  have u3624 := CU_k hcu8
  have h3625 : CY T H cu (d8 0 3) g8 (H cu 17) := ⟨hcg8, rfl⟩
  have h3626 : RY T H m (d8 0 3) g8 (H m 32) := ⟨hmn8, rfl⟩
  obtain ⟨t9, ht9⟩ : ∃ t : Int, t = H x 9 := ⟨_, rfl⟩
  obtain ⟨y9, hy9⟩ : ∃ y : Int, y = H 0 ((i + 2).toNat) := ⟨_, rfl⟩
  obtain ⟨r3627, q3628, g3629⟩ := hW.ref gx (t' := 6) (n := 13) (j := 2) (p := 0) (q := 0) rfl (by decide) rfl
  refine wl_of hX hb cL_805 (xc_V (pc' := 808) (r := x) (as := [vI (H 0 ((i + 1).toNat)), vI (H 0 ((i + 2).toNat))]) (st := []) (lm_11_105) rfl rfl (Nat.le_of_ble_eq_true rfl) hW gx sh_1 (by decide) rfl (by decide) (u_101 (e := e8) (d := d8) (n := n8) hW gx ⟨by omega, by omega⟩ ⟨by omega, by omega⟩ ecu gcu q3628 g3629 ece8 gce8 (by assumption) (by assumption) (by omega) (by omega) (by omega) (by omega) hcu8 hcen8 hhdr8) (fun R3630 T3631 H3632 p3633 => ?_))
  obtain ⟨e3634, w3636, f3637, z3638, e3635, b3639, p3640⟩ := p3633
  subst e3634
  subst e3635
  show WL _ _ _ _ 808 [(4, vI i), (3, .ref o), (2, .ref m), (1, .ref x), (0, .ref 0)] [vI z3638] _ H3632
  refine wl_of hX hb cL_808 (rw_pop (pc' := 809) rfl rfl ?_)
  refine wl_of hX hb cL_809 (rw_aload_n (pc' := 810) (v := .ref m) rfl rfl rfl ?_)
  refine wl_of hX hb cL_810 (rw_aload_n (pc' := 811) (v := .ref 0) rfl rfl rfl ?_)
  refine wl_of hX hb cL_811 (rw_iload (pc' := 813) (z := i) rfl rfl ?_)
  refine wl_of hX hb cL_813 (rw_iconst (pc' := 814) rfl ?_)
  refine wl_of hX hb cL_814 (rw_iadd (pc' := 815) rfl ?_)
  have k3644 : H3632 0 ((i + 1).toNat) = H 0 ((i + 1).toNat) := (f3637 0 ((i + 1).toNat) _ g0 (wmem_s rfl))
  refine wl_of hX hb cL_815 (xa_I (so := 0) (pc' := 816) (a := 0) w3636 g0 (wsh_s _) (by omega) (wty_s _ _) (by omega) (by omega) rfl (fun b3642 b3643 => ?_))
  refine wl_of hX hb cL_816 (rw_aload_n (pc' := 817) (v := .ref 0) rfl rfl rfl ?_)
  refine wl_of hX hb cL_817 (rw_iload (pc' := 819) (z := i) rfl rfl ?_)
  refine wl_of hX hb cL_819 (rw_iconst (pc' := 820) rfl ?_)
  refine wl_of hX hb cL_820 (rw_iadd (pc' := 821) rfl ?_)
  have k3647 : H3632 0 ((i + 2).toNat) = H 0 ((i + 2).toNat) := (f3637 0 ((i + 2).toNat) _ g0 (wmem_s rfl))
  refine wl_of hX hb cL_821 (xa_I (so := 0) (pc' := 822) (a := 0) w3636 g0 (wsh_s _) (by omega) (wty_s _ _) (by omega) (by omega) rfl (fun b3645 b3646 => ?_))
  have k3648 : wKI H3632 m = wKI H m := (wKI_fr hW gm f3637 rfl)
  have k3649 : H3632 x 9 = H x 9 := (f3637 x 9 _ gx rfl)
  have k3650 : H3632 m 6 = H m 6 := (f3637 m 6 _ gm rfl)
  have k3651 : H3632 x 11 = H x 11 := (f3637 x 11 _ gx rfl)
  have k3652 : H3632 m 13 = H m 13 := (f3637 m 13 _ gm rfl)
  have k3653 : H3632 x 8 = H x 8 := (f3637 x 8 _ gx rfl)
  have k3654 : H3632 m 3 = H m 3 := (f3637 m 3 _ gm rfl)
  rw [show H3632 0 ((i + 2).toNat) = H 0 ((i + 2).toNat) by omega]
  rw [show H3632 0 ((i + 1).toNat) = H 0 ((i + 1).toNat) by omega]
  have h3655 : RB T H3632 m e8 d8 := (RB_fr hW gm f3637 rfl hrb8)
  have h3656 : KNN T H3632 m e8 d8 := (KNN_fr hW gm f3637 rfl hknn8)
  refine wl_of hX hb cL_822 (xc_V (pc' := 825) (r := m) (as := [vI (H 0 ((i + 1).toNat)), vI (H 0 ((i + 2).toNat))]) (st := []) (lm_11_108) rfl rfl (Nat.le_of_ble_eq_true rfl) w3636 gm sh_42 (by decide) rfl (by decide) (u_252 (e := e8) (d := d8) w3636 gm ⟨by omega, by omega⟩ ⟨by omega, by omega⟩ (by omega) (by assumption) (by assumption) (by assumption) (by assumption) h3655 h3656) (fun R3657 T3658 H3659 p3660 => ?_))
  obtain ⟨e3661, w3663, f3664, z3665, e3662, b3666, p3667⟩ := p3660
  subst e3661
  subst e3662
  obtain ⟨a3668, a3669⟩ := p3667
  show WL _ _ _ _ 825 [(4, vI i), (3, .ref o), (2, .ref m), (1, .ref x), (0, .ref 0)] [vI z3665] _ H3659
  refine wl_of hX hb cL_825 (rw_pop (pc' := 826) rfl rfl ?_)
  refine wl_of hX hb cL_826 (rw_goto (p1 := 1653) (by decide) ?_)
  have k3670 : H3659 x 9 = H3632 x 9 := (f3664 x 9 _ gx rfl)
  have k3671 : H3659 m 6 = H3632 m 6 := (f3664 m 6 _ gm rfl)
  have k3672 : H3659 x 11 = H3632 x 11 := (f3664 x 11 _ gx rfl)
  have k3673 : H3659 m 13 = H3632 m 13 := (f3664 m 13 _ gm rfl)
  have k3674 : H3659 x 8 = H3632 x 8 := (f3664 x 8 _ gx rfl)
  have k3675 : H3659 m 3 = H3632 m 3 := (f3664 m 3 _ gm rfl)
  have k3676 : H3659 x 0 = H x 0 := ((f3664 x 0 _ gx rfl).trans (f3637 x 0 _ gx rfl))
  have q3677 : H3659 x 0 = (tc : Int) := k3676.trans e0
  have k3678 : H3659 m 5 = H m 5 := ((f3664 m 5 _ gm rfl).trans (f3637 m 5 _ gm rfl))
  have q3679 : H3659 m 5 = (tm : Int) := k3678.trans em
  have k3680 : H3659 x 6 = H x 6 := ((f3664 x 6 _ gx rfl).trans (f3637 x 6 _ gx rfl))
  have q3681 : H3659 x 6 = (cu : Int) := k3680.trans ecu
  have k3682 : H3659 x 7 = H x 7 := ((f3664 x 7 _ gx rfl).trans (f3637 x 7 _ gx rfl))
  have q3683 : H3659 x 7 = (dr : Int) := k3682.trans edr
  have h3684 : TP T H3659 tc B := (TP_fr w3636 gtc f3664 rfl (TP_fr hW gtc f3637 rfl htc))
  have h3685 : TM T H3659 tm B := (TM_fr w3636 gtm f3664 rfl (TM_fr hW gtm f3637 rfl htm))
  have h3686 : DD T H3659 cu  := (DD_fr w3636 gcu f3664 rfl (DD_fr hW gcu f3637 rfl hcu))
  have h3687 : DD T H3659 dr  := (DD_fr w3636 gdr f3664 rfl (DD_fr hW gdr f3637 rfl hdr))
  have h3688 : DE T H3659 cu  := (DE_fr w3636 gcu f3664 rfl (DE_fr hW gcu f3637 rfl hdec))
  have h3689 : DE T H3659 dr  := (DE_fr w3636 gdr f3664 rfl (DE_fr hW gdr f3637 rfl hded))
  have h3690 : SP T H3659 x C8 := (SP_fr w3636 gx f3664 rfl (SP_fr hW gx f3637 rfl hsp))
  have h3691 : CU T H3659 cu e8 d8 n8 := (CU_fr w3636 gcu f3664 rfl (CU_fr hW gcu f3637 rfl hcu8))
  have h3692 : CY T H3659 cu (d8 0 3) g8 (H cu 17) := (CY_fr w3636 gcu f3664 rfl (CY_fr hW gcu f3637 rfl h3625))
  have k3693 : H3659 x 3 = H x 3 := ((f3664 x 3 _ gx rfl).trans (f3637 x 3 _ gx rfl))
  have q3694 : H3659 x 3 = (ce8 : Int) := k3693.trans ece8
  have h3695 : CEN T H3659 ce8 e8 d8 := (CEN_fr w3636 gce8 f3664 rfl p3640)
  have h3696 : HDR T H3659 ce8  := (HDR_fr w3636 gce8 f3664 rfl (HDR_fr hW gce8 f3637 rfl hhdr8))
  have h3697 : RY T H3659 m (d8 0 3) g8 (H m 32) := (RY_fr w3636 gm f3664 rfl (RY_fr hW gm f3637 rfl h3626))
  have h3698 : RB T H3659 m e8 d8 := (RB_fr w3636 gm f3664 rfl h3655)
  exact WL.loc hX (by simp) (next T H3659 ⟨⟨w3663, g0, gx, gm, go, by omega, by omega⟩, ⟨_, tc, tm, cu, dr, _, _, _, _, _, ce8, q3677, gtc, h3684, q3679, gtm, h3685, q3681, gcu, q3683, gdr, h3686, h3687, h3688, h3689, h3690, hC1, hC2, h3691, h3698, (h3692).1, (h3697).1, hE, hZ, (by omega), (by assumption), (by omega), (by first | assumption | exact SG_0), q3694, gce8, h3695, h3696, a3669, gm⟩, by omega, by omega⟩ (by omega) (by omega))
set_option maxHeartbeats 4000000 in
theorem wl_c21 {kt : Nat → Option mc_E} {CB SB : Nat} {X : mc_S → Prop} {T : wq_T} {H : wq_H} {Len x m o : Nat} {i : Int} (hX : wlX kt CB SB X) (hb : T.2.1 ≤ CB ∧ T.2.2.1 ≤ SB) (hI : wlJ Len x m o T H) (hL : Len ≤ 3072) (hi : 0 ≤ i ∧ i + 6 ≤ Len) (hb2 : T.2.1 + 20 ≤ CB ∧ T.2.2.1 + 500 ≤ SB)  (next : ∀ T' H', wlJ Len x m o T' H' → T'.2.1 ≤ T.2.1 + 20 → T'.2.2.1 ≤ T.2.2.1 + 500 → WL kt CB SB X 1653 (wlL i x m o) [] T' H') : WL kt CB SB X 829 (wlL i x m o) [] T H := by
  obtain ⟨⟨hW, g0, gx, gm, go, hK, hr⟩, hXI, hY1, hY2⟩ := hI
  refine wl_of hX hb cL_829 (rw_aload_n (pc' := 830) (v := .ref x) rfl rfl rfl ?_)
  refine wl_of hX hb cL_830 (rw_aload_n (pc' := 831) (v := .ref 0) rfl rfl rfl ?_)
  refine wl_of hX hb cL_831 (rw_iload (pc' := 833) (z := i) rfl rfl ?_)
  refine wl_of hX hb cL_833 (rw_iconst (pc' := 834) rfl ?_)
  refine wl_of hX hb cL_834 (rw_iadd (pc' := 835) rfl ?_)
  refine wl_of hX hb cL_835 (xa_I (so := 0) (pc' := 836) (a := 0) hW g0 (wsh_s _) (by omega) (wty_s _ _) (by omega) (by omega) rfl (fun b3699 b3700 => ?_))
  refine wl_of hX hb cL_836 (rw_aload_n (pc' := 837) (v := .ref 0) rfl rfl rfl ?_)
  refine wl_of hX hb cL_837 (rw_iload (pc' := 839) (z := i) rfl rfl ?_)
  refine wl_of hX hb cL_839 (rw_iconst (pc' := 840) rfl ?_)
  refine wl_of hX hb cL_840 (rw_iadd (pc' := 841) rfl ?_)
  refine wl_of hX hb cL_841 (xa_I (so := 0) (pc' := 842) (a := 0) hW g0 (wsh_s _) (by omega) (wty_s _ _) (by omega) (by omega) rfl (fun b3701 b3702 => ?_))
  refine wl_of hX hb cL_842 (rw_if_eq (p1 := 849) (p2 := 845) (by decide) rfl ⟨by omega, by omega⟩ (fun c3703 => ?_) (fun c3703 => ?_))
  · refine wl_of hX hb cL_849 (rw_iconst (pc' := 850) rfl ?_)
    obtain ⟨B, tc, tm, cu, dr, C8, e8, d8, n8, g8, ce8, e0, gtc, htc, em, gtm, htm, ecu, gcu, edr, gdr, hcu, hdr, hdec, hded, hsp, hC1, hC2, hcu8, hrb8, hcg8, hmn8, hE, hZ, hn8, hXA, hV8, hSG, ece8, gce8, hcen8, hhdr8, hknn8, -⟩ := hXI
    have hN3 := RB_n3 hrb8
    have hE13 : ∀ h : Nat, h < 24 → 0 ≤ e8 13 h ∧ e8 13 h ≤ 100 := fun k hk => by
      obtain ⟨s, h1, h2, h3⟩ := hcu8.1.2.2.1
      exact ⟨(h3 k hk).1, (h3 k hk).2.1⟩
    have hXW := hXA.1
    have hXN := hXA.2
    have hE0 : e8 0 3 = d8 0 3 ∧ e8 0 0 = d8 0 0 := by
      have h := hE 0 (by decide)
      exact ⟨congrFun h 3, congrFun h 0⟩
    have u3704 := CU_k hcu8
    have h3705 : CY T H cu (d8 0 3) g8 (H cu 17) := ⟨hcg8, rfl⟩
    have h3706 : RY T H m (d8 0 3) g8 (H m 32) := ⟨hmn8, rfl⟩
    obtain ⟨t9, ht9⟩ : ∃ t : Int, t = H x 9 := ⟨_, rfl⟩
    obtain ⟨y9, hy9⟩ : ∃ y : Int, y = 0 := ⟨_, rfl⟩
    obtain ⟨r3707, q3708, g3709⟩ := hW.ref gx (t' := 6) (n := 13) (j := 2) (p := 0) (q := 0) rfl (by decide) rfl
    refine wl_of hX hb cL_850 (xc_V (pc' := 853) (r := x) (as := [vI (H 0 ((i + 1).toNat)), vI 0]) (st := []) (lm_11_109) rfl rfl (Nat.le_of_ble_eq_true rfl) hW gx sh_1 (by decide) rfl (by decide) (u_104 (e := e8) (d := d8) (n := n8) hW gx ⟨by omega, by omega⟩ ⟨by decide, by decide⟩ ecu gcu q3708 g3709 ece8 gce8 (by assumption) (by assumption) (by omega) (by omega) (by omega) (by omega) hcu8 hcen8 hhdr8) (fun R3710 T3711 H3712 p3713 => ?_))
    obtain ⟨e3714, w3716, f3717, z3718, e3715, b3719, p3720⟩ := p3713
    subst e3714
    subst e3715
    show WL _ _ _ _ 853 [(4, vI i), (3, .ref o), (2, .ref m), (1, .ref x), (0, .ref 0)] [vI z3718] _ H3712
    refine wl_of hX hb cL_853 (rw_pop (pc' := 854) rfl rfl ?_)
    refine wl_of hX hb cL_854 (rw_aload_n (pc' := 855) (v := .ref m) rfl rfl rfl ?_)
    refine wl_of hX hb cL_855 (rw_aload_n (pc' := 856) (v := .ref 0) rfl rfl rfl ?_)
    refine wl_of hX hb cL_856 (rw_iload (pc' := 858) (z := i) rfl rfl ?_)
    refine wl_of hX hb cL_858 (rw_iconst (pc' := 859) rfl ?_)
    refine wl_of hX hb cL_859 (rw_iadd (pc' := 860) rfl ?_)
    have k3724 : H3712 0 ((i + 1).toNat) = H 0 ((i + 1).toNat) := (f3717 0 ((i + 1).toNat) _ g0 (wmem_s rfl))
    refine wl_of hX hb cL_860 (xa_I (so := 0) (pc' := 861) (a := 0) w3716 g0 (wsh_s _) (by omega) (wty_s _ _) (by omega) (by omega) rfl (fun b3722 b3723 => ?_))
    refine wl_of hX hb cL_861 (rw_aload_n (pc' := 862) (v := .ref 0) rfl rfl rfl ?_)
    refine wl_of hX hb cL_862 (rw_iload (pc' := 864) (z := i) rfl rfl ?_)
    refine wl_of hX hb cL_864 (rw_iconst (pc' := 865) rfl ?_)
    refine wl_of hX hb cL_865 (rw_iadd (pc' := 866) rfl ?_)
    have k3727 : H3712 0 ((i + 2).toNat) = H 0 ((i + 2).toNat) := (f3717 0 ((i + 2).toNat) _ g0 (wmem_s rfl))
    refine wl_of hX hb cL_866 (xa_I (so := 0) (pc' := 867) (a := 0) w3716 g0 (wsh_s _) (by omega) (wty_s _ _) (by omega) (by omega) rfl (fun b3725 b3726 => ?_))
    refine wl_of hX hb cL_867 (rw_if_eq (p1 := 874) (p2 := 870) (by decide) rfl ⟨by omega, by omega⟩ (fun c3728 => ?_) (fun c3728 => ?_))
    · refine wl_of hX hb cL_874 (rw_iconst (pc' := 875) rfl ?_)
      have k3729 : wKI H3712 m = wKI H m := (wKI_fr hW gm f3717 rfl)
      have k3730 : H3712 x 9 = H x 9 := (f3717 x 9 _ gx rfl)
      have k3731 : H3712 m 6 = H m 6 := (f3717 m 6 _ gm rfl)
      have k3732 : H3712 x 11 = H x 11 := (f3717 x 11 _ gx rfl)
      have k3733 : H3712 m 13 = H m 13 := (f3717 m 13 _ gm rfl)
      have k3734 : H3712 x 8 = H x 8 := (f3717 x 8 _ gx rfl)
      have k3735 : H3712 m 3 = H m 3 := (f3717 m 3 _ gm rfl)
      rw [show H3712 0 ((i + 1).toNat) = H 0 ((i + 1).toNat) by omega]
      have h3736 : RB T H3712 m e8 d8 := (RB_fr hW gm f3717 rfl hrb8)
      have h3737 : KNN T H3712 m e8 d8 := (KNN_fr hW gm f3717 rfl hknn8)
      refine wl_of hX hb cL_875 (xc_V (pc' := 878) (r := m) (as := [vI (H 0 ((i + 1).toNat)), vI 0]) (st := []) (lm_11_113) rfl rfl (Nat.le_of_ble_eq_true rfl) w3716 gm sh_42 (by decide) rfl (by decide) (u_254 (e := e8) (d := d8) w3716 gm ⟨by omega, by omega⟩ ⟨by decide, by decide⟩ (by omega) (by assumption) (by assumption) (by assumption) (by assumption) h3736 h3737) (fun R3738 T3739 H3740 p3741 => ?_))
      obtain ⟨e3742, w3744, f3745, z3746, e3743, b3747, p3748⟩ := p3741
      subst e3742
      subst e3743
      obtain ⟨a3749, a3750⟩ := p3748
      show WL _ _ _ _ 878 [(4, vI i), (3, .ref o), (2, .ref m), (1, .ref x), (0, .ref 0)] [vI z3746] _ H3740
      refine wl_of hX hb cL_878 (rw_pop (pc' := 879) rfl rfl ?_)
      refine wl_of hX hb cL_879 (rw_goto (p1 := 1653) (by decide) ?_)
      have k3751 : H3740 x 9 = H3712 x 9 := (f3745 x 9 _ gx rfl)
      have k3752 : H3740 m 6 = H3712 m 6 := (f3745 m 6 _ gm rfl)
      have k3753 : H3740 x 11 = H3712 x 11 := (f3745 x 11 _ gx rfl)
      have k3754 : H3740 m 13 = H3712 m 13 := (f3745 m 13 _ gm rfl)
      have k3755 : H3740 x 8 = H3712 x 8 := (f3745 x 8 _ gx rfl)
      have k3756 : H3740 m 3 = H3712 m 3 := (f3745 m 3 _ gm rfl)
      have k3757 : H3740 x 0 = H x 0 := ((f3745 x 0 _ gx rfl).trans (f3717 x 0 _ gx rfl))
      have q3758 : H3740 x 0 = (tc : Int) := k3757.trans e0
      have k3759 : H3740 m 5 = H m 5 := ((f3745 m 5 _ gm rfl).trans (f3717 m 5 _ gm rfl))
      have q3760 : H3740 m 5 = (tm : Int) := k3759.trans em
      have k3761 : H3740 x 6 = H x 6 := ((f3745 x 6 _ gx rfl).trans (f3717 x 6 _ gx rfl))
      have q3762 : H3740 x 6 = (cu : Int) := k3761.trans ecu
      have k3763 : H3740 x 7 = H x 7 := ((f3745 x 7 _ gx rfl).trans (f3717 x 7 _ gx rfl))
      have q3764 : H3740 x 7 = (dr : Int) := k3763.trans edr
      have h3765 : TP T H3740 tc B := (TP_fr w3716 gtc f3745 rfl (TP_fr hW gtc f3717 rfl htc))
      have h3766 : TM T H3740 tm B := (TM_fr w3716 gtm f3745 rfl (TM_fr hW gtm f3717 rfl htm))
      have h3767 : DD T H3740 cu  := (DD_fr w3716 gcu f3745 rfl (DD_fr hW gcu f3717 rfl hcu))
      have h3768 : DD T H3740 dr  := (DD_fr w3716 gdr f3745 rfl (DD_fr hW gdr f3717 rfl hdr))
      have h3769 : DE T H3740 cu  := (DE_fr w3716 gcu f3745 rfl (DE_fr hW gcu f3717 rfl hdec))
      have h3770 : DE T H3740 dr  := (DE_fr w3716 gdr f3745 rfl (DE_fr hW gdr f3717 rfl hded))
      have h3771 : SP T H3740 x C8 := (SP_fr w3716 gx f3745 rfl (SP_fr hW gx f3717 rfl hsp))
      have h3772 : CU T H3740 cu e8 d8 n8 := (CU_fr w3716 gcu f3745 rfl (CU_fr hW gcu f3717 rfl hcu8))
      have h3773 : CY T H3740 cu (d8 0 3) g8 (H cu 17) := (CY_fr w3716 gcu f3745 rfl (CY_fr hW gcu f3717 rfl h3705))
      have k3774 : H3740 x 3 = H x 3 := ((f3745 x 3 _ gx rfl).trans (f3717 x 3 _ gx rfl))
      have q3775 : H3740 x 3 = (ce8 : Int) := k3774.trans ece8
      have h3776 : CEN T H3740 ce8 e8 d8 := (CEN_fr w3716 gce8 f3745 rfl p3720)
      have h3777 : HDR T H3740 ce8  := (HDR_fr w3716 gce8 f3745 rfl (HDR_fr hW gce8 f3717 rfl hhdr8))
      have h3778 : RY T H3740 m (d8 0 3) g8 (H m 32) := (RY_fr w3716 gm f3745 rfl (RY_fr hW gm f3717 rfl h3706))
      have h3779 : RB T H3740 m e8 d8 := (RB_fr w3716 gm f3745 rfl h3736)
      exact WL.loc hX (by simp) (next T H3740 ⟨⟨w3744, g0, gx, gm, go, by omega, by omega⟩, ⟨_, tc, tm, cu, dr, _, _, _, _, _, ce8, q3758, gtc, h3765, q3760, gtm, h3766, q3762, gcu, q3764, gdr, h3767, h3768, h3769, h3770, h3771, hC1, hC2, h3772, h3779, (h3773).1, (h3778).1, hE, hZ, (by omega), (by assumption), (by omega), (by first | assumption | exact SG_0), q3775, gce8, h3776, h3777, a3750, gm⟩, by omega, by omega⟩ (by omega) (by omega))
    · exfalso
      omega
  · refine wl_of hX hb cL_845 (rw_iconst (pc' := 846) rfl ?_)
    refine wl_of hX hb cL_846 (rw_goto (p1 := 850) (by decide) ?_)
    obtain ⟨B, tc, tm, cu, dr, C8, e8, d8, n8, g8, ce8, e0, gtc, htc, em, gtm, htm, ecu, gcu, edr, gdr, hcu, hdr, hdec, hded, hsp, hC1, hC2, hcu8, hrb8, hcg8, hmn8, hE, hZ, hn8, hXA, hV8, hSG, ece8, gce8, hcen8, hhdr8, hknn8, -⟩ := hXI
    have hN3 := RB_n3 hrb8
    have hE13 : ∀ h : Nat, h < 24 → 0 ≤ e8 13 h ∧ e8 13 h ≤ 100 := fun k hk => by
      obtain ⟨s, h1, h2, h3⟩ := hcu8.1.2.2.1
      exact ⟨(h3 k hk).1, (h3 k hk).2.1⟩
    have hXW := hXA.1
    have hXN := hXA.2
    have hE0 : e8 0 3 = d8 0 3 ∧ e8 0 0 = d8 0 0 := by
      have h := hE 0 (by decide)
      exact ⟨congrFun h 3, congrFun h 0⟩
    have u3780 := CU_k hcu8
    have h3781 : CY T H cu (d8 0 3) g8 (H cu 17) := ⟨hcg8, rfl⟩
    have h3782 : RY T H m (d8 0 3) g8 (H m 32) := ⟨hmn8, rfl⟩
    obtain ⟨t9, ht9⟩ : ∃ t : Int, t = H x 9 := ⟨_, rfl⟩
    obtain ⟨y9, hy9⟩ : ∃ y : Int, y = 1 := ⟨_, rfl⟩
    obtain ⟨r3783, q3784, g3785⟩ := hW.ref gx (t' := 6) (n := 13) (j := 2) (p := 0) (q := 0) rfl (by decide) rfl
    refine wl_of hX hb cL_850 (xc_V (pc' := 853) (r := x) (as := [vI (H 0 ((i + 1).toNat)), vI 1]) (st := []) (lm_11_109) rfl rfl (Nat.le_of_ble_eq_true rfl) hW gx sh_1 (by decide) rfl (by decide) (u_104 (e := e8) (d := d8) (n := n8) hW gx ⟨by omega, by omega⟩ ⟨by decide, by decide⟩ ecu gcu q3784 g3785 ece8 gce8 (by assumption) (by assumption) (by omega) (by omega) (by omega) (by omega) hcu8 hcen8 hhdr8) (fun R3786 T3787 H3788 p3789 => ?_))
    obtain ⟨e3790, w3792, f3793, z3794, e3791, b3795, p3796⟩ := p3789
    subst e3790
    subst e3791
    show WL _ _ _ _ 853 [(4, vI i), (3, .ref o), (2, .ref m), (1, .ref x), (0, .ref 0)] [vI z3794] _ H3788
    refine wl_of hX hb cL_853 (rw_pop (pc' := 854) rfl rfl ?_)
    refine wl_of hX hb cL_854 (rw_aload_n (pc' := 855) (v := .ref m) rfl rfl rfl ?_)
    refine wl_of hX hb cL_855 (rw_aload_n (pc' := 856) (v := .ref 0) rfl rfl rfl ?_)
    refine wl_of hX hb cL_856 (rw_iload (pc' := 858) (z := i) rfl rfl ?_)
    refine wl_of hX hb cL_858 (rw_iconst (pc' := 859) rfl ?_)
    refine wl_of hX hb cL_859 (rw_iadd (pc' := 860) rfl ?_)
    have k3800 : H3788 0 ((i + 1).toNat) = H 0 ((i + 1).toNat) := (f3793 0 ((i + 1).toNat) _ g0 (wmem_s rfl))
    refine wl_of hX hb cL_860 (xa_I (so := 0) (pc' := 861) (a := 0) w3792 g0 (wsh_s _) (by omega) (wty_s _ _) (by omega) (by omega) rfl (fun b3798 b3799 => ?_))
    refine wl_of hX hb cL_861 (rw_aload_n (pc' := 862) (v := .ref 0) rfl rfl rfl ?_)
    refine wl_of hX hb cL_862 (rw_iload (pc' := 864) (z := i) rfl rfl ?_)
    refine wl_of hX hb cL_864 (rw_iconst (pc' := 865) rfl ?_)
    refine wl_of hX hb cL_865 (rw_iadd (pc' := 866) rfl ?_)
    have k3803 : H3788 0 ((i + 2).toNat) = H 0 ((i + 2).toNat) := (f3793 0 ((i + 2).toNat) _ g0 (wmem_s rfl))
    refine wl_of hX hb cL_866 (xa_I (so := 0) (pc' := 867) (a := 0) w3792 g0 (wsh_s _) (by omega) (wty_s _ _) (by omega) (by omega) rfl (fun b3801 b3802 => ?_))
    refine wl_of hX hb cL_867 (rw_if_eq (p1 := 874) (p2 := 870) (by decide) rfl ⟨by omega, by omega⟩ (fun c3804 => ?_) (fun c3804 => ?_))
    · refine wl_of hX hb cL_874 (rw_iconst (pc' := 875) rfl ?_)
      have k3805 : wKI H3788 m = wKI H m := (wKI_fr hW gm f3793 rfl)
      have k3806 : H3788 x 9 = H x 9 := (f3793 x 9 _ gx rfl)
      have k3807 : H3788 m 6 = H m 6 := (f3793 m 6 _ gm rfl)
      have k3808 : H3788 x 11 = H x 11 := (f3793 x 11 _ gx rfl)
      have k3809 : H3788 m 13 = H m 13 := (f3793 m 13 _ gm rfl)
      have k3810 : H3788 x 8 = H x 8 := (f3793 x 8 _ gx rfl)
      have k3811 : H3788 m 3 = H m 3 := (f3793 m 3 _ gm rfl)
      rw [show H3788 0 ((i + 1).toNat) = H 0 ((i + 1).toNat) by omega]
      have h3812 : RB T H3788 m e8 d8 := (RB_fr hW gm f3793 rfl hrb8)
      have h3813 : KNN T H3788 m e8 d8 := (KNN_fr hW gm f3793 rfl hknn8)
      refine wl_of hX hb cL_875 (xc_V (pc' := 878) (r := m) (as := [vI (H 0 ((i + 1).toNat)), vI 0]) (st := []) (lm_11_113) rfl rfl (Nat.le_of_ble_eq_true rfl) w3792 gm sh_42 (by decide) rfl (by decide) (u_254 (e := e8) (d := d8) w3792 gm ⟨by omega, by omega⟩ ⟨by decide, by decide⟩ (by omega) (by assumption) (by assumption) (by assumption) (by assumption) h3812 h3813) (fun R3814 T3815 H3816 p3817 => ?_))
      obtain ⟨e3818, w3820, f3821, z3822, e3819, b3823, p3824⟩ := p3817
      subst e3818
      subst e3819
      obtain ⟨a3825, a3826⟩ := p3824
      show WL _ _ _ _ 878 [(4, vI i), (3, .ref o), (2, .ref m), (1, .ref x), (0, .ref 0)] [vI z3822] _ H3816
      refine wl_of hX hb cL_878 (rw_pop (pc' := 879) rfl rfl ?_)
      refine wl_of hX hb cL_879 (rw_goto (p1 := 1653) (by decide) ?_)
      have k3827 : H3816 x 9 = H3788 x 9 := (f3821 x 9 _ gx rfl)
      have k3828 : H3816 m 6 = H3788 m 6 := (f3821 m 6 _ gm rfl)
      have k3829 : H3816 x 11 = H3788 x 11 := (f3821 x 11 _ gx rfl)
      have k3830 : H3816 m 13 = H3788 m 13 := (f3821 m 13 _ gm rfl)
      have k3831 : H3816 x 8 = H3788 x 8 := (f3821 x 8 _ gx rfl)
      have k3832 : H3816 m 3 = H3788 m 3 := (f3821 m 3 _ gm rfl)
      have k3833 : H3816 x 0 = H x 0 := ((f3821 x 0 _ gx rfl).trans (f3793 x 0 _ gx rfl))
      have q3834 : H3816 x 0 = (tc : Int) := k3833.trans e0
      have k3835 : H3816 m 5 = H m 5 := ((f3821 m 5 _ gm rfl).trans (f3793 m 5 _ gm rfl))
      have q3836 : H3816 m 5 = (tm : Int) := k3835.trans em
      have k3837 : H3816 x 6 = H x 6 := ((f3821 x 6 _ gx rfl).trans (f3793 x 6 _ gx rfl))
      have q3838 : H3816 x 6 = (cu : Int) := k3837.trans ecu
      have k3839 : H3816 x 7 = H x 7 := ((f3821 x 7 _ gx rfl).trans (f3793 x 7 _ gx rfl))
      have q3840 : H3816 x 7 = (dr : Int) := k3839.trans edr
      have h3841 : TP T H3816 tc B := (TP_fr w3792 gtc f3821 rfl (TP_fr hW gtc f3793 rfl htc))
      have h3842 : TM T H3816 tm B := (TM_fr w3792 gtm f3821 rfl (TM_fr hW gtm f3793 rfl htm))
      have h3843 : DD T H3816 cu  := (DD_fr w3792 gcu f3821 rfl (DD_fr hW gcu f3793 rfl hcu))
      have h3844 : DD T H3816 dr  := (DD_fr w3792 gdr f3821 rfl (DD_fr hW gdr f3793 rfl hdr))
      have h3845 : DE T H3816 cu  := (DE_fr w3792 gcu f3821 rfl (DE_fr hW gcu f3793 rfl hdec))
      have h3846 : DE T H3816 dr  := (DE_fr w3792 gdr f3821 rfl (DE_fr hW gdr f3793 rfl hded))
      have h3847 : SP T H3816 x C8 := (SP_fr w3792 gx f3821 rfl (SP_fr hW gx f3793 rfl hsp))
      have h3848 : CU T H3816 cu e8 d8 n8 := (CU_fr w3792 gcu f3821 rfl (CU_fr hW gcu f3793 rfl hcu8))
      have h3849 : CY T H3816 cu (d8 0 3) g8 (H cu 17) := (CY_fr w3792 gcu f3821 rfl (CY_fr hW gcu f3793 rfl h3781))
      have k3850 : H3816 x 3 = H x 3 := ((f3821 x 3 _ gx rfl).trans (f3793 x 3 _ gx rfl))
      have q3851 : H3816 x 3 = (ce8 : Int) := k3850.trans ece8
      have h3852 : CEN T H3816 ce8 e8 d8 := (CEN_fr w3792 gce8 f3821 rfl p3796)
      have h3853 : HDR T H3816 ce8  := (HDR_fr w3792 gce8 f3821 rfl (HDR_fr hW gce8 f3793 rfl hhdr8))
      have h3854 : RY T H3816 m (d8 0 3) g8 (H m 32) := (RY_fr w3792 gm f3821 rfl (RY_fr hW gm f3793 rfl h3782))
      have h3855 : RB T H3816 m e8 d8 := (RB_fr w3792 gm f3821 rfl h3812)
      exact WL.loc hX (by simp) (next T H3816 ⟨⟨w3820, g0, gx, gm, go, by omega, by omega⟩, ⟨_, tc, tm, cu, dr, _, _, _, _, _, ce8, q3834, gtc, h3841, q3836, gtm, h3842, q3838, gcu, q3840, gdr, h3843, h3844, h3845, h3846, h3847, hC1, hC2, h3848, h3855, (h3849).1, (h3854).1, hE, hZ, (by omega), (by assumption), (by omega), (by first | assumption | exact SG_0), q3851, gce8, h3852, h3853, a3826, gm⟩, by omega, by omega⟩ (by omega) (by omega))
    · refine wl_of hX hb cL_870 (rw_iconst (pc' := 871) rfl ?_)
      refine wl_of hX hb cL_871 (rw_goto (p1 := 875) (by decide) ?_)
      have k3856 : wKI H3788 m = wKI H m := (wKI_fr hW gm f3793 rfl)
      have k3857 : H3788 x 9 = H x 9 := (f3793 x 9 _ gx rfl)
      have k3858 : H3788 m 6 = H m 6 := (f3793 m 6 _ gm rfl)
      have k3859 : H3788 x 11 = H x 11 := (f3793 x 11 _ gx rfl)
      have k3860 : H3788 m 13 = H m 13 := (f3793 m 13 _ gm rfl)
      have k3861 : H3788 x 8 = H x 8 := (f3793 x 8 _ gx rfl)
      have k3862 : H3788 m 3 = H m 3 := (f3793 m 3 _ gm rfl)
      rw [show H3788 0 ((i + 1).toNat) = H 0 ((i + 1).toNat) by omega]
      have h3863 : RB T H3788 m e8 d8 := (RB_fr hW gm f3793 rfl hrb8)
      have h3864 : KNN T H3788 m e8 d8 := (KNN_fr hW gm f3793 rfl hknn8)
      refine wl_of hX hb cL_875 (xc_V (pc' := 878) (r := m) (as := [vI (H 0 ((i + 1).toNat)), vI 1]) (st := []) (lm_11_113) rfl rfl (Nat.le_of_ble_eq_true rfl) w3792 gm sh_42 (by decide) rfl (by decide) (u_254 (e := e8) (d := d8) w3792 gm ⟨by omega, by omega⟩ ⟨by decide, by decide⟩ (by omega) (by assumption) (by assumption) (by assumption) (by assumption) h3863 h3864) (fun R3865 T3866 H3867 p3868 => ?_))
      obtain ⟨e3869, w3871, f3872, z3873, e3870, b3874, p3875⟩ := p3868
      subst e3869
      subst e3870
      obtain ⟨a3876, a3877⟩ := p3875
      show WL _ _ _ _ 878 [(4, vI i), (3, .ref o), (2, .ref m), (1, .ref x), (0, .ref 0)] [vI z3873] _ H3867
      refine wl_of hX hb cL_878 (rw_pop (pc' := 879) rfl rfl ?_)
      refine wl_of hX hb cL_879 (rw_goto (p1 := 1653) (by decide) ?_)
      have k3878 : H3867 x 9 = H3788 x 9 := (f3872 x 9 _ gx rfl)
      have k3879 : H3867 m 6 = H3788 m 6 := (f3872 m 6 _ gm rfl)
      have k3880 : H3867 x 11 = H3788 x 11 := (f3872 x 11 _ gx rfl)
      have k3881 : H3867 m 13 = H3788 m 13 := (f3872 m 13 _ gm rfl)
      have k3882 : H3867 x 8 = H3788 x 8 := (f3872 x 8 _ gx rfl)
      have k3883 : H3867 m 3 = H3788 m 3 := (f3872 m 3 _ gm rfl)
      have k3884 : H3867 x 0 = H x 0 := ((f3872 x 0 _ gx rfl).trans (f3793 x 0 _ gx rfl))
      have q3885 : H3867 x 0 = (tc : Int) := k3884.trans e0
      have k3886 : H3867 m 5 = H m 5 := ((f3872 m 5 _ gm rfl).trans (f3793 m 5 _ gm rfl))
      have q3887 : H3867 m 5 = (tm : Int) := k3886.trans em
      have k3888 : H3867 x 6 = H x 6 := ((f3872 x 6 _ gx rfl).trans (f3793 x 6 _ gx rfl))
      have q3889 : H3867 x 6 = (cu : Int) := k3888.trans ecu
      have k3890 : H3867 x 7 = H x 7 := ((f3872 x 7 _ gx rfl).trans (f3793 x 7 _ gx rfl))
      have q3891 : H3867 x 7 = (dr : Int) := k3890.trans edr
      have h3892 : TP T H3867 tc B := (TP_fr w3792 gtc f3872 rfl (TP_fr hW gtc f3793 rfl htc))
      have h3893 : TM T H3867 tm B := (TM_fr w3792 gtm f3872 rfl (TM_fr hW gtm f3793 rfl htm))
      have h3894 : DD T H3867 cu  := (DD_fr w3792 gcu f3872 rfl (DD_fr hW gcu f3793 rfl hcu))
      have h3895 : DD T H3867 dr  := (DD_fr w3792 gdr f3872 rfl (DD_fr hW gdr f3793 rfl hdr))
      have h3896 : DE T H3867 cu  := (DE_fr w3792 gcu f3872 rfl (DE_fr hW gcu f3793 rfl hdec))
      have h3897 : DE T H3867 dr  := (DE_fr w3792 gdr f3872 rfl (DE_fr hW gdr f3793 rfl hded))
      have h3898 : SP T H3867 x C8 := (SP_fr w3792 gx f3872 rfl (SP_fr hW gx f3793 rfl hsp))
      have h3899 : CU T H3867 cu e8 d8 n8 := (CU_fr w3792 gcu f3872 rfl (CU_fr hW gcu f3793 rfl hcu8))
      have h3900 : CY T H3867 cu (d8 0 3) g8 (H cu 17) := (CY_fr w3792 gcu f3872 rfl (CY_fr hW gcu f3793 rfl h3781))
      have k3901 : H3867 x 3 = H x 3 := ((f3872 x 3 _ gx rfl).trans (f3793 x 3 _ gx rfl))
      have q3902 : H3867 x 3 = (ce8 : Int) := k3901.trans ece8
      have h3903 : CEN T H3867 ce8 e8 d8 := (CEN_fr w3792 gce8 f3872 rfl p3796)
      have h3904 : HDR T H3867 ce8  := (HDR_fr w3792 gce8 f3872 rfl (HDR_fr hW gce8 f3793 rfl hhdr8))
      have h3905 : RY T H3867 m (d8 0 3) g8 (H m 32) := (RY_fr w3792 gm f3872 rfl (RY_fr hW gm f3793 rfl h3782))
      have h3906 : RB T H3867 m e8 d8 := (RB_fr w3792 gm f3872 rfl h3863)
      exact WL.loc hX (by simp) (next T H3867 ⟨⟨w3871, g0, gx, gm, go, by omega, by omega⟩, ⟨_, tc, tm, cu, dr, _, _, _, _, _, ce8, q3885, gtc, h3892, q3887, gtm, h3893, q3889, gcu, q3891, gdr, h3894, h3895, h3896, h3897, h3898, hC1, hC2, h3899, h3906, (h3900).1, (h3905).1, hE, hZ, (by omega), (by assumption), (by omega), (by first | assumption | exact SG_0), q3902, gce8, h3903, h3904, a3877, gm⟩, by omega, by omega⟩ (by omega) (by omega))
