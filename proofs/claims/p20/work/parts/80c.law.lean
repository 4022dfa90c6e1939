/-! THE LAW, GONE ON WITH (own work) -/
set_option maxHeartbeats 4000000 in
theorem wl_c16 {kt : Nat → Option mc_E} {CB SB : Nat} {X : mc_S → Prop} {T : wq_T} {H : wq_H} {Len x m o : Nat} {i : Int} (hX : wlX kt CB SB X) (hb : T.2.1 ≤ CB ∧ T.2.2.1 ≤ SB) (hI : wlJ Len x m o T H) (hL : Len ≤ 3072) (hi : 0 ≤ i ∧ i + 6 ≤ Len) (hb2 : T.2.1 + 20 ≤ CB ∧ T.2.2.1 + 500 ≤ SB)  (next : ∀ T' H', wlJ Len x m o T' H' → T'.2.1 ≤ T.2.1 + 20 → T'.2.2.1 ≤ T.2.2.1 + 500 → WL kt CB SB X 1653 (wlL i x m o) [] T' H') : WL kt CB SB X 668 (wlL i x m o) [] T H := by
  obtain ⟨⟨hW, g0, gx, gm, go, hK, hr⟩, hXI, hY1, hY2⟩ := hI
  refine wl_of hX hb cL_668 (rw_aload_n (pc' := 669) (v := .ref x) rfl rfl rfl ?_)
  refine wl_of hX hb cL_669 (rw_aload_n (pc' := 670) (v := .ref 0) rfl rfl rfl ?_)
  refine wl_of hX hb cL_670 (rw_iload (pc' := 672) (z := i) rfl rfl ?_)
  refine wl_of hX hb cL_672 (rw_iconst (pc' := 673) rfl ?_)
  refine wl_of hX hb cL_673 (rw_iadd (pc' := 674) rfl ?_)
  refine wl_of hX hb cL_674 (xa_I (so := 0) (pc' := 675) (a := 0) hW g0 (wsh_s _) (by omega) (wty_s _ _) (by omega) (by omega) rfl (fun b3218 b3219 => ?_))
  refine wl_of hX hb cL_675 (rw_aload_n (pc' := 676) (v := .ref 0) rfl rfl rfl ?_)
  refine wl_of hX hb cL_676 (rw_iload (pc' := 678) (z := i) rfl rfl ?_)
  refine wl_of hX hb cL_678 (rw_iconst (pc' := 679) rfl ?_)
  refine wl_of hX hb cL_679 (rw_iadd (pc' := 680) rfl ?_)
  refine wl_of hX hb cL_680 (xa_I (so := 0) (pc' := 681) (a := 0) hW g0 (wsh_s _) (by omega) (wty_s _ _) (by omega) (by omega) rfl (fun b3220 b3221 => ?_))
  obtain ⟨B, tc, tm, cu, dr, C8, e8, d8, n8, g8, ce8, e0, gtc, htc, em, gtm, htm, ecu, gcu, edr, gdr, hcu, hdr, hdec, hded, hsp, hC1, hC2, hcu8, hrb8, hcg8, hmn8, hE, hZ, hn8, hXA, hV8, hSG, ece8, gce8, hcen8, hhdr8, hknn8, -⟩ := hXI
  have hN3 := RB_n3 hrb8
  have hE13 : ∀ h : Nat, h < 24 → 0 ≤ e8 13 h ∧ e8 13 h ≤ 100 := fun k hk => by
    obtain ⟨s, h1, h2, h3⟩ := hcu8.1.2.2.1
    exact ⟨(h3 k hk).1, (h3 k hk).2.1⟩
  have hXW := hXA.1
  have hXN := hXA.2
  have hE0 : e8 0 3 = d8 0 3 ∧ e8 0 0 = d8 0 0 := by
    have h := hE 0 (by decide)
    exact ⟨congrFun h 3, congrFun h 0⟩
  have u3222 := CU_k hcu8
  have h3223 : CY T H cu (d8 0 3) g8 (H cu 17) := ⟨hcg8, rfl⟩
  have h3224 : RY T H m (d8 0 3) g8 (H m 32) := ⟨hmn8, rfl⟩
  obtain ⟨t9, ht9⟩ : ∃ t : Int, t = H x 9 := ⟨_, rfl⟩
  obtain ⟨y9, hy9⟩ : ∃ y : Int, y = H 0 ((i + 2).toNat) := ⟨_, rfl⟩
  obtain ⟨r3225, q3226, g3227⟩ := hW.ref gx (t' := 6) (n := 13) (j := 2) (p := 0) (q := 0) rfl (by decide) rfl
  refine wl_of hX hb cL_681 (xc_V (pc' := 684) (r := x) (as := [vI (H 0 ((i + 1).toNat)), vI (H 0 ((i + 2).toNat))]) (st := []) (lm_11_88) rfl rfl (Nat.le_of_ble_eq_true rfl) hW gx sh_1 (by decide) rfl (by decide) (u_93 (e := e8) (d := d8) (n := n8) hW gx ⟨by omega, by omega⟩ ⟨by omega, by omega⟩ ecu gcu q3226 g3227 ece8 gce8 (by assumption) (by assumption) (by omega) (by omega) (by omega) (by omega) hcu8 hcen8 hhdr8) (fun R3228 T3229 H3230 p3231 => ?_))
  obtain ⟨e3232, w3234, f3235, z3236, e3233, b3237, p3238⟩ := p3231
  subst e3232
  subst e3233
  show WL _ _ _ _ 684 [(4, vI i), (3, .ref o), (2, .ref m), (1, .ref x), (0, .ref 0)] [vI z3236] _ H3230
  refine wl_of hX hb cL_684 (rw_pop (pc' := 685) rfl rfl ?_)
  refine wl_of hX hb cL_685 (rw_aload_n (pc' := 686) (v := .ref m) rfl rfl rfl ?_)
  refine wl_of hX hb cL_686 (rw_aload_n (pc' := 687) (v := .ref 0) rfl rfl rfl ?_)
  refine wl_of hX hb cL_687 (rw_iload (pc' := 689) (z := i) rfl rfl ?_)
  refine wl_of hX hb cL_689 (rw_iconst (pc' := 690) rfl ?_)
  refine wl_of hX hb cL_690 (rw_iadd (pc' := 691) rfl ?_)
  have k3242 : H3230 0 ((i + 1).toNat) = H 0 ((i + 1).toNat) := (f3235 0 ((i + 1).toNat) _ g0 (wmem_s rfl))
  refine wl_of hX hb cL_691 (xa_I (so := 0) (pc' := 692) (a := 0) w3234 g0 (wsh_s _) (by omega) (wty_s _ _) (by omega) (by omega) rfl (fun b3240 b3241 => ?_))
  refine wl_of hX hb cL_692 (rw_aload_n (pc' := 693) (v := .ref 0) rfl rfl rfl ?_)
  refine wl_of hX hb cL_693 (rw_iload (pc' := 695) (z := i) rfl rfl ?_)
  refine wl_of hX hb cL_695 (rw_iconst (pc' := 696) rfl ?_)
  refine wl_of hX hb cL_696 (rw_iadd (pc' := 697) rfl ?_)
  have k3245 : H3230 0 ((i + 2).toNat) = H 0 ((i + 2).toNat) := (f3235 0 ((i + 2).toNat) _ g0 (wmem_s rfl))
  refine wl_of hX hb cL_697 (xa_I (so := 0) (pc' := 698) (a := 0) w3234 g0 (wsh_s _) (by omega) (wty_s _ _) (by omega) (by omega) rfl (fun b3243 b3244 => ?_))
  have k3246 : wKI H3230 m = wKI H m := (wKI_fr hW gm f3235 rfl)
  have k3247 : H3230 x 9 = H x 9 := (f3235 x 9 _ gx rfl)
  have k3248 : H3230 m 6 = H m 6 := (f3235 m 6 _ gm rfl)
  have k3249 : H3230 x 11 = H x 11 := (f3235 x 11 _ gx rfl)
  have k3250 : H3230 m 13 = H m 13 := (f3235 m 13 _ gm rfl)
  have k3251 : H3230 x 8 = H x 8 := (f3235 x 8 _ gx rfl)
  have k3252 : H3230 m 3 = H m 3 := (f3235 m 3 _ gm rfl)
  rw [show H3230 0 ((i + 2).toNat) = H 0 ((i + 2).toNat) by omega]
  rw [show H3230 0 ((i + 1).toNat) = H 0 ((i + 1).toNat) by omega]
  have h3253 : RB T H3230 m e8 d8 := (RB_fr hW gm f3235 rfl hrb8)
  have h3254 : KNN T H3230 m e8 d8 := (KNN_fr hW gm f3235 rfl hknn8)
  refine wl_of hX hb cL_698 (xc_V (pc' := 701) (r := m) (as := [vI (H 0 ((i + 1).toNat)), vI (H 0 ((i + 2).toNat))]) (st := []) (lm_11_92) rfl rfl (Nat.le_of_ble_eq_true rfl) w3234 gm sh_42 (by decide) rfl (by decide) (u_245 (e := e8) (d := d8) w3234 gm ⟨by omega, by omega⟩ ⟨by omega, by omega⟩ (by omega) (by assumption) (by assumption) (by assumption) (by assumption) h3253 h3254) (fun R3255 T3256 H3257 p3258 => ?_))
  obtain ⟨e3259, w3261, f3262, z3263, e3260, b3264, p3265⟩ := p3258
  subst e3259
  subst e3260
  obtain ⟨a3266, a3267⟩ := p3265
  show WL _ _ _ _ 701 [(4, vI i), (3, .ref o), (2, .ref m), (1, .ref x), (0, .ref 0)] [vI z3263] _ H3257
  refine wl_of hX hb cL_701 (rw_pop (pc' := 702) rfl rfl ?_)
  refine wl_of hX hb cL_702 (rw_goto (p1 := 1653) (by decide) ?_)
  have k3268 : H3257 x 9 = H3230 x 9 := (f3262 x 9 _ gx rfl)
  have k3269 : H3257 m 6 = H3230 m 6 := (f3262 m 6 _ gm rfl)
  have k3270 : H3257 x 11 = H3230 x 11 := (f3262 x 11 _ gx rfl)
  have k3271 : H3257 m 13 = H3230 m 13 := (f3262 m 13 _ gm rfl)
  have k3272 : H3257 x 8 = H3230 x 8 := (f3262 x 8 _ gx rfl)
  have k3273 : H3257 m 3 = H3230 m 3 := (f3262 m 3 _ gm rfl)
  have k3274 : H3257 x 0 = H x 0 := ((f3262 x 0 _ gx rfl).trans (f3235 x 0 _ gx rfl))
  have q3275 : H3257 x 0 = (tc : Int) := k3274.trans e0
  have k3276 : H3257 m 5 = H m 5 := ((f3262 m 5 _ gm rfl).trans (f3235 m 5 _ gm rfl))
  have q3277 : H3257 m 5 = (tm : Int) := k3276.trans em
  have k3278 : H3257 x 6 = H x 6 := ((f3262 x 6 _ gx rfl).trans (f3235 x 6 _ gx rfl))
  have q3279 : H3257 x 6 = (cu : Int) := k3278.trans ecu
  have k3280 : H3257 x 7 = H x 7 := ((f3262 x 7 _ gx rfl).trans (f3235 x 7 _ gx rfl))
  have q3281 : H3257 x 7 = (dr : Int) := k3280.trans edr
  have h3282 : CEN T H3257 ce8 e8 d8 := (CEN_fr w3234 gce8 f3262 rfl p3238)
  have h3283 : TP T H3257 tc B := (TP_fr w3234 gtc f3262 rfl (TP_fr hW gtc f3235 rfl htc))
  have h3284 : TM T H3257 tm B := (TM_fr w3234 gtm f3262 rfl (TM_fr hW gtm f3235 rfl htm))
  have h3285 : DD T H3257 cu  := (DD_fr w3234 gcu f3262 rfl (DD_fr hW gcu f3235 rfl hcu))
  have h3286 : DD T H3257 dr  := (DD_fr w3234 gdr f3262 rfl (DD_fr hW gdr f3235 rfl hdr))
  have h3287 : DE T H3257 cu  := (DE_fr w3234 gcu f3262 rfl (DE_fr hW gcu f3235 rfl hdec))
  have h3288 : DE T H3257 dr  := (DE_fr w3234 gdr f3262 rfl (DE_fr hW gdr f3235 rfl hded))
  have h3289 : SP T H3257 x C8 := (SP_fr w3234 gx f3262 rfl (SP_fr hW gx f3235 rfl hsp))
  have h3290 : CU T H3257 cu e8 d8 n8 := (CU_fr w3234 gcu f3262 rfl (CU_fr hW gcu f3235 rfl hcu8))
  have h3291 : CY T H3257 cu (d8 0 3) g8 (H cu 17) := (CY_fr w3234 gcu f3262 rfl (CY_fr hW gcu f3235 rfl h3223))
  have k3292 : H3257 x 3 = H x 3 := ((f3262 x 3 _ gx rfl).trans (f3235 x 3 _ gx rfl))
  have q3293 : H3257 x 3 = (ce8 : Int) := k3292.trans ece8
  have h3294 : HDR T H3257 ce8  := (HDR_fr w3234 gce8 f3262 rfl (HDR_fr hW gce8 f3235 rfl hhdr8))
  have h3295 : RY T H3257 m (d8 0 3) g8 (H m 32) := (RY_fr w3234 gm f3262 rfl (RY_fr hW gm f3235 rfl h3224))
  have h3296 : RB T H3257 m e8 d8 := (RB_fr w3234 gm f3262 rfl h3253)
  exact WL.loc hX (by simp) (next T H3257 ⟨⟨w3261, g0, gx, gm, go, by omega, by omega⟩, ⟨_, tc, tm, cu, dr, _, _, _, _, _, ce8, q3275, gtc, h3283, q3277, gtm, h3284, q3279, gcu, q3281, gdr, h3285, h3286, h3287, h3288, h3289, hC1, hC2, h3290, h3296, (h3291).1, (h3295).1, hE, hZ, (by omega), (by assumption), (by omega), (by first | assumption | exact SG_0), q3293, gce8, h3282, h3294, a3267, gm⟩, by omega, by omega⟩ (by omega) (by omega))
set_option maxHeartbeats 4000000 in
theorem wl_c17 {kt : Nat → Option mc_E} {CB SB : Nat} {X : mc_S → Prop} {T : wq_T} {H : wq_H} {Len x m o : Nat} {i : Int} (hX : wlX kt CB SB X) (hb : T.2.1 ≤ CB ∧ T.2.2.1 ≤ SB) (hI : wlJ Len x m o T H) (hL : Len ≤ 3072) (hi : 0 ≤ i ∧ i + 6 ≤ Len) (hb2 : T.2.1 + 20 ≤ CB ∧ T.2.2.1 + 500 ≤ SB)  (next : ∀ T' H', wlJ Len x m o T' H' → T'.2.1 ≤ T.2.1 + 20 → T'.2.2.1 ≤ T.2.2.1 + 500 → WL kt CB SB X 1653 (wlL i x m o) [] T' H') : WL kt CB SB X 705 (wlL i x m o) [] T H := by
  obtain ⟨⟨hW, g0, gx, gm, go, hK, hr⟩, hXI, hY1, hY2⟩ := hI
  refine wl_of hX hb cL_705 (rw_aload_n (pc' := 706) (v := .ref x) rfl rfl rfl ?_)
  obtain ⟨B, tc, tm, cu, dr, C8, e8, d8, n8, g8, ce8, e0, gtc, htc, em, gtm, htm, ecu, gcu, edr, gdr, hcu, hdr, hdec, hded, hsp, hC1, hC2, hcu8, hrb8, hcg8, hmn8, hE, hZ, hn8, hXA, hV8, hSG, ece8, gce8, hcen8, hhdr8, hknn8, -⟩ := hXI
  have hN3 := RB_n3 hrb8
  have hE13 : ∀ h : Nat, h < 24 → 0 ≤ e8 13 h ∧ e8 13 h ≤ 100 := fun k hk => by
    obtain ⟨s, h1, h2, h3⟩ := hcu8.1.2.2.1
    exact ⟨(h3 k hk).1, (h3 k hk).2.1⟩
  have hXW := hXA.1
  have hXN := hXA.2
  have hE0 : e8 0 3 = d8 0 3 ∧ e8 0 0 = d8 0 0 := by
    have h := hE 0 (by decide)
    exact ⟨congrFun h 3, congrFun h 0⟩
  have u3297 := CU_k hcu8
  have h3298 : CY T H cu (d8 0 3) g8 (H cu 17) := ⟨hcg8, rfl⟩
  have h3299 : RY T H m (d8 0 3) g8 (H m 32) := ⟨hmn8, rfl⟩
  obtain ⟨t9, ht9⟩ : ∃ t : Int, t = H x 9 := ⟨_, rfl⟩
  obtain ⟨r3300, q3301, g3302⟩ := hW.ref gx (t' := 6) (n := 13) (j := 2) (p := 0) (q := 0) rfl (by decide) rfl
  refine wl_of hX hb cL_706 (xc_V (pc' := 709) (r := x) (as := []) (st := []) (lm_11_93) rfl rfl (Nat.le_of_ble_eq_true rfl) hW gx sh_1 (by decide) rfl (by decide) (u_97 (e := e8) (d := d8) (n := n8) hW gx ecu gcu q3301 g3302 ece8 gce8 (by assumption) (by assumption) (by omega) (by omega) (by omega) (by omega) hcu8 hcen8 hhdr8) (fun R3303 T3304 H3305 p3306 => ?_))
  obtain ⟨e3307, w3309, f3310, z3311, e3308, b3312, p3313⟩ := p3306
  subst e3307
  subst e3308
  show WL _ _ _ _ 709 [(4, vI i), (3, .ref o), (2, .ref m), (1, .ref x), (0, .ref 0)] [vL z3311] _ H3305
  refine wl_of hX hb cL_709 (rw_pop2 (pc' := 710) rfl rfl ?_)
  refine wl_of hX hb cL_710 (rw_aload_n (pc' := 711) (v := .ref m) rfl rfl rfl ?_)
  have k3315 : wKI H3305 m = wKI H m := (wKI_fr hW gm f3310 rfl)
  have k3316 : H3305 x 9 = H x 9 := (f3310 x 9 _ gx rfl)
  have k3317 : H3305 m 6 = H m 6 := (f3310 m 6 _ gm rfl)
  have k3318 : H3305 x 11 = H x 11 := (f3310 x 11 _ gx rfl)
  have k3319 : H3305 m 13 = H m 13 := (f3310 m 13 _ gm rfl)
  have k3320 : H3305 x 8 = H x 8 := (f3310 x 8 _ gx rfl)
  have k3321 : H3305 m 3 = H m 3 := (f3310 m 3 _ gm rfl)
  have h3322 : RB T H3305 m e8 d8 := (RB_fr hW gm f3310 rfl hrb8)
  have h3323 : KNN T H3305 m e8 d8 := (KNN_fr hW gm f3310 rfl hknn8)
  refine wl_of hX hb cL_711 (xc_V (pc' := 714) (r := m) (as := []) (st := []) (lm_11_96) rfl rfl (Nat.le_of_ble_eq_true rfl) w3309 gm sh_42 (by decide) rfl (by decide) (u_246 (e := e8) (d := d8) w3309 gm (by omega) (by assumption) (by assumption) (by assumption) (by assumption) h3322 h3323) (fun R3324 T3325 H3326 p3327 => ?_))
  obtain ⟨e3328, w3330, f3331, z3332, e3329, b3333, p3334⟩ := p3327
  subst e3328
  subst e3329
  obtain ⟨a3335, a3336⟩ := p3334
  show WL _ _ _ _ 714 [(4, vI i), (3, .ref o), (2, .ref m), (1, .ref x), (0, .ref 0)] [vL z3332] _ H3326
  refine wl_of hX hb cL_714 (rw_pop2 (pc' := 715) rfl rfl ?_)
  refine wl_of hX hb cL_715 (rw_goto (p1 := 1653) (by decide) ?_)
  have k3337 : H3326 x 9 = H3305 x 9 := (f3331 x 9 _ gx rfl)
  have k3338 : H3326 m 6 = H3305 m 6 := (f3331 m 6 _ gm rfl)
  have k3339 : H3326 x 11 = H3305 x 11 := (f3331 x 11 _ gx rfl)
  have k3340 : H3326 m 13 = H3305 m 13 := (f3331 m 13 _ gm rfl)
  have k3341 : H3326 x 8 = H3305 x 8 := (f3331 x 8 _ gx rfl)
  have k3342 : H3326 m 3 = H3305 m 3 := (f3331 m 3 _ gm rfl)
  have k3343 : H3326 x 0 = H x 0 := ((f3331 x 0 _ gx rfl).trans (f3310 x 0 _ gx rfl))
  have q3344 : H3326 x 0 = (tc : Int) := k3343.trans e0
  have k3345 : H3326 m 5 = H m 5 := ((f3331 m 5 _ gm rfl).trans (f3310 m 5 _ gm rfl))
  have q3346 : H3326 m 5 = (tm : Int) := k3345.trans em
  have k3347 : H3326 x 6 = H x 6 := ((f3331 x 6 _ gx rfl).trans (f3310 x 6 _ gx rfl))
  have q3348 : H3326 x 6 = (cu : Int) := k3347.trans ecu
  have k3349 : H3326 x 7 = H x 7 := ((f3331 x 7 _ gx rfl).trans (f3310 x 7 _ gx rfl))
  have q3350 : H3326 x 7 = (dr : Int) := k3349.trans edr
  have h3351 : CEN T H3326 ce8 e8 d8 := (CEN_fr w3309 gce8 f3331 rfl p3313)
  have h3352 : TP T H3326 tc B := (TP_fr w3309 gtc f3331 rfl (TP_fr hW gtc f3310 rfl htc))
  have h3353 : TM T H3326 tm B := (TM_fr w3309 gtm f3331 rfl (TM_fr hW gtm f3310 rfl htm))
  have h3354 : DD T H3326 cu  := (DD_fr w3309 gcu f3331 rfl (DD_fr hW gcu f3310 rfl hcu))
  have h3355 : DD T H3326 dr  := (DD_fr w3309 gdr f3331 rfl (DD_fr hW gdr f3310 rfl hdr))
  have h3356 : DE T H3326 cu  := (DE_fr w3309 gcu f3331 rfl (DE_fr hW gcu f3310 rfl hdec))
  have h3357 : DE T H3326 dr  := (DE_fr w3309 gdr f3331 rfl (DE_fr hW gdr f3310 rfl hded))
  have h3358 : SP T H3326 x C8 := (SP_fr w3309 gx f3331 rfl (SP_fr hW gx f3310 rfl hsp))
  have h3359 : CU T H3326 cu e8 d8 n8 := (CU_fr w3309 gcu f3331 rfl (CU_fr hW gcu f3310 rfl hcu8))
  have h3360 : CY T H3326 cu (d8 0 3) g8 (H cu 17) := (CY_fr w3309 gcu f3331 rfl (CY_fr hW gcu f3310 rfl h3298))
  have k3361 : H3326 x 3 = H x 3 := ((f3331 x 3 _ gx rfl).trans (f3310 x 3 _ gx rfl))
  have q3362 : H3326 x 3 = (ce8 : Int) := k3361.trans ece8
  have h3363 : HDR T H3326 ce8  := (HDR_fr w3309 gce8 f3331 rfl (HDR_fr hW gce8 f3310 rfl hhdr8))
  have h3364 : RY T H3326 m (d8 0 3) g8 (H m 32) := (RY_fr w3309 gm f3331 rfl (RY_fr hW gm f3310 rfl h3299))
  have h3365 : RB T H3326 m e8 d8 := (RB_fr w3309 gm f3331 rfl h3322)
  exact WL.loc hX (by simp) (next T H3326 ⟨⟨w3330, g0, gx, gm, go, by omega, by omega⟩, ⟨_, tc, tm, cu, dr, _, _, _, _, _, ce8, q3344, gtc, h3352, q3346, gtm, h3353, q3348, gcu, q3350, gdr, h3354, h3355, h3356, h3357, h3358, hC1, hC2, h3359, h3365, (h3360).1, (h3364).1, hE, hZ, (by omega), (by assumption), (by omega), (by first | assumption | exact SG_0), q3362, gce8, h3351, h3363, a3336, gm⟩, by omega, by omega⟩ (by omega) (by omega))
set_option maxHeartbeats 4000000 in
theorem wl_c18 {kt : Nat → Option mc_E} {CB SB : Nat} {X : mc_S → Prop} {T : wq_T} {H : wq_H} {Len x m o : Nat} {i : Int} (hX : wlX kt CB SB X) (hb : T.2.1 ≤ CB ∧ T.2.2.1 ≤ SB) (hI : wlJ Len x m o T H) (hL : Len ≤ 3072) (hi : 0 ≤ i ∧ i + 6 ≤ Len) (hb2 : T.2.1 + 20 ≤ CB ∧ T.2.2.1 + 500 ≤ SB)  (next : ∀ T' H', wlJ Len x m o T' H' → T'.2.1 ≤ T.2.1 + 20 → T'.2.2.1 ≤ T.2.2.1 + 500 → WL kt CB SB X 1653 (wlL i x m o) [] T' H') : WL kt CB SB X 718 (wlL i x m o) [] T H := by
  obtain ⟨⟨hW, g0, gx, gm, go, hK, hr⟩, hXI, hY1, hY2⟩ := hI
  refine wl_of hX hb cL_718 (rw_aload_n (pc' := 719) (v := .ref x) rfl rfl rfl ?_)
  refine wl_of hX hb cL_719 (rw_aload_n (pc' := 720) (v := .ref 0) rfl rfl rfl ?_)
  refine wl_of hX hb cL_720 (rw_iload (pc' := 722) (z := i) rfl rfl ?_)
  refine wl_of hX hb cL_722 (rw_iconst (pc' := 723) rfl ?_)
  refine wl_of hX hb cL_723 (rw_iadd (pc' := 724) rfl ?_)
  refine wl_of hX hb cL_724 (xa_I (so := 0) (pc' := 725) (a := 0) hW g0 (wsh_s _) (by omega) (wty_s _ _) (by omega) (by omega) rfl (fun b3366 b3367 => ?_))
  refine wl_of hX hb cL_725 (rw_aload_n (pc' := 726) (v := .ref 0) rfl rfl rfl ?_)
  refine wl_of hX hb cL_726 (rw_iload (pc' := 728) (z := i) rfl rfl ?_)
  refine wl_of hX hb cL_728 (rw_iconst (pc' := 729) rfl ?_)
  refine wl_of hX hb cL_729 (rw_iadd (pc' := 730) rfl ?_)
  refine wl_of hX hb cL_730 (xa_I (so := 0) (pc' := 731) (a := 0) hW g0 (wsh_s _) (by omega) (wty_s _ _) (by omega) (by omega) rfl (fun b3368 b3369 => ?_))
  obtain ⟨B, tc, tm, cu, dr, C8, e8, d8, n8, g8, ce8, e0, gtc, htc, em, gtm, htm, ecu, gcu, edr, gdr, hcu, hdr, hdec, hded, hsp, hC1, hC2, hcu8, hrb8, hcg8, hmn8, hE, hZ, hn8, hXA, hV8, hSG, ece8, gce8, hcen8, hhdr8, hknn8, -⟩ := hXI
  have hN3 := RB_n3 hrb8
  have hE13 : ∀ h : Nat, h < 24 → 0 ≤ e8 13 h ∧ e8 13 h ≤ 100 := fun k hk => by
    obtain ⟨s, h1, h2, h3⟩ := hcu8.1.2.2.1
    exact ⟨(h3 k hk).1, (h3 k hk).2.1⟩
  have hXW := hXA.1
  have hXN := hXA.2
  have hE0 : e8 0 3 = d8 0 3 ∧ e8 0 0 = d8 0 0 := by
    have h := hE 0 (by decide)
    exact ⟨congrFun h 3, congrFun h 0⟩
  have u3370 := CU_k hcu8
  have h3371 : CY T H cu (d8 0 3) g8 (H cu 17) := ⟨hcg8, rfl⟩
  have h3372 : RY T H m (d8 0 3) g8 (H m 32) := ⟨hmn8, rfl⟩
  obtain ⟨t9, ht9⟩ : ∃ t : Int, t = H x 9 := ⟨_, rfl⟩
  obtain ⟨y9, hy9⟩ : ∃ y : Int, y = H 0 ((i + 2).toNat) := ⟨_, rfl⟩
  obtain ⟨r3373, q3374, g3375⟩ := hW.ref gx (t' := 6) (n := 13) (j := 2) (p := 0) (q := 0) rfl (by decide) rfl
  refine wl_of hX hb cL_731 (xc_V (pc' := 734) (r := x) (as := [vI (H 0 ((i + 1).toNat)), vI (H 0 ((i + 2).toNat))]) (st := []) (lm_11_97) rfl rfl (Nat.le_of_ble_eq_true rfl) hW gx sh_1 (by decide) rfl (by decide) (u_98 (e := e8) (d := d8) (n := n8) hW gx ⟨by omega, by omega⟩ ⟨by omega, by omega⟩ ecu gcu q3374 g3375 ece8 gce8 (by assumption) (by assumption) (by omega) (by omega) (by omega) (by omega) hcu8 hcen8 hhdr8) (fun R3376 T3377 H3378 p3379 => ?_))
  obtain ⟨e3380, w3382, f3383, z3384, e3381, b3385, p3386⟩ := p3379
  subst e3380
  subst e3381
  rcases p3386 with ⟨a3387, a3388, a3389⟩ | ⟨a3390, a3391, a3392⟩
  · show WL _ _ _ _ 734 [(4, vI i), (3, .ref o), (2, .ref m), (1, .ref x), (0, .ref 0)] [vI z3384] _ H3378
    refine wl_of hX hb cL_734 (rw_aload_n (pc' := 735) (v := .ref m) rfl rfl rfl ?_)
    refine wl_of hX hb cL_735 (rw_aload_n (pc' := 736) (v := .ref 0) rfl rfl rfl ?_)
    refine wl_of hX hb cL_736 (rw_iload (pc' := 738) (z := i) rfl rfl ?_)
    refine wl_of hX hb cL_738 (rw_iconst (pc' := 739) rfl ?_)
    refine wl_of hX hb cL_739 (rw_iadd (pc' := 740) rfl ?_)
    have k3395 : H3378 0 ((i + 1).toNat) = H 0 ((i + 1).toNat) := (f3383 0 ((i + 1).toNat) _ g0 (wmem_s rfl))
    refine wl_of hX hb cL_740 (xa_I (so := 0) (pc' := 741) (a := 0) w3382 g0 (wsh_s _) (by omega) (wty_s _ _) (by omega) (by omega) rfl (fun b3393 b3394 => ?_))
    refine wl_of hX hb cL_741 (rw_aload_n (pc' := 742) (v := .ref 0) rfl rfl rfl ?_)
    refine wl_of hX hb cL_742 (rw_iload (pc' := 744) (z := i) rfl rfl ?_)
    refine wl_of hX hb cL_744 (rw_iconst (pc' := 745) rfl ?_)
    refine wl_of hX hb cL_745 (rw_iadd (pc' := 746) rfl ?_)
    have k3398 : H3378 0 ((i + 2).toNat) = H 0 ((i + 2).toNat) := (f3383 0 ((i + 2).toNat) _ g0 (wmem_s rfl))
    refine wl_of hX hb cL_746 (xa_I (so := 0) (pc' := 747) (a := 0) w3382 g0 (wsh_s _) (by omega) (wty_s _ _) (by omega) (by omega) rfl (fun b3396 b3397 => ?_))
    have k3399 : wKI H3378 m = wKI H m := (wKI_fr hW gm f3383 rfl)
    have k3400 : H3378 x 9 = H x 9 := (f3383 x 9 _ gx rfl)
    have k3401 : H3378 m 6 = H m 6 := (f3383 m 6 _ gm rfl)
    have k3402 : H3378 x 11 = H x 11 := (f3383 x 11 _ gx rfl)
    have k3403 : H3378 m 13 = H m 13 := (f3383 m 13 _ gm rfl)
    have k3404 : H3378 x 8 = H x 8 := (f3383 x 8 _ gx rfl)
    have k3405 : H3378 m 3 = H m 3 := (f3383 m 3 _ gm rfl)
    rw [show H3378 0 ((i + 2).toNat) = H 0 ((i + 2).toNat) by omega]
    rw [show H3378 0 ((i + 1).toNat) = H 0 ((i + 1).toNat) by omega]
    have h3406 : RB T H3378 m e8 d8 := (RB_fr hW gm f3383 rfl hrb8)
    have h3407 : KNN T H3378 m e8 d8 := (KNN_fr hW gm f3383 rfl hknn8)
    refine wl_of hX hb cL_747 (xc_V (pc' := 750) (r := m) (as := [vI (H 0 ((i + 1).toNat)), vI (H 0 ((i + 2).toNat))]) (st := [vI z3384]) (lm_11_100) rfl rfl (Nat.le_of_ble_eq_true rfl) w3382 gm sh_42 (by decide) rfl (by decide) (u_249 (e := e8) (d := d8) w3382 gm ⟨by omega, by omega⟩ ⟨by omega, by omega⟩ (by omega) (by assumption) (by assumption) (by assumption) (by assumption) h3406 h3407) (fun R3408 T3409 H3410 p3411 => ?_))
    obtain ⟨e3412, w3414, f3415, z3416, e3413, b3417, p3418⟩ := p3411
    subst e3412
    subst e3413
    rcases p3418 with ⟨a3419, a3420, a3421, a3422⟩ | ⟨a3423, a3424, a3425, a3426⟩
    · show WL _ _ _ _ 750 [(4, vI i), (3, .ref o), (2, .ref m), (1, .ref x), (0, .ref 0)] [vI z3416, vI z3384] _ H3410
      refine wl_of hX hb cL_750 (rw_icmp_eq (p1 := 1653) (p2 := 753) (by decide) rfl ⟨b3385.1, b3385.2⟩ ⟨b3417.1, b3417.2⟩ (fun c3427 => ?_) (fun c3427 => ?_))
      · have k3428 : H3410 x 9 = H3378 x 9 := (f3415 x 9 _ gx rfl)
        have k3429 : H3410 m 6 = H3378 m 6 := (f3415 m 6 _ gm rfl)
        have k3430 : H3410 x 11 = H3378 x 11 := (f3415 x 11 _ gx rfl)
        have k3431 : H3410 m 13 = H3378 m 13 := (f3415 m 13 _ gm rfl)
        have k3432 : H3410 x 8 = H3378 x 8 := (f3415 x 8 _ gx rfl)
        have k3433 : H3410 m 3 = H3378 m 3 := (f3415 m 3 _ gm rfl)
        have k3434 : H3410 x 0 = H x 0 := ((f3415 x 0 _ gx rfl).trans (f3383 x 0 _ gx rfl))
        have q3435 : H3410 x 0 = (tc : Int) := k3434.trans e0
        have k3436 : H3410 m 5 = H m 5 := ((f3415 m 5 _ gm rfl).trans (f3383 m 5 _ gm rfl))
        have q3437 : H3410 m 5 = (tm : Int) := k3436.trans em
        have k3438 : H3410 x 6 = H x 6 := ((f3415 x 6 _ gx rfl).trans (f3383 x 6 _ gx rfl))
        have q3439 : H3410 x 6 = (cu : Int) := k3438.trans ecu
        have k3440 : H3410 x 7 = H x 7 := ((f3415 x 7 _ gx rfl).trans (f3383 x 7 _ gx rfl))
        have q3441 : H3410 x 7 = (dr : Int) := k3440.trans edr
        have h3442 : CEN T H3410 ce8 e8 d8 := (CEN_fr w3382 gce8 f3415 rfl a3389)
        have h3443 : TP T H3410 tc B := (TP_fr w3382 gtc f3415 rfl (TP_fr hW gtc f3383 rfl htc))
        have h3444 : TM T H3410 tm B := (TM_fr w3382 gtm f3415 rfl (TM_fr hW gtm f3383 rfl htm))
        have h3445 : DD T H3410 cu  := (DD_fr w3382 gcu f3415 rfl (DD_fr hW gcu f3383 rfl hcu))
        have h3446 : DD T H3410 dr  := (DD_fr w3382 gdr f3415 rfl (DD_fr hW gdr f3383 rfl hdr))
        have h3447 : DE T H3410 cu  := (DE_fr w3382 gcu f3415 rfl (DE_fr hW gcu f3383 rfl hdec))
        have h3448 : DE T H3410 dr  := (DE_fr w3382 gdr f3415 rfl (DE_fr hW gdr f3383 rfl hded))
        have h3449 : SP T H3410 x C8 := (SP_fr w3382 gx f3415 rfl (SP_fr hW gx f3383 rfl hsp))
        have h3450 : CU T H3410 cu e8 d8 n8 := (CU_fr w3382 gcu f3415 rfl (CU_fr hW gcu f3383 rfl hcu8))
        have h3451 : CY T H3410 cu (d8 0 3) g8 (H cu 17) := (CY_fr w3382 gcu f3415 rfl (CY_fr hW gcu f3383 rfl h3371))
        have k3452 : H3410 x 3 = H x 3 := ((f3415 x 3 _ gx rfl).trans (f3383 x 3 _ gx rfl))
        have q3453 : H3410 x 3 = (ce8 : Int) := k3452.trans ece8
        have h3454 : HDR T H3410 ce8  := (HDR_fr w3382 gce8 f3415 rfl (HDR_fr hW gce8 f3383 rfl hhdr8))
        have h3455 : RY T H3410 m (d8 0 3) g8 (H m 32) := (RY_fr w3382 gm f3415 rfl (RY_fr hW gm f3383 rfl h3372))
        have h3456 : RB T H3410 m e8 d8 := (RB_fr w3382 gm f3415 rfl h3406)
        exact WL.loc hX (by simp) (next T H3410 ⟨⟨w3414, g0, gx, gm, go, by omega, by omega⟩, ⟨_, tc, tm, cu, dr, _, _, _, _, _, ce8, q3435, gtc, h3443, q3437, gtm, h3444, q3439, gcu, q3441, gdr, h3445, h3446, h3447, h3448, h3449, hC1, hC2, h3450, h3456, (h3451).1, (h3455).1, hE, hZ, (by omega), (by assumption), (by omega), (by first | assumption | exact SG_0), q3453, gce8, h3442, h3454, a3422, gm⟩, by omega, by omega⟩ (by omega) (by omega))
      · exfalso
        omega
    · show WL _ _ _ _ 750 [(4, vI i), (3, .ref o), (2, .ref m), (1, .ref x), (0, .ref 0)] [vI z3416, vI z3384] _ H3410
      refine wl_of hX hb cL_750 (rw_icmp_eq (p1 := 1653) (p2 := 753) (by decide) rfl ⟨b3385.1, b3385.2⟩ ⟨b3417.1, b3417.2⟩ (fun c3457 => ?_) (fun c3457 => ?_))
      · have k3458 : H3410 x 9 = H3378 x 9 := (f3415 x 9 _ gx rfl)
        have k3459 : H3410 m 6 = H3378 m 6 := (f3415 m 6 _ gm rfl)
        have k3460 : H3410 x 11 = H3378 x 11 := (f3415 x 11 _ gx rfl)
        have k3461 : H3410 m 13 = H3378 m 13 := (f3415 m 13 _ gm rfl)
        have k3462 : H3410 x 8 = H3378 x 8 := (f3415 x 8 _ gx rfl)
        have k3463 : H3410 m 3 = H3378 m 3 := (f3415 m 3 _ gm rfl)
        have k3464 : H3410 x 0 = H x 0 := ((f3415 x 0 _ gx rfl).trans (f3383 x 0 _ gx rfl))
        have q3465 : H3410 x 0 = (tc : Int) := k3464.trans e0
        have k3466 : H3410 m 5 = H m 5 := ((f3415 m 5 _ gm rfl).trans (f3383 m 5 _ gm rfl))
        have q3467 : H3410 m 5 = (tm : Int) := k3466.trans em
        have k3468 : H3410 x 6 = H x 6 := ((f3415 x 6 _ gx rfl).trans (f3383 x 6 _ gx rfl))
        have q3469 : H3410 x 6 = (cu : Int) := k3468.trans ecu
        have k3470 : H3410 x 7 = H x 7 := ((f3415 x 7 _ gx rfl).trans (f3383 x 7 _ gx rfl))
        have q3471 : H3410 x 7 = (dr : Int) := k3470.trans edr
        have h3472 : CEN T H3410 ce8 e8 d8 := (CEN_fr w3382 gce8 f3415 rfl a3389)
        have h3473 : TP T H3410 tc B := (TP_fr w3382 gtc f3415 rfl (TP_fr hW gtc f3383 rfl htc))
        have h3474 : TM T H3410 tm B := (TM_fr w3382 gtm f3415 rfl (TM_fr hW gtm f3383 rfl htm))
        have h3475 : DD T H3410 cu  := (DD_fr w3382 gcu f3415 rfl (DD_fr hW gcu f3383 rfl hcu))
        have h3476 : DD T H3410 dr  := (DD_fr w3382 gdr f3415 rfl (DD_fr hW gdr f3383 rfl hdr))
        have h3477 : DE T H3410 cu  := (DE_fr w3382 gcu f3415 rfl (DE_fr hW gcu f3383 rfl hdec))
        have h3478 : DE T H3410 dr  := (DE_fr w3382 gdr f3415 rfl (DE_fr hW gdr f3383 rfl hded))
        have h3479 : SP T H3410 x C8 := (SP_fr w3382 gx f3415 rfl (SP_fr hW gx f3383 rfl hsp))
        have h3480 : CU T H3410 cu e8 d8 n8 := (CU_fr w3382 gcu f3415 rfl (CU_fr hW gcu f3383 rfl hcu8))
        have h3481 : CY T H3410 cu (d8 0 3) g8 (H cu 17) := (CY_fr w3382 gcu f3415 rfl (CY_fr hW gcu f3383 rfl h3371))
        have k3482 : H3410 x 3 = H x 3 := ((f3415 x 3 _ gx rfl).trans (f3383 x 3 _ gx rfl))
        have q3483 : H3410 x 3 = (ce8 : Int) := k3482.trans ece8
        have h3484 : HDR T H3410 ce8  := (HDR_fr w3382 gce8 f3415 rfl (HDR_fr hW gce8 f3383 rfl hhdr8))
        have h3485 : RY T H3410 m (d8 0 3) g8 (H m 32) := (RY_fr w3382 gm f3415 rfl (RY_fr hW gm f3383 rfl h3372))
        have h3486 : RB T H3410 m e8 d8 := (RB_fr w3382 gm f3415 rfl h3406)
        exact WL.loc hX (by simp) (next T H3410 ⟨⟨w3414, g0, gx, gm, go, by omega, by omega⟩, ⟨_, tc, tm, cu, dr, _, _, _, _, _, ce8, q3465, gtc, h3473, q3467, gtm, h3474, q3469, gcu, q3471, gdr, h3475, h3476, h3477, h3478, h3479, hC1, hC2, h3480, h3486, (h3481).1, (h3485).1, hE, hZ, (by omega), (by assumption), (by omega), (by first | assumption | exact SG_0), q3483, gce8, h3472, h3484, a3426, gm⟩, by omega, by omega⟩ (by omega) (by omega))
      · refine wl_of hX hb cL_753 (rw_iconst (pc' := 754) rfl ?_)
        exfalso
        omega
  · show WL _ _ _ _ 734 [(4, vI i), (3, .ref o), (2, .ref m), (1, .ref x), (0, .ref 0)] [vI z3384] _ H3378
    refine wl_of hX hb cL_734 (rw_aload_n (pc' := 735) (v := .ref m) rfl rfl rfl ?_)
    refine wl_of hX hb cL_735 (rw_aload_n (pc' := 736) (v := .ref 0) rfl rfl rfl ?_)
    refine wl_of hX hb cL_736 (rw_iload (pc' := 738) (z := i) rfl rfl ?_)
    refine wl_of hX hb cL_738 (rw_iconst (pc' := 739) rfl ?_)
    refine wl_of hX hb cL_739 (rw_iadd (pc' := 740) rfl ?_)
    have k3489 : H3378 0 ((i + 1).toNat) = H 0 ((i + 1).toNat) := (f3383 0 ((i + 1).toNat) _ g0 (wmem_s rfl))
    refine wl_of hX hb cL_740 (xa_I (so := 0) (pc' := 741) (a := 0) w3382 g0 (wsh_s _) (by omega) (wty_s _ _) (by omega) (by omega) rfl (fun b3487 b3488 => ?_))
    refine wl_of hX hb cL_741 (rw_aload_n (pc' := 742) (v := .ref 0) rfl rfl rfl ?_)
    refine wl_of hX hb cL_742 (rw_iload (pc' := 744) (z := i) rfl rfl ?_)
    refine wl_of hX hb cL_744 (rw_iconst (pc' := 745) rfl ?_)
    refine wl_of hX hb cL_745 (rw_iadd (pc' := 746) rfl ?_)
    have k3492 : H3378 0 ((i + 2).toNat) = H 0 ((i + 2).toNat) := (f3383 0 ((i + 2).toNat) _ g0 (wmem_s rfl))
    refine wl_of hX hb cL_746 (xa_I (so := 0) (pc' := 747) (a := 0) w3382 g0 (wsh_s _) (by omega) (wty_s _ _) (by omega) (by omega) rfl (fun b3490 b3491 => ?_))
    have k3493 : wKI H3378 m = wKI H m := (wKI_fr hW gm f3383 rfl)
    have k3494 : H3378 x 9 = H x 9 := (f3383 x 9 _ gx rfl)
    have k3495 : H3378 m 6 = H m 6 := (f3383 m 6 _ gm rfl)
    have k3496 : H3378 x 11 = H x 11 := (f3383 x 11 _ gx rfl)
    have k3497 : H3378 m 13 = H m 13 := (f3383 m 13 _ gm rfl)
    have k3498 : H3378 x 8 = H x 8 := (f3383 x 8 _ gx rfl)
    have k3499 : H3378 m 3 = H m 3 := (f3383 m 3 _ gm rfl)
    rw [show H3378 0 ((i + 2).toNat) = H 0 ((i + 2).toNat) by omega]
    rw [show H3378 0 ((i + 1).toNat) = H 0 ((i + 1).toNat) by omega]
    have h3500 : RB T H3378 m e8 d8 := (RB_fr hW gm f3383 rfl hrb8)
    have h3501 : KNN T H3378 m e8 d8 := (KNN_fr hW gm f3383 rfl hknn8)
    refine wl_of hX hb cL_747 (xc_V (pc' := 750) (r := m) (as := [vI (H 0 ((i + 1).toNat)), vI (H 0 ((i + 2).toNat))]) (st := [vI z3384]) (lm_11_100) rfl rfl (Nat.le_of_ble_eq_true rfl) w3382 gm sh_42 (by decide) rfl (by decide) (u_249 (e := e8) (d := d8) w3382 gm ⟨by omega, by omega⟩ ⟨by omega, by omega⟩ (by omega) (by assumption) (by assumption) (by assumption) (by assumption) h3500 h3501) (fun R3502 T3503 H3504 p3505 => ?_))
    obtain ⟨e3506, w3508, f3509, z3510, e3507, b3511, p3512⟩ := p3505
    subst e3506
    subst e3507
    rcases p3512 with ⟨a3513, a3514, a3515, a3516⟩ | ⟨a3517, a3518, a3519, a3520⟩
    · show WL _ _ _ _ 750 [(4, vI i), (3, .ref o), (2, .ref m), (1, .ref x), (0, .ref 0)] [vI z3510, vI z3384] _ H3504
      refine wl_of hX hb cL_750 (rw_icmp_eq (p1 := 1653) (p2 := 753) (by decide) rfl ⟨b3385.1, b3385.2⟩ ⟨b3511.1, b3511.2⟩ (fun c3521 => ?_) (fun c3521 => ?_))
      · have k3522 : H3504 x 9 = H3378 x 9 := (f3509 x 9 _ gx rfl)
        have k3523 : H3504 m 6 = H3378 m 6 := (f3509 m 6 _ gm rfl)
        have k3524 : H3504 x 11 = H3378 x 11 := (f3509 x 11 _ gx rfl)
        have k3525 : H3504 m 13 = H3378 m 13 := (f3509 m 13 _ gm rfl)
        have k3526 : H3504 x 8 = H3378 x 8 := (f3509 x 8 _ gx rfl)
        have k3527 : H3504 m 3 = H3378 m 3 := (f3509 m 3 _ gm rfl)
        have k3528 : H3504 x 0 = H x 0 := ((f3509 x 0 _ gx rfl).trans (f3383 x 0 _ gx rfl))
        have q3529 : H3504 x 0 = (tc : Int) := k3528.trans e0
        have k3530 : H3504 m 5 = H m 5 := ((f3509 m 5 _ gm rfl).trans (f3383 m 5 _ gm rfl))
        have q3531 : H3504 m 5 = (tm : Int) := k3530.trans em
        have k3532 : H3504 x 6 = H x 6 := ((f3509 x 6 _ gx rfl).trans (f3383 x 6 _ gx rfl))
        have q3533 : H3504 x 6 = (cu : Int) := k3532.trans ecu
        have k3534 : H3504 x 7 = H x 7 := ((f3509 x 7 _ gx rfl).trans (f3383 x 7 _ gx rfl))
        have q3535 : H3504 x 7 = (dr : Int) := k3534.trans edr
        have h3536 : CEN T H3504 ce8 e8 d8 := (CEN_fr w3382 gce8 f3509 rfl a3392)
        have h3537 : TP T H3504 tc B := (TP_fr w3382 gtc f3509 rfl (TP_fr hW gtc f3383 rfl htc))
        have h3538 : TM T H3504 tm B := (TM_fr w3382 gtm f3509 rfl (TM_fr hW gtm f3383 rfl htm))
        have h3539 : DD T H3504 cu  := (DD_fr w3382 gcu f3509 rfl (DD_fr hW gcu f3383 rfl hcu))
        have h3540 : DD T H3504 dr  := (DD_fr w3382 gdr f3509 rfl (DD_fr hW gdr f3383 rfl hdr))
        have h3541 : DE T H3504 cu  := (DE_fr w3382 gcu f3509 rfl (DE_fr hW gcu f3383 rfl hdec))
        have h3542 : DE T H3504 dr  := (DE_fr w3382 gdr f3509 rfl (DE_fr hW gdr f3383 rfl hded))
        have h3543 : SP T H3504 x C8 := (SP_fr w3382 gx f3509 rfl (SP_fr hW gx f3383 rfl hsp))
        have h3544 : CU T H3504 cu e8 d8 n8 := (CU_fr w3382 gcu f3509 rfl (CU_fr hW gcu f3383 rfl hcu8))
        have h3545 : CY T H3504 cu (d8 0 3) g8 (H cu 17) := (CY_fr w3382 gcu f3509 rfl (CY_fr hW gcu f3383 rfl h3371))
        have k3546 : H3504 x 3 = H x 3 := ((f3509 x 3 _ gx rfl).trans (f3383 x 3 _ gx rfl))
        have q3547 : H3504 x 3 = (ce8 : Int) := k3546.trans ece8
        have h3548 : HDR T H3504 ce8  := (HDR_fr w3382 gce8 f3509 rfl (HDR_fr hW gce8 f3383 rfl hhdr8))
        have h3549 : RY T H3504 m (d8 0 3) g8 (H m 32) := (RY_fr w3382 gm f3509 rfl (RY_fr hW gm f3383 rfl h3372))
        have h3550 : RB T H3504 m e8 d8 := (RB_fr w3382 gm f3509 rfl h3500)
        exact WL.loc hX (by simp) (next T H3504 ⟨⟨w3508, g0, gx, gm, go, by omega, by omega⟩, ⟨_, tc, tm, cu, dr, _, _, _, _, _, ce8, q3529, gtc, h3537, q3531, gtm, h3538, q3533, gcu, q3535, gdr, h3539, h3540, h3541, h3542, h3543, hC1, hC2, h3544, h3550, (h3545).1, (h3549).1, hE, hZ, (by omega), (by assumption), (by omega), (by first | assumption | exact SG_0), q3547, gce8, h3536, h3548, a3516, gm⟩, by omega, by omega⟩ (by omega) (by omega))
      · refine wl_of hX hb cL_753 (rw_iconst (pc' := 754) rfl ?_)
        exfalso
        omega
    · show WL _ _ _ _ 750 [(4, vI i), (3, .ref o), (2, .ref m), (1, .ref x), (0, .ref 0)] [vI z3510, vI z3384] _ H3504
      refine wl_of hX hb cL_750 (rw_icmp_eq (p1 := 1653) (p2 := 753) (by decide) rfl ⟨b3385.1, b3385.2⟩ ⟨b3511.1, b3511.2⟩ (fun c3551 => ?_) (fun c3551 => ?_))
      · have k3552 : H3504 x 9 = H3378 x 9 := (f3509 x 9 _ gx rfl)
        have k3553 : H3504 m 6 = H3378 m 6 := (f3509 m 6 _ gm rfl)
        have k3554 : H3504 x 11 = H3378 x 11 := (f3509 x 11 _ gx rfl)
        have k3555 : H3504 m 13 = H3378 m 13 := (f3509 m 13 _ gm rfl)
        have k3556 : H3504 x 8 = H3378 x 8 := (f3509 x 8 _ gx rfl)
        have k3557 : H3504 m 3 = H3378 m 3 := (f3509 m 3 _ gm rfl)
        have k3558 : H3504 x 0 = H x 0 := ((f3509 x 0 _ gx rfl).trans (f3383 x 0 _ gx rfl))
        have q3559 : H3504 x 0 = (tc : Int) := k3558.trans e0
        have k3560 : H3504 m 5 = H m 5 := ((f3509 m 5 _ gm rfl).trans (f3383 m 5 _ gm rfl))
        have q3561 : H3504 m 5 = (tm : Int) := k3560.trans em
        have k3562 : H3504 x 6 = H x 6 := ((f3509 x 6 _ gx rfl).trans (f3383 x 6 _ gx rfl))
        have q3563 : H3504 x 6 = (cu : Int) := k3562.trans ecu
        have k3564 : H3504 x 7 = H x 7 := ((f3509 x 7 _ gx rfl).trans (f3383 x 7 _ gx rfl))
        have q3565 : H3504 x 7 = (dr : Int) := k3564.trans edr
        have h3566 : CEN T H3504 ce8 e8 d8 := (CEN_fr w3382 gce8 f3509 rfl a3392)
        have h3567 : TP T H3504 tc B := (TP_fr w3382 gtc f3509 rfl (TP_fr hW gtc f3383 rfl htc))
        have h3568 : TM T H3504 tm B := (TM_fr w3382 gtm f3509 rfl (TM_fr hW gtm f3383 rfl htm))
        have h3569 : DD T H3504 cu  := (DD_fr w3382 gcu f3509 rfl (DD_fr hW gcu f3383 rfl hcu))
        have h3570 : DD T H3504 dr  := (DD_fr w3382 gdr f3509 rfl (DD_fr hW gdr f3383 rfl hdr))
        have h3571 : DE T H3504 cu  := (DE_fr w3382 gcu f3509 rfl (DE_fr hW gcu f3383 rfl hdec))
        have h3572 : DE T H3504 dr  := (DE_fr w3382 gdr f3509 rfl (DE_fr hW gdr f3383 rfl hded))
        have h3573 : SP T H3504 x C8 := (SP_fr w3382 gx f3509 rfl (SP_fr hW gx f3383 rfl hsp))
        have h3574 : CU T H3504 cu e8 d8 n8 := (CU_fr w3382 gcu f3509 rfl (CU_fr hW gcu f3383 rfl hcu8))
        have h3575 : CY T H3504 cu (d8 0 3) g8 (H cu 17) := (CY_fr w3382 gcu f3509 rfl (CY_fr hW gcu f3383 rfl h3371))
        have k3576 : H3504 x 3 = H x 3 := ((f3509 x 3 _ gx rfl).trans (f3383 x 3 _ gx rfl))
        have q3577 : H3504 x 3 = (ce8 : Int) := k3576.trans ece8
        have h3578 : HDR T H3504 ce8  := (HDR_fr w3382 gce8 f3509 rfl (HDR_fr hW gce8 f3383 rfl hhdr8))
        have h3579 : RY T H3504 m (d8 0 3) g8 (H m 32) := (RY_fr w3382 gm f3509 rfl (RY_fr hW gm f3383 rfl h3372))
        have h3580 : RB T H3504 m e8 d8 := (RB_fr w3382 gm f3509 rfl h3500)
        exact WL.loc hX (by simp) (next T H3504 ⟨⟨w3508, g0, gx, gm, go, by omega, by omega⟩, ⟨_, tc, tm, cu, dr, _, _, _, _, _, ce8, q3559, gtc, h3567, q3561, gtm, h3568, q3563, gcu, q3565, gdr, h3569, h3570, h3571, h3572, h3573, hC1, hC2, h3574, h3580, (h3575).1, (h3579).1, hE, hZ, (by omega), (by assumption), (by omega), (by first | assumption | exact SG_0), q3577, gce8, h3566, h3578, a3520, gm⟩, by omega, by omega⟩ (by omega) (by omega))
      · refine wl_of hX hb cL_753 (rw_iconst (pc' := 754) rfl ?_)
        exfalso
        omega
set_option maxHeartbeats 4000000 in
theorem wl_c19 {kt : Nat → Option mc_E} {CB SB : Nat} {X : mc_S → Prop} {T : wq_T} {H : wq_H} {Len x m o : Nat} {i : Int} (hX : wlX kt CB SB X) (hb : T.2.1 ≤ CB ∧ T.2.2.1 ≤ SB) (hI : wlJ Len x m o T H) (hL : Len ≤ 3072) (hi : 0 ≤ i ∧ i + 6 ≤ Len) (hb2 : T.2.1 + 20 ≤ CB ∧ T.2.2.1 + 500 ≤ SB)  (next : ∀ T' H', wlJ Len x m o T' H' → T'.2.1 ≤ T.2.1 + 20 → T'.2.2.1 ≤ T.2.2.1 + 500 → WL kt CB SB X 1653 (wlL i x m o) [] T' H') : WL kt CB SB X 755 (wlL i x m o) [] T H := by
  obtain ⟨⟨hW, g0, gx, gm, go, hK, hr⟩, hXI, hY1, hY2⟩ := hI
  refine wl_of hX hb cL_755 (rw_aload_n (pc' := 756) (v := .ref x) rfl rfl rfl ?_)
  refine wl_of hX hb cL_756 (rw_aload_n (pc' := 757) (v := .ref 0) rfl rfl rfl ?_)
  refine wl_of hX hb cL_757 (rw_iload (pc' := 759) (z := i) rfl rfl ?_)
  refine wl_of hX hb cL_759 (rw_iconst (pc' := 760) rfl ?_)
  refine wl_of hX hb cL_760 (rw_iadd (pc' := 761) rfl ?_)
  refine wl_of hX hb cL_761 (xa_I (so := 0) (pc' := 762) (a := 0) hW g0 (wsh_s _) (by omega) (wty_s _ _) (by omega) (by omega) rfl (fun b3581 b3582 => ?_))
  refine wl_of hX hb cL_762 (rw_aload_n (pc' := 763) (v := .ref 0) rfl rfl rfl ?_)
  refine wl_of hX hb cL_763 (rw_iload (pc' := 765) (z := i) rfl rfl ?_)
  refine wl_of hX hb cL_765 (rw_iconst (pc' := 766) rfl ?_)
  refine wl_of hX hb cL_766 (rw_iadd (pc' := 767) rfl ?_)
  refine wl_of hX hb cL_767 (xa_I (so := 0) (pc' := 768) (a := 0) hW g0 (wsh_s _) (by omega) (wty_s _ _) (by omega) (by omega) rfl (fun b3583 b3584 => ?_))
  obtain ⟨B, tc, tm, cu, dr, C8, e8, d8, n8, g8, ce8, e0, gtc, htc, em, gtm, htm, ecu, gcu, edr, gdr, hcu, hdr, hdec, hded, hsp, hC1, hC2, hcu8, hrb8, hcg8, hmn8, hE, hZ, hn8, hXA, hV8, hSG, ece8, gce8, hcen8, hhdr8, hknn8, -⟩ := hXI
  have hN3 := RB_n3 hrb8
  have hE13 : ∀ h : Nat, h < 24 → 0 ≤ e8 13 h ∧ e8 13 h ≤ 100 := fun k hk => by
    obtain ⟨s, h1, h2, h3⟩ := hcu8.1.2.2.1
    exact ⟨(h3 k hk).1, (h3 k hk).2.1⟩
  have hXW := hXA.1
  have hXN := hXA.2
  have hE0 : e8 0 3 = d8 0 3 ∧ e8 0 0 = d8 0 0 := by
    have h := hE 0 (by decide)
    exact ⟨congrFun h 3, congrFun h 0⟩
  have u3585 := CU_k hcu8
  have h3586 : CY T H cu (d8 0 3) g8 (H cu 17) := ⟨hcg8, rfl⟩
  have h3587 : RY T H m (d8 0 3) g8 (H m 32) := ⟨hmn8, rfl⟩
  obtain ⟨t9, ht9⟩ : ∃ t : Int, t = H x 9 := ⟨_, rfl⟩
  obtain ⟨y9, hy9⟩ : ∃ y : Int, y = H 0 ((i + 2).toNat) := ⟨_, rfl⟩
  obtain ⟨r3588, q3589, g3590⟩ := hW.ref gx (t' := 6) (n := 13) (j := 2) (p := 0) (q := 0) rfl (by decide) rfl
  refine wl_of hX hb cL_768 (xc_V (pc' := 771) (r := x) (as := [vI (H 0 ((i + 1).toNat)), vI (H 0 ((i + 2).toNat))]) (st := []) (lm_11_101) rfl rfl (Nat.le_of_ble_eq_true rfl) hW gx sh_1 (by decide) rfl (by decide) (u_99 (e := e8) (d := d8) (n := n8) hW gx ⟨by omega, by omega⟩ ⟨by omega, by omega⟩ ecu gcu q3589 g3590 ece8 gce8 (by assumption) (by assumption) (by omega) (by omega) (by omega) (by omega) hcu8 hcen8 hhdr8) (fun R3591 T3592 H3593 p3594 => ?_))
  obtain ⟨e3595, w3597, f3598, z3599, e3596, b3600, p3601⟩ := p3594
  subst e3595
  subst e3596
  show WL _ _ _ _ 771 [(4, vI i), (3, .ref o), (2, .ref m), (1, .ref x), (0, .ref 0)] [vI z3599] _ H3593
  refine wl_of hX hb cL_771 (rw_pop (pc' := 772) rfl rfl ?_)
  refine wl_of hX hb cL_772 (rw_aload_n (pc' := 773) (v := .ref m) rfl rfl rfl ?_)
  refine wl_of hX hb cL_773 (rw_aload_n (pc' := 774) (v := .ref 0) rfl rfl rfl ?_)
  refine wl_of hX hb cL_774 (rw_iload (pc' := 776) (z := i) rfl rfl ?_)
  refine wl_of hX hb cL_776 (rw_iconst (pc' := 777) rfl ?_)
  refine wl_of hX hb cL_777 (rw_iadd (pc' := 778) rfl ?_)
  have k3605 : H3593 0 ((i + 1).toNat) = H 0 ((i + 1).toNat) := (f3598 0 ((i + 1).toNat) _ g0 (wmem_s rfl))
  refine wl_of hX hb cL_778 (xa_I (so := 0) (pc' := 779) (a := 0) w3597 g0 (wsh_s _) (by omega) (wty_s _ _) (by omega) (by omega) rfl (fun b3603 b3604 => ?_))
  refine wl_of hX hb cL_779 (rw_aload_n (pc' := 780) (v := .ref 0) rfl rfl rfl ?_)
  refine wl_of hX hb cL_780 (rw_iload (pc' := 782) (z := i) rfl rfl ?_)
  refine wl_of hX hb cL_782 (rw_iconst (pc' := 783) rfl ?_)
  refine wl_of hX hb cL_783 (rw_iadd (pc' := 784) rfl ?_)
  have k3608 : H3593 0 ((i + 2).toNat) = H 0 ((i + 2).toNat) := (f3598 0 ((i + 2).toNat) _ g0 (wmem_s rfl))
  refine wl_of hX hb cL_784 (xa_I (so := 0) (pc' := 785) (a := 0) w3597 g0 (wsh_s _) (by omega) (wty_s _ _) (by omega) (by omega) rfl (fun b3606 b3607 => ?_))
  have k3609 : wKI H3593 m = wKI H m := (wKI_fr hW gm f3598 rfl)
  have k3610 : H3593 x 9 = H x 9 := (f3598 x 9 _ gx rfl)
  have k3611 : H3593 m 6 = H m 6 := (f3598 m 6 _ gm rfl)
  have k3612 : H3593 x 11 = H x 11 := (f3598 x 11 _ gx rfl)
  have k3613 : H3593 m 13 = H m 13 := (f3598 m 13 _ gm rfl)
  have k3614 : H3593 x 8 = H x 8 := (f3598 x 8 _ gx rfl)
  have k3615 : H3593 m 3 = H m 3 := (f3598 m 3 _ gm rfl)
  rw [show H3593 0 ((i + 2).toNat) = H 0 ((i + 2).toNat) by omega]
  rw [show H3593 0 ((i + 1).toNat) = H 0 ((i + 1).toNat) by omega]
  have h3616 : RB T H3593 m e8 d8 := (RB_fr hW gm f3598 rfl hrb8)
  have h3617 : KNN T H3593 m e8 d8 := (KNN_fr hW gm f3598 rfl hknn8)
  refine wl_of hX hb cL_785 (xc_V (pc' := 788) (r := m) (as := [vI (H 0 ((i + 1).toNat)), vI (H 0 ((i + 2).toNat))]) (st := []) (lm_11_104) rfl rfl (Nat.le_of_ble_eq_true rfl) w3597 gm sh_42 (by decide) rfl (by decide) (u_250 (e := e8) (d := d8) w3597 gm ⟨by omega, by omega⟩ ⟨by omega, by omega⟩ (by omega) (by assumption) (by assumption) (by assumption) (by assumption) h3616 h3617) (fun R3618 T3619 H3620 p3621 => ?_))
  obtain ⟨e3622, w3624, f3625, z3626, e3623, b3627, p3628⟩ := p3621
  subst e3622
  subst e3623
  obtain ⟨a3629, a3630⟩ := p3628
  show WL _ _ _ _ 788 [(4, vI i), (3, .ref o), (2, .ref m), (1, .ref x), (0, .ref 0)] [vI z3626] _ H3620
  refine wl_of hX hb cL_788 (rw_pop (pc' := 789) rfl rfl ?_)
  refine wl_of hX hb cL_789 (rw_goto (p1 := 1653) (by decide) ?_)
  have k3631 : H3620 x 9 = H3593 x 9 := (f3625 x 9 _ gx rfl)
  have k3632 : H3620 m 6 = H3593 m 6 := (f3625 m 6 _ gm rfl)
  have k3633 : H3620 x 11 = H3593 x 11 := (f3625 x 11 _ gx rfl)
  have k3634 : H3620 m 13 = H3593 m 13 := (f3625 m 13 _ gm rfl)
  have k3635 : H3620 x 8 = H3593 x 8 := (f3625 x 8 _ gx rfl)
  have k3636 : H3620 m 3 = H3593 m 3 := (f3625 m 3 _ gm rfl)
  have k3637 : H3620 x 0 = H x 0 := ((f3625 x 0 _ gx rfl).trans (f3598 x 0 _ gx rfl))
  have q3638 : H3620 x 0 = (tc : Int) := k3637.trans e0
  have k3639 : H3620 m 5 = H m 5 := ((f3625 m 5 _ gm rfl).trans (f3598 m 5 _ gm rfl))
  have q3640 : H3620 m 5 = (tm : Int) := k3639.trans em
  have k3641 : H3620 x 6 = H x 6 := ((f3625 x 6 _ gx rfl).trans (f3598 x 6 _ gx rfl))
  have q3642 : H3620 x 6 = (cu : Int) := k3641.trans ecu
  have k3643 : H3620 x 7 = H x 7 := ((f3625 x 7 _ gx rfl).trans (f3598 x 7 _ gx rfl))
  have q3644 : H3620 x 7 = (dr : Int) := k3643.trans edr
  have h3645 : CEN T H3620 ce8 e8 d8 := (CEN_fr w3597 gce8 f3625 rfl p3601)
  have h3646 : TP T H3620 tc B := (TP_fr w3597 gtc f3625 rfl (TP_fr hW gtc f3598 rfl htc))
  have h3647 : TM T H3620 tm B := (TM_fr w3597 gtm f3625 rfl (TM_fr hW gtm f3598 rfl htm))
  have h3648 : DD T H3620 cu  := (DD_fr w3597 gcu f3625 rfl (DD_fr hW gcu f3598 rfl hcu))
  have h3649 : DD T H3620 dr  := (DD_fr w3597 gdr f3625 rfl (DD_fr hW gdr f3598 rfl hdr))
  have h3650 : DE T H3620 cu  := (DE_fr w3597 gcu f3625 rfl (DE_fr hW gcu f3598 rfl hdec))
  have h3651 : DE T H3620 dr  := (DE_fr w3597 gdr f3625 rfl (DE_fr hW gdr f3598 rfl hded))
  have h3652 : SP T H3620 x C8 := (SP_fr w3597 gx f3625 rfl (SP_fr hW gx f3598 rfl hsp))
  have h3653 : CU T H3620 cu e8 d8 n8 := (CU_fr w3597 gcu f3625 rfl (CU_fr hW gcu f3598 rfl hcu8))
  have h3654 : CY T H3620 cu (d8 0 3) g8 (H cu 17) := (CY_fr w3597 gcu f3625 rfl (CY_fr hW gcu f3598 rfl h3586))
  have k3655 : H3620 x 3 = H x 3 := ((f3625 x 3 _ gx rfl).trans (f3598 x 3 _ gx rfl))
  have q3656 : H3620 x 3 = (ce8 : Int) := k3655.trans ece8
  have h3657 : HDR T H3620 ce8  := (HDR_fr w3597 gce8 f3625 rfl (HDR_fr hW gce8 f3598 rfl hhdr8))
  have h3658 : RY T H3620 m (d8 0 3) g8 (H m 32) := (RY_fr w3597 gm f3625 rfl (RY_fr hW gm f3598 rfl h3587))
  have h3659 : RB T H3620 m e8 d8 := (RB_fr w3597 gm f3625 rfl h3616)
  exact WL.loc hX (by simp) (next T H3620 ⟨⟨w3624, g0, gx, gm, go, by omega, by omega⟩, ⟨_, tc, tm, cu, dr, _, _, _, _, _, ce8, q3638, gtc, h3646, q3640, gtm, h3647, q3642, gcu, q3644, gdr, h3648, h3649, h3650, h3651, h3652, hC1, hC2, h3653, h3659, (h3654).1, (h3658).1, hE, hZ, (by omega), (by assumption), (by omega), (by first | assumption | exact SG_0), q3656, gce8, h3645, h3657, a3630, gm⟩, by omega, by omega⟩ (by omega) (by omega))
set_option maxHeartbeats 4000000 in
theorem wl_c20 {kt : Nat → Option mc_E} {CB SB : Nat} {X : mc_S → Prop} {T : wq_T} {H : wq_H} {Len x m o : Nat} {i : Int} (hX : wlX kt CB SB X) (hb : T.2.1 ≤ CB ∧ T.2.2.1 ≤ SB) (hI : wlJ Len x m o T H) (hL : Len ≤ 3072) (hi : 0 ≤ i ∧ i + 6 ≤ Len) (hb2 : T.2.1 + 20 ≤ CB ∧ T.2.2.1 + 500 ≤ SB)  (next : ∀ T' H', wlJ Len x m o T' H' → T'.2.1 ≤ T.2.1 + 20 → T'.2.2.1 ≤ T.2.2.1 + 500 → WL kt CB SB X 1653 (wlL i x m o) [] T' H') : WL kt CB SB X 792 (wlL i x m o) [] T H := by
  obtain ⟨⟨hW, g0, gx, gm, go, hK, hr⟩, hXI, hY1, hY2⟩ := hI
  refine wl_of hX hb cL_792 (rw_aload_n (pc' := 793) (v := .ref x) rfl rfl rfl ?_)
  refine wl_of hX hb cL_793 (rw_aload_n (pc' := 794) (v := .ref 0) rfl rfl rfl ?_)
  refine wl_of hX hb cL_794 (rw_iload (pc' := 796) (z := i) rfl rfl ?_)
  refine wl_of hX hb cL_796 (rw_iconst (pc' := 797) rfl ?_)
  refine wl_of hX hb cL_797 (rw_iadd (pc' := 798) rfl ?_)
  refine wl_of hX hb cL_798 (xa_I (so := 0) (pc' := 799) (a := 0) hW g0 (wsh_s _) (by omega) (wty_s _ _) (by omega) (by omega) rfl (fun b3660 b3661 => ?_))
  refine wl_of hX hb cL_799 (rw_aload_n (pc' := 800) (v := .ref 0) rfl rfl rfl ?_)
  refine wl_of hX hb cL_800 (rw_iload (pc' := 802) (z := i) rfl rfl ?_)
  refine wl_of hX hb cL_802 (rw_iconst (pc' := 803) rfl ?_)
  refine wl_of hX hb cL_803 (rw_iadd (pc' := 804) rfl ?_)
  refine wl_of hX hb cL_804 (xa_I (so := 0) (pc' := 805) (a := 0) hW g0 (wsh_s _) (by omega) (wty_s _ _) (by omega) (by omega) rfl (fun b3662 b3663 => ?_))
  obtain ⟨B, tc, tm, cu, dr, C8, e8, d8, n8, g8, ce8, e0, gtc, htc, em, gtm, htm, ecu, gcu, edr, gdr, hcu, hdr, hdec, hded, hsp, hC1, hC2, hcu8, hrb8, hcg8, hmn8, hE, hZ, hn8, hXA, hV8, hSG, ece8, gce8, hcen8, hhdr8, hknn8, -⟩ := hXI
  have hN3 := RB_n3 hrb8
  have hE13 : ∀ h : Nat, h < 24 → 0 ≤ e8 13 h ∧ e8 13 h ≤ 100 := fun k hk => by
    obtain ⟨s, h1, h2, h3⟩ := hcu8.1.2.2.1
    exact ⟨(h3 k hk).1, (h3 k hk).2.1⟩
  have hXW := hXA.1
  have hXN := hXA.2
  have hE0 : e8 0 3 = d8 0 3 ∧ e8 0 0 = d8 0 0 := by
    have h := hE 0 (by decide)
    exact ⟨congrFun h 3, congrFun h 0⟩
  have u3664 := CU_k hcu8
  have h3665 : CY T H cu (d8 0 3) g8 (H cu 17) := ⟨hcg8, rfl⟩
  have h3666 : RY T H m (d8 0 3) g8 (H m 32) := ⟨hmn8, rfl⟩
  obtain ⟨t9, ht9⟩ : ∃ t : Int, t = H x 9 := ⟨_, rfl⟩
  obtain ⟨y9, hy9⟩ : ∃ y : Int, y = H 0 ((i + 2).toNat) := ⟨_, rfl⟩
  obtain ⟨r3667, q3668, g3669⟩ := hW.ref gx (t' := 6) (n := 13) (j := 2) (p := 0) (q := 0) rfl (by decide) rfl
  refine wl_of hX hb cL_805 (xc_V (pc' := 808) (r := x) (as := [vI (H 0 ((i + 1).toNat)), vI (H 0 ((i + 2).toNat))]) (st := []) (lm_11_105) rfl rfl (Nat.le_of_ble_eq_true rfl) hW gx sh_1 (by decide) rfl (by decide) (u_101 (e := e8) (d := d8) (n := n8) hW gx ⟨by omega, by omega⟩ ⟨by omega, by omega⟩ ecu gcu q3668 g3669 ece8 gce8 (by assumption) (by assumption) (by omega) (by omega) (by omega) (by omega) hcu8 hcen8 hhdr8) (fun R3670 T3671 H3672 p3673 => ?_))
  obtain ⟨e3674, w3676, f3677, z3678, e3675, b3679, p3680⟩ := p3673
  subst e3674
  subst e3675
  show WL _ _ _ _ 808 [(4, vI i), (3, .ref o), (2, .ref m), (1, .ref x), (0, .ref 0)] [vI z3678] _ H3672
  refine wl_of hX hb cL_808 (rw_pop (pc' := 809) rfl rfl ?_)
  refine wl_of hX hb cL_809 (rw_aload_n (pc' := 810) (v := .ref m) rfl rfl rfl ?_)
  refine wl_of hX hb cL_810 (rw_aload_n (pc' := 811) (v := .ref 0) rfl rfl rfl ?_)
  refine wl_of hX hb cL_811 (rw_iload (pc' := 813) (z := i) rfl rfl ?_)
  refine wl_of hX hb cL_813 (rw_iconst (pc' := 814) rfl ?_)
  refine wl_of hX hb cL_814 (rw_iadd (pc' := 815) rfl ?_)
  have k3684 : H3672 0 ((i + 1).toNat) = H 0 ((i + 1).toNat) := (f3677 0 ((i + 1).toNat) _ g0 (wmem_s rfl))
  refine wl_of hX hb cL_815 (xa_I (so := 0) (pc' := 816) (a := 0) w3676 g0 (wsh_s _) (by omega) (wty_s _ _) (by omega) (by omega) rfl (fun b3682 b3683 => ?_))
  refine wl_of hX hb cL_816 (rw_aload_n (pc' := 817) (v := .ref 0) rfl rfl rfl ?_)
  refine wl_of hX hb cL_817 (rw_iload (pc' := 819) (z := i) rfl rfl ?_)
  refine wl_of hX hb cL_819 (rw_iconst (pc' := 820) rfl ?_)
  refine wl_of hX hb cL_820 (rw_iadd (pc' := 821) rfl ?_)
  have k3687 : H3672 0 ((i + 2).toNat) = H 0 ((i + 2).toNat) := (f3677 0 ((i + 2).toNat) _ g0 (wmem_s rfl))
  refine wl_of hX hb cL_821 (xa_I (so := 0) (pc' := 822) (a := 0) w3676 g0 (wsh_s _) (by omega) (wty_s _ _) (by omega) (by omega) rfl (fun b3685 b3686 => ?_))
  have k3688 : wKI H3672 m = wKI H m := (wKI_fr hW gm f3677 rfl)
  have k3689 : H3672 x 9 = H x 9 := (f3677 x 9 _ gx rfl)
  have k3690 : H3672 m 6 = H m 6 := (f3677 m 6 _ gm rfl)
  have k3691 : H3672 x 11 = H x 11 := (f3677 x 11 _ gx rfl)
  have k3692 : H3672 m 13 = H m 13 := (f3677 m 13 _ gm rfl)
  have k3693 : H3672 x 8 = H x 8 := (f3677 x 8 _ gx rfl)
  have k3694 : H3672 m 3 = H m 3 := (f3677 m 3 _ gm rfl)
  rw [show H3672 0 ((i + 2).toNat) = H 0 ((i + 2).toNat) by omega]
  rw [show H3672 0 ((i + 1).toNat) = H 0 ((i + 1).toNat) by omega]
  have h3695 : RB T H3672 m e8 d8 := (RB_fr hW gm f3677 rfl hrb8)
  have h3696 : KNN T H3672 m e8 d8 := (KNN_fr hW gm f3677 rfl hknn8)
  refine wl_of hX hb cL_822 (xc_V (pc' := 825) (r := m) (as := [vI (H 0 ((i + 1).toNat)), vI (H 0 ((i + 2).toNat))]) (st := []) (lm_11_108) rfl rfl (Nat.le_of_ble_eq_true rfl) w3676 gm sh_42 (by decide) rfl (by decide) (u_252 (e := e8) (d := d8) w3676 gm ⟨by omega, by omega⟩ ⟨by omega, by omega⟩ (by omega) (by assumption) (by assumption) (by assumption) (by assumption) h3695 h3696) (fun R3697 T3698 H3699 p3700 => ?_))
  obtain ⟨e3701, w3703, f3704, z3705, e3702, b3706, p3707⟩ := p3700
  subst e3701
  subst e3702
  obtain ⟨a3708, a3709⟩ := p3707
  show WL _ _ _ _ 825 [(4, vI i), (3, .ref o), (2, .ref m), (1, .ref x), (0, .ref 0)] [vI z3705] _ H3699
  refine wl_of hX hb cL_825 (rw_pop (pc' := 826) rfl rfl ?_)
  refine wl_of hX hb cL_826 (rw_goto (p1 := 1653) (by decide) ?_)
  have k3710 : H3699 x 9 = H3672 x 9 := (f3704 x 9 _ gx rfl)
  have k3711 : H3699 m 6 = H3672 m 6 := (f3704 m 6 _ gm rfl)
  have k3712 : H3699 x 11 = H3672 x 11 := (f3704 x 11 _ gx rfl)
  have k3713 : H3699 m 13 = H3672 m 13 := (f3704 m 13 _ gm rfl)
  have k3714 : H3699 x 8 = H3672 x 8 := (f3704 x 8 _ gx rfl)
  have k3715 : H3699 m 3 = H3672 m 3 := (f3704 m 3 _ gm rfl)
  have k3716 : H3699 x 0 = H x 0 := ((f3704 x 0 _ gx rfl).trans (f3677 x 0 _ gx rfl))
  have q3717 : H3699 x 0 = (tc : Int) := k3716.trans e0
  have k3718 : H3699 m 5 = H m 5 := ((f3704 m 5 _ gm rfl).trans (f3677 m 5 _ gm rfl))
  have q3719 : H3699 m 5 = (tm : Int) := k3718.trans em
  have k3720 : H3699 x 6 = H x 6 := ((f3704 x 6 _ gx rfl).trans (f3677 x 6 _ gx rfl))
  have q3721 : H3699 x 6 = (cu : Int) := k3720.trans ecu
  have k3722 : H3699 x 7 = H x 7 := ((f3704 x 7 _ gx rfl).trans (f3677 x 7 _ gx rfl))
  have q3723 : H3699 x 7 = (dr : Int) := k3722.trans edr
  have h3724 : CEN T H3699 ce8 e8 d8 := (CEN_fr w3676 gce8 f3704 rfl p3680)
  have h3725 : TP T H3699 tc B := (TP_fr w3676 gtc f3704 rfl (TP_fr hW gtc f3677 rfl htc))
  have h3726 : TM T H3699 tm B := (TM_fr w3676 gtm f3704 rfl (TM_fr hW gtm f3677 rfl htm))
  have h3727 : DD T H3699 cu  := (DD_fr w3676 gcu f3704 rfl (DD_fr hW gcu f3677 rfl hcu))
  have h3728 : DD T H3699 dr  := (DD_fr w3676 gdr f3704 rfl (DD_fr hW gdr f3677 rfl hdr))
  have h3729 : DE T H3699 cu  := (DE_fr w3676 gcu f3704 rfl (DE_fr hW gcu f3677 rfl hdec))
  have h3730 : DE T H3699 dr  := (DE_fr w3676 gdr f3704 rfl (DE_fr hW gdr f3677 rfl hded))
  have h3731 : SP T H3699 x C8 := (SP_fr w3676 gx f3704 rfl (SP_fr hW gx f3677 rfl hsp))
  have h3732 : CU T H3699 cu e8 d8 n8 := (CU_fr w3676 gcu f3704 rfl (CU_fr hW gcu f3677 rfl hcu8))
  have h3733 : CY T H3699 cu (d8 0 3) g8 (H cu 17) := (CY_fr w3676 gcu f3704 rfl (CY_fr hW gcu f3677 rfl h3665))
  have k3734 : H3699 x 3 = H x 3 := ((f3704 x 3 _ gx rfl).trans (f3677 x 3 _ gx rfl))
  have q3735 : H3699 x 3 = (ce8 : Int) := k3734.trans ece8
  have h3736 : HDR T H3699 ce8  := (HDR_fr w3676 gce8 f3704 rfl (HDR_fr hW gce8 f3677 rfl hhdr8))
  have h3737 : RY T H3699 m (d8 0 3) g8 (H m 32) := (RY_fr w3676 gm f3704 rfl (RY_fr hW gm f3677 rfl h3666))
  have h3738 : RB T H3699 m e8 d8 := (RB_fr w3676 gm f3704 rfl h3695)
  exact WL.loc hX (by simp) (next T H3699 ⟨⟨w3703, g0, gx, gm, go, by omega, by omega⟩, ⟨_, tc, tm, cu, dr, _, _, _, _, _, ce8, q3717, gtc, h3725, q3719, gtm, h3726, q3721, gcu, q3723, gdr, h3727, h3728, h3729, h3730, h3731, hC1, hC2, h3732, h3738, (h3733).1, (h3737).1, hE, hZ, (by omega), (by assumption), (by omega), (by first | assumption | exact SG_0), q3735, gce8, h3724, h3736, a3709, gm⟩, by omega, by omega⟩ (by omega) (by omega))
set_option maxHeartbeats 4000000 in
theorem wl_c21 {kt : Nat → Option mc_E} {CB SB : Nat} {X : mc_S → Prop} {T : wq_T} {H : wq_H} {Len x m o : Nat} {i : Int} (hX : wlX kt CB SB X) (hb : T.2.1 ≤ CB ∧ T.2.2.1 ≤ SB) (hI : wlJ Len x m o T H) (hL : Len ≤ 3072) (hi : 0 ≤ i ∧ i + 6 ≤ Len) (hb2 : T.2.1 + 20 ≤ CB ∧ T.2.2.1 + 500 ≤ SB)  (next : ∀ T' H', wlJ Len x m o T' H' → T'.2.1 ≤ T.2.1 + 20 → T'.2.2.1 ≤ T.2.2.1 + 500 → WL kt CB SB X 1653 (wlL i x m o) [] T' H') : WL kt CB SB X 829 (wlL i x m o) [] T H := by
  obtain ⟨⟨hW, g0, gx, gm, go, hK, hr⟩, hXI, hY1, hY2⟩ := hI
  refine wl_of hX hb cL_829 (rw_aload_n (pc' := 830) (v := .ref x) rfl rfl rfl ?_)
  refine wl_of hX hb cL_830 (rw_aload_n (pc' := 831) (v := .ref 0) rfl rfl rfl ?_)
  refine wl_of hX hb cL_831 (rw_iload (pc' := 833) (z := i) rfl rfl ?_)
  refine wl_of hX hb cL_833 (rw_iconst (pc' := 834) rfl ?_)
  refine wl_of hX hb cL_834 (rw_iadd (pc' := 835) rfl ?_)
  refine wl_of hX hb cL_835 (xa_I (so := 0) (pc' := 836) (a := 0) hW g0 (wsh_s _) (by omega) (wty_s _ _) (by omega) (by omega) rfl (fun b3739 b3740 => ?_))
  refine wl_of hX hb cL_836 (rw_aload_n (pc' := 837) (v := .ref 0) rfl rfl rfl ?_)
  refine wl_of hX hb cL_837 (rw_iload (pc' := 839) (z := i) rfl rfl ?_)
  refine wl_of hX hb cL_839 (rw_iconst (pc' := 840) rfl ?_)
  refine wl_of hX hb cL_840 (rw_iadd (pc' := 841) rfl ?_)
  refine wl_of hX hb cL_841 (xa_I (so := 0) (pc' := 842) (a := 0) hW g0 (wsh_s _) (by omega) (wty_s _ _) (by omega) (by omega) rfl (fun b3741 b3742 => ?_))
  refine wl_of hX hb cL_842 (rw_if_eq (p1 := 849) (p2 := 845) (by decide) rfl ⟨by omega, by omega⟩ (fun c3743 => ?_) (fun c3743 => ?_))
  · refine wl_of hX hb cL_849 (rw_iconst (pc' := 850) rfl ?_)
    obtain ⟨B, tc, tm, cu, dr, C8, e8, d8, n8, g8, ce8, e0, gtc, htc, em, gtm, htm, ecu, gcu, edr, gdr, hcu, hdr, hdec, hded, hsp, hC1, hC2, hcu8, hrb8, hcg8, hmn8, hE, hZ, hn8, hXA, hV8, hSG, ece8, gce8, hcen8, hhdr8, hknn8, -⟩ := hXI
    have hN3 := RB_n3 hrb8
    have hE13 : ∀ h : Nat, h < 24 → 0 ≤ e8 13 h ∧ e8 13 h ≤ 100 := fun k hk => by
      obtain ⟨s, h1, h2, h3⟩ := hcu8.1.2.2.1
      exact ⟨(h3 k hk).1, (h3 k hk).2.1⟩
    have hXW := hXA.1
    have hXN := hXA.2
    have hE0 : e8 0 3 = d8 0 3 ∧ e8 0 0 = d8 0 0 := by
      have h := hE 0 (by decide)
      exact ⟨congrFun h 3, congrFun h 0⟩
    have u3744 := CU_k hcu8
    have h3745 : CY T H cu (d8 0 3) g8 (H cu 17) := ⟨hcg8, rfl⟩
    have h3746 : RY T H m (d8 0 3) g8 (H m 32) := ⟨hmn8, rfl⟩
    obtain ⟨t9, ht9⟩ : ∃ t : Int, t = H x 9 := ⟨_, rfl⟩
    obtain ⟨y9, hy9⟩ : ∃ y : Int, y = 0 := ⟨_, rfl⟩
    obtain ⟨r3747, q3748, g3749⟩ := hW.ref gx (t' := 6) (n := 13) (j := 2) (p := 0) (q := 0) rfl (by decide) rfl
    refine wl_of hX hb cL_850 (xc_V (pc' := 853) (r := x) (as := [vI (H 0 ((i + 1).toNat)), vI 0]) (st := []) (lm_11_109) rfl rfl (Nat.le_of_ble_eq_true rfl) hW gx sh_1 (by decide) rfl (by decide) (u_104 (e := e8) (d := d8) (n := n8) hW gx ⟨by omega, by omega⟩ ⟨by decide, by decide⟩ ecu gcu q3748 g3749 ece8 gce8 (by assumption) (by assumption) (by omega) (by omega) (by omega) (by omega) hcu8 hcen8 hhdr8) (fun R3750 T3751 H3752 p3753 => ?_))
    obtain ⟨e3754, w3756, f3757, z3758, e3755, b3759, p3760⟩ := p3753
    subst e3754
    subst e3755
    show WL _ _ _ _ 853 [(4, vI i), (3, .ref o), (2, .ref m), (1, .ref x), (0, .ref 0)] [vI z3758] _ H3752
    refine wl_of hX hb cL_853 (rw_pop (pc' := 854) rfl rfl ?_)
    refine wl_of hX hb cL_854 (rw_aload_n (pc' := 855) (v := .ref m) rfl rfl rfl ?_)
    refine wl_of hX hb cL_855 (rw_aload_n (pc' := 856) (v := .ref 0) rfl rfl rfl ?_)
    refine wl_of hX hb cL_856 (rw_iload (pc' := 858) (z := i) rfl rfl ?_)
    refine wl_of hX hb cL_858 (rw_iconst (pc' := 859) rfl ?_)
    refine wl_of hX hb cL_859 (rw_iadd (pc' := 860) rfl ?_)
    have k3764 : H3752 0 ((i + 1).toNat) = H 0 ((i + 1).toNat) := (f3757 0 ((i + 1).toNat) _ g0 (wmem_s rfl))
    refine wl_of hX hb cL_860 (xa_I (so := 0) (pc' := 861) (a := 0) w3756 g0 (wsh_s _) (by omega) (wty_s _ _) (by omega) (by omega) rfl (fun b3762 b3763 => ?_))
    refine wl_of hX hb cL_861 (rw_aload_n (pc' := 862) (v := .ref 0) rfl rfl rfl ?_)
    refine wl_of hX hb cL_862 (rw_iload (pc' := 864) (z := i) rfl rfl ?_)
    refine wl_of hX hb cL_864 (rw_iconst (pc' := 865) rfl ?_)
    refine wl_of hX hb cL_865 (rw_iadd (pc' := 866) rfl ?_)
    have k3767 : H3752 0 ((i + 2).toNat) = H 0 ((i + 2).toNat) := (f3757 0 ((i + 2).toNat) _ g0 (wmem_s rfl))
    refine wl_of hX hb cL_866 (xa_I (so := 0) (pc' := 867) (a := 0) w3756 g0 (wsh_s _) (by omega) (wty_s _ _) (by omega) (by omega) rfl (fun b3765 b3766 => ?_))
    refine wl_of hX hb cL_867 (rw_if_eq (p1 := 874) (p2 := 870) (by decide) rfl ⟨by omega, by omega⟩ (fun c3768 => ?_) (fun c3768 => ?_))
    · refine wl_of hX hb cL_874 (rw_iconst (pc' := 875) rfl ?_)
      have k3769 : wKI H3752 m = wKI H m := (wKI_fr hW gm f3757 rfl)
      have k3770 : H3752 x 9 = H x 9 := (f3757 x 9 _ gx rfl)
      have k3771 : H3752 m 6 = H m 6 := (f3757 m 6 _ gm rfl)
      have k3772 : H3752 x 11 = H x 11 := (f3757 x 11 _ gx rfl)
      have k3773 : H3752 m 13 = H m 13 := (f3757 m 13 _ gm rfl)
      have k3774 : H3752 x 8 = H x 8 := (f3757 x 8 _ gx rfl)
      have k3775 : H3752 m 3 = H m 3 := (f3757 m 3 _ gm rfl)
      rw [show H3752 0 ((i + 1).toNat) = H 0 ((i + 1).toNat) by omega]
      have h3776 : RB T H3752 m e8 d8 := (RB_fr hW gm f3757 rfl hrb8)
      have h3777 : KNN T H3752 m e8 d8 := (KNN_fr hW gm f3757 rfl hknn8)
      refine wl_of hX hb cL_875 (xc_V (pc' := 878) (r := m) (as := [vI (H 0 ((i + 1).toNat)), vI 0]) (st := []) (lm_11_113) rfl rfl (Nat.le_of_ble_eq_true rfl) w3756 gm sh_42 (by decide) rfl (by decide) (u_254 (e := e8) (d := d8) w3756 gm ⟨by omega, by omega⟩ ⟨by decide, by decide⟩ (by omega) (by assumption) (by assumption) (by assumption) (by assumption) h3776 h3777) (fun R3778 T3779 H3780 p3781 => ?_))
      obtain ⟨e3782, w3784, f3785, z3786, e3783, b3787, p3788⟩ := p3781
      subst e3782
      subst e3783
      obtain ⟨a3789, a3790⟩ := p3788
      show WL _ _ _ _ 878 [(4, vI i), (3, .ref o), (2, .ref m), (1, .ref x), (0, .ref 0)] [vI z3786] _ H3780
      refine wl_of hX hb cL_878 (rw_pop (pc' := 879) rfl rfl ?_)
      refine wl_of hX hb cL_879 (rw_goto (p1 := 1653) (by decide) ?_)
      have k3791 : H3780 x 9 = H3752 x 9 := (f3785 x 9 _ gx rfl)
      have k3792 : H3780 m 6 = H3752 m 6 := (f3785 m 6 _ gm rfl)
      have k3793 : H3780 x 11 = H3752 x 11 := (f3785 x 11 _ gx rfl)
      have k3794 : H3780 m 13 = H3752 m 13 := (f3785 m 13 _ gm rfl)
      have k3795 : H3780 x 8 = H3752 x 8 := (f3785 x 8 _ gx rfl)
      have k3796 : H3780 m 3 = H3752 m 3 := (f3785 m 3 _ gm rfl)
      have k3797 : H3780 x 0 = H x 0 := ((f3785 x 0 _ gx rfl).trans (f3757 x 0 _ gx rfl))
      have q3798 : H3780 x 0 = (tc : Int) := k3797.trans e0
      have k3799 : H3780 m 5 = H m 5 := ((f3785 m 5 _ gm rfl).trans (f3757 m 5 _ gm rfl))
      have q3800 : H3780 m 5 = (tm : Int) := k3799.trans em
      have k3801 : H3780 x 6 = H x 6 := ((f3785 x 6 _ gx rfl).trans (f3757 x 6 _ gx rfl))
      have q3802 : H3780 x 6 = (cu : Int) := k3801.trans ecu
      have k3803 : H3780 x 7 = H x 7 := ((f3785 x 7 _ gx rfl).trans (f3757 x 7 _ gx rfl))
      have q3804 : H3780 x 7 = (dr : Int) := k3803.trans edr
      have h3805 : CEN T H3780 ce8 e8 d8 := (CEN_fr w3756 gce8 f3785 rfl p3760)
      have h3806 : TP T H3780 tc B := (TP_fr w3756 gtc f3785 rfl (TP_fr hW gtc f3757 rfl htc))
      have h3807 : TM T H3780 tm B := (TM_fr w3756 gtm f3785 rfl (TM_fr hW gtm f3757 rfl htm))
      have h3808 : DD T H3780 cu  := (DD_fr w3756 gcu f3785 rfl (DD_fr hW gcu f3757 rfl hcu))
      have h3809 : DD T H3780 dr  := (DD_fr w3756 gdr f3785 rfl (DD_fr hW gdr f3757 rfl hdr))
      have h3810 : DE T H3780 cu  := (DE_fr w3756 gcu f3785 rfl (DE_fr hW gcu f3757 rfl hdec))
      have h3811 : DE T H3780 dr  := (DE_fr w3756 gdr f3785 rfl (DE_fr hW gdr f3757 rfl hded))
      have h3812 : SP T H3780 x C8 := (SP_fr w3756 gx f3785 rfl (SP_fr hW gx f3757 rfl hsp))
      have h3813 : CU T H3780 cu e8 d8 n8 := (CU_fr w3756 gcu f3785 rfl (CU_fr hW gcu f3757 rfl hcu8))
      have h3814 : CY T H3780 cu (d8 0 3) g8 (H cu 17) := (CY_fr w3756 gcu f3785 rfl (CY_fr hW gcu f3757 rfl h3745))
      have k3815 : H3780 x 3 = H x 3 := ((f3785 x 3 _ gx rfl).trans (f3757 x 3 _ gx rfl))
      have q3816 : H3780 x 3 = (ce8 : Int) := k3815.trans ece8
      have h3817 : HDR T H3780 ce8  := (HDR_fr w3756 gce8 f3785 rfl (HDR_fr hW gce8 f3757 rfl hhdr8))
      have h3818 : RY T H3780 m (d8 0 3) g8 (H m 32) := (RY_fr w3756 gm f3785 rfl (RY_fr hW gm f3757 rfl h3746))
      have h3819 : RB T H3780 m e8 d8 := (RB_fr w3756 gm f3785 rfl h3776)
      exact WL.loc hX (by simp) (next T H3780 ⟨⟨w3784, g0, gx, gm, go, by omega, by omega⟩, ⟨_, tc, tm, cu, dr, _, _, _, _, _, ce8, q3798, gtc, h3806, q3800, gtm, h3807, q3802, gcu, q3804, gdr, h3808, h3809, h3810, h3811, h3812, hC1, hC2, h3813, h3819, (h3814).1, (h3818).1, hE, hZ, (by omega), (by assumption), (by omega), (by first | assumption | exact SG_0), q3816, gce8, h3805, h3817, a3790, gm⟩, by omega, by omega⟩ (by omega) (by omega))
    · exfalso
      omega
  · refine wl_of hX hb cL_845 (rw_iconst (pc' := 846) rfl ?_)
    refine wl_of hX hb cL_846 (rw_goto (p1 := 850) (by decide) ?_)
    obtain ⟨B, tc, tm, cu, dr, C8, e8, d8, n8, g8, ce8, e0, gtc, htc, em, gtm, htm, ecu, gcu, edr, gdr, hcu, hdr, hdec, hded, hsp, hC1, hC2, hcu8, hrb8, hcg8, hmn8, hE, hZ, hn8, hXA, hV8, hSG, ece8, gce8, hcen8, hhdr8, hknn8, -⟩ := hXI
    have hN3 := RB_n3 hrb8
    have hE13 : ∀ h : Nat, h < 24 → 0 ≤ e8 13 h ∧ e8 13 h ≤ 100 := fun k hk => by
      obtain ⟨s, h1, h2, h3⟩ := hcu8.1.2.2.1
      exact ⟨(h3 k hk).1, (h3 k hk).2.1⟩
    have hXW := hXA.1
    have hXN := hXA.2
    have hE0 : e8 0 3 = d8 0 3 ∧ e8 0 0 = d8 0 0 := by
      have h := hE 0 (by decide)
      exact ⟨congrFun h 3, congrFun h 0⟩
    have u3820 := CU_k hcu8
    have h3821 : CY T H cu (d8 0 3) g8 (H cu 17) := ⟨hcg8, rfl⟩
    have h3822 : RY T H m (d8 0 3) g8 (H m 32) := ⟨hmn8, rfl⟩
    obtain ⟨t9, ht9⟩ : ∃ t : Int, t = H x 9 := ⟨_, rfl⟩
    obtain ⟨y9, hy9⟩ : ∃ y : Int, y = 1 := ⟨_, rfl⟩
    obtain ⟨r3823, q3824, g3825⟩ := hW.ref gx (t' := 6) (n := 13) (j := 2) (p := 0) (q := 0) rfl (by decide) rfl
    refine wl_of hX hb cL_850 (xc_V (pc' := 853) (r := x) (as := [vI (H 0 ((i + 1).toNat)), vI 1]) (st := []) (lm_11_109) rfl rfl (Nat.le_of_ble_eq_true rfl) hW gx sh_1 (by decide) rfl (by decide) (u_104 (e := e8) (d := d8) (n := n8) hW gx ⟨by omega, by omega⟩ ⟨by decide, by decide⟩ ecu gcu q3824 g3825 ece8 gce8 (by assumption) (by assumption) (by omega) (by omega) (by omega) (by omega) hcu8 hcen8 hhdr8) (fun R3826 T3827 H3828 p3829 => ?_))
    obtain ⟨e3830, w3832, f3833, z3834, e3831, b3835, p3836⟩ := p3829
    subst e3830
    subst e3831
    show WL _ _ _ _ 853 [(4, vI i), (3, .ref o), (2, .ref m), (1, .ref x), (0, .ref 0)] [vI z3834] _ H3828
    refine wl_of hX hb cL_853 (rw_pop (pc' := 854) rfl rfl ?_)
    refine wl_of hX hb cL_854 (rw_aload_n (pc' := 855) (v := .ref m) rfl rfl rfl ?_)
    refine wl_of hX hb cL_855 (rw_aload_n (pc' := 856) (v := .ref 0) rfl rfl rfl ?_)
    refine wl_of hX hb cL_856 (rw_iload (pc' := 858) (z := i) rfl rfl ?_)
    refine wl_of hX hb cL_858 (rw_iconst (pc' := 859) rfl ?_)
    refine wl_of hX hb cL_859 (rw_iadd (pc' := 860) rfl ?_)
    have k3840 : H3828 0 ((i + 1).toNat) = H 0 ((i + 1).toNat) := (f3833 0 ((i + 1).toNat) _ g0 (wmem_s rfl))
    refine wl_of hX hb cL_860 (xa_I (so := 0) (pc' := 861) (a := 0) w3832 g0 (wsh_s _) (by omega) (wty_s _ _) (by omega) (by omega) rfl (fun b3838 b3839 => ?_))
    refine wl_of hX hb cL_861 (rw_aload_n (pc' := 862) (v := .ref 0) rfl rfl rfl ?_)
    refine wl_of hX hb cL_862 (rw_iload (pc' := 864) (z := i) rfl rfl ?_)
    refine wl_of hX hb cL_864 (rw_iconst (pc' := 865) rfl ?_)
    refine wl_of hX hb cL_865 (rw_iadd (pc' := 866) rfl ?_)
    have k3843 : H3828 0 ((i + 2).toNat) = H 0 ((i + 2).toNat) := (f3833 0 ((i + 2).toNat) _ g0 (wmem_s rfl))
    refine wl_of hX hb cL_866 (xa_I (so := 0) (pc' := 867) (a := 0) w3832 g0 (wsh_s _) (by omega) (wty_s _ _) (by omega) (by omega) rfl (fun b3841 b3842 => ?_))
    refine wl_of hX hb cL_867 (rw_if_eq (p1 := 874) (p2 := 870) (by decide) rfl ⟨by omega, by omega⟩ (fun c3844 => ?_) (fun c3844 => ?_))
    · refine wl_of hX hb cL_874 (rw_iconst (pc' := 875) rfl ?_)
      have k3845 : wKI H3828 m = wKI H m := (wKI_fr hW gm f3833 rfl)
      have k3846 : H3828 x 9 = H x 9 := (f3833 x 9 _ gx rfl)
      have k3847 : H3828 m 6 = H m 6 := (f3833 m 6 _ gm rfl)
      have k3848 : H3828 x 11 = H x 11 := (f3833 x 11 _ gx rfl)
      have k3849 : H3828 m 13 = H m 13 := (f3833 m 13 _ gm rfl)
      have k3850 : H3828 x 8 = H x 8 := (f3833 x 8 _ gx rfl)
      have k3851 : H3828 m 3 = H m 3 := (f3833 m 3 _ gm rfl)
      rw [show H3828 0 ((i + 1).toNat) = H 0 ((i + 1).toNat) by omega]
      have h3852 : RB T H3828 m e8 d8 := (RB_fr hW gm f3833 rfl hrb8)
      have h3853 : KNN T H3828 m e8 d8 := (KNN_fr hW gm f3833 rfl hknn8)
      refine wl_of hX hb cL_875 (xc_V (pc' := 878) (r := m) (as := [vI (H 0 ((i + 1).toNat)), vI 0]) (st := []) (lm_11_113) rfl rfl (Nat.le_of_ble_eq_true rfl) w3832 gm sh_42 (by decide) rfl (by decide) (u_254 (e := e8) (d := d8) w3832 gm ⟨by omega, by omega⟩ ⟨by decide, by decide⟩ (by omega) (by assumption) (by assumption) (by assumption) (by assumption) h3852 h3853) (fun R3854 T3855 H3856 p3857 => ?_))
      obtain ⟨e3858, w3860, f3861, z3862, e3859, b3863, p3864⟩ := p3857
      subst e3858
      subst e3859
      obtain ⟨a3865, a3866⟩ := p3864
      show WL _ _ _ _ 878 [(4, vI i), (3, .ref o), (2, .ref m), (1, .ref x), (0, .ref 0)] [vI z3862] _ H3856
      refine wl_of hX hb cL_878 (rw_pop (pc' := 879) rfl rfl ?_)
      refine wl_of hX hb cL_879 (rw_goto (p1 := 1653) (by decide) ?_)
      have k3867 : H3856 x 9 = H3828 x 9 := (f3861 x 9 _ gx rfl)
      have k3868 : H3856 m 6 = H3828 m 6 := (f3861 m 6 _ gm rfl)
      have k3869 : H3856 x 11 = H3828 x 11 := (f3861 x 11 _ gx rfl)
      have k3870 : H3856 m 13 = H3828 m 13 := (f3861 m 13 _ gm rfl)
      have k3871 : H3856 x 8 = H3828 x 8 := (f3861 x 8 _ gx rfl)
      have k3872 : H3856 m 3 = H3828 m 3 := (f3861 m 3 _ gm rfl)
      have k3873 : H3856 x 0 = H x 0 := ((f3861 x 0 _ gx rfl).trans (f3833 x 0 _ gx rfl))
      have q3874 : H3856 x 0 = (tc : Int) := k3873.trans e0
      have k3875 : H3856 m 5 = H m 5 := ((f3861 m 5 _ gm rfl).trans (f3833 m 5 _ gm rfl))
      have q3876 : H3856 m 5 = (tm : Int) := k3875.trans em
      have k3877 : H3856 x 6 = H x 6 := ((f3861 x 6 _ gx rfl).trans (f3833 x 6 _ gx rfl))
      have q3878 : H3856 x 6 = (cu : Int) := k3877.trans ecu
      have k3879 : H3856 x 7 = H x 7 := ((f3861 x 7 _ gx rfl).trans (f3833 x 7 _ gx rfl))
      have q3880 : H3856 x 7 = (dr : Int) := k3879.trans edr
      have h3881 : CEN T H3856 ce8 e8 d8 := (CEN_fr w3832 gce8 f3861 rfl p3836)
      have h3882 : TP T H3856 tc B := (TP_fr w3832 gtc f3861 rfl (TP_fr hW gtc f3833 rfl htc))
      have h3883 : TM T H3856 tm B := (TM_fr w3832 gtm f3861 rfl (TM_fr hW gtm f3833 rfl htm))
      have h3884 : DD T H3856 cu  := (DD_fr w3832 gcu f3861 rfl (DD_fr hW gcu f3833 rfl hcu))
      have h3885 : DD T H3856 dr  := (DD_fr w3832 gdr f3861 rfl (DD_fr hW gdr f3833 rfl hdr))
      have h3886 : DE T H3856 cu  := (DE_fr w3832 gcu f3861 rfl (DE_fr hW gcu f3833 rfl hdec))
      have h3887 : DE T H3856 dr  := (DE_fr w3832 gdr f3861 rfl (DE_fr hW gdr f3833 rfl hded))
      have h3888 : SP T H3856 x C8 := (SP_fr w3832 gx f3861 rfl (SP_fr hW gx f3833 rfl hsp))
      have h3889 : CU T H3856 cu e8 d8 n8 := (CU_fr w3832 gcu f3861 rfl (CU_fr hW gcu f3833 rfl hcu8))
      have h3890 : CY T H3856 cu (d8 0 3) g8 (H cu 17) := (CY_fr w3832 gcu f3861 rfl (CY_fr hW gcu f3833 rfl h3821))
      have k3891 : H3856 x 3 = H x 3 := ((f3861 x 3 _ gx rfl).trans (f3833 x 3 _ gx rfl))
      have q3892 : H3856 x 3 = (ce8 : Int) := k3891.trans ece8
      have h3893 : HDR T H3856 ce8  := (HDR_fr w3832 gce8 f3861 rfl (HDR_fr hW gce8 f3833 rfl hhdr8))
      have h3894 : RY T H3856 m (d8 0 3) g8 (H m 32) := (RY_fr w3832 gm f3861 rfl (RY_fr hW gm f3833 rfl h3822))
      have h3895 : RB T H3856 m e8 d8 := (RB_fr w3832 gm f3861 rfl h3852)
      exact WL.loc hX (by simp) (next T H3856 ⟨⟨w3860, g0, gx, gm, go, by omega, by omega⟩, ⟨_, tc, tm, cu, dr, _, _, _, _, _, ce8, q3874, gtc, h3882, q3876, gtm, h3883, q3878, gcu, q3880, gdr, h3884, h3885, h3886, h3887, h3888, hC1, hC2, h3889, h3895, (h3890).1, (h3894).1, hE, hZ, (by omega), (by assumption), (by omega), (by first | assumption | exact SG_0), q3892, gce8, h3881, h3893, a3866, gm⟩, by omega, by omega⟩ (by omega) (by omega))
    · refine wl_of hX hb cL_870 (rw_iconst (pc' := 871) rfl ?_)
      refine wl_of hX hb cL_871 (rw_goto (p1 := 875) (by decide) ?_)
      have k3896 : wKI H3828 m = wKI H m := (wKI_fr hW gm f3833 rfl)
      have k3897 : H3828 x 9 = H x 9 := (f3833 x 9 _ gx rfl)
      have k3898 : H3828 m 6 = H m 6 := (f3833 m 6 _ gm rfl)
      have k3899 : H3828 x 11 = H x 11 := (f3833 x 11 _ gx rfl)
      have k3900 : H3828 m 13 = H m 13 := (f3833 m 13 _ gm rfl)
      have k3901 : H3828 x 8 = H x 8 := (f3833 x 8 _ gx rfl)
      have k3902 : H3828 m 3 = H m 3 := (f3833 m 3 _ gm rfl)
      rw [show H3828 0 ((i + 1).toNat) = H 0 ((i + 1).toNat) by omega]
      have h3903 : RB T H3828 m e8 d8 := (RB_fr hW gm f3833 rfl hrb8)
      have h3904 : KNN T H3828 m e8 d8 := (KNN_fr hW gm f3833 rfl hknn8)
      refine wl_of hX hb cL_875 (xc_V (pc' := 878) (r := m) (as := [vI (H 0 ((i + 1).toNat)), vI 1]) (st := []) (lm_11_113) rfl rfl (Nat.le_of_ble_eq_true rfl) w3832 gm sh_42 (by decide) rfl (by decide) (u_254 (e := e8) (d := d8) w3832 gm ⟨by omega, by omega⟩ ⟨by decide, by decide⟩ (by omega) (by assumption) (by assumption) (by assumption) (by assumption) h3903 h3904) (fun R3905 T3906 H3907 p3908 => ?_))
      obtain ⟨e3909, w3911, f3912, z3913, e3910, b3914, p3915⟩ := p3908
      subst e3909
      subst e3910
      obtain ⟨a3916, a3917⟩ := p3915
      show WL _ _ _ _ 878 [(4, vI i), (3, .ref o), (2, .ref m), (1, .ref x), (0, .ref 0)] [vI z3913] _ H3907
      refine wl_of hX hb cL_878 (rw_pop (pc' := 879) rfl rfl ?_)
      refine wl_of hX hb cL_879 (rw_goto (p1 := 1653) (by decide) ?_)
      have k3918 : H3907 x 9 = H3828 x 9 := (f3912 x 9 _ gx rfl)
      have k3919 : H3907 m 6 = H3828 m 6 := (f3912 m 6 _ gm rfl)
      have k3920 : H3907 x 11 = H3828 x 11 := (f3912 x 11 _ gx rfl)
      have k3921 : H3907 m 13 = H3828 m 13 := (f3912 m 13 _ gm rfl)
      have k3922 : H3907 x 8 = H3828 x 8 := (f3912 x 8 _ gx rfl)
      have k3923 : H3907 m 3 = H3828 m 3 := (f3912 m 3 _ gm rfl)
      have k3924 : H3907 x 0 = H x 0 := ((f3912 x 0 _ gx rfl).trans (f3833 x 0 _ gx rfl))
      have q3925 : H3907 x 0 = (tc : Int) := k3924.trans e0
      have k3926 : H3907 m 5 = H m 5 := ((f3912 m 5 _ gm rfl).trans (f3833 m 5 _ gm rfl))
      have q3927 : H3907 m 5 = (tm : Int) := k3926.trans em
      have k3928 : H3907 x 6 = H x 6 := ((f3912 x 6 _ gx rfl).trans (f3833 x 6 _ gx rfl))
      have q3929 : H3907 x 6 = (cu : Int) := k3928.trans ecu
      have k3930 : H3907 x 7 = H x 7 := ((f3912 x 7 _ gx rfl).trans (f3833 x 7 _ gx rfl))
      have q3931 : H3907 x 7 = (dr : Int) := k3930.trans edr
      have h3932 : CEN T H3907 ce8 e8 d8 := (CEN_fr w3832 gce8 f3912 rfl p3836)
      have h3933 : TP T H3907 tc B := (TP_fr w3832 gtc f3912 rfl (TP_fr hW gtc f3833 rfl htc))
      have h3934 : TM T H3907 tm B := (TM_fr w3832 gtm f3912 rfl (TM_fr hW gtm f3833 rfl htm))
      have h3935 : DD T H3907 cu  := (DD_fr w3832 gcu f3912 rfl (DD_fr hW gcu f3833 rfl hcu))
      have h3936 : DD T H3907 dr  := (DD_fr w3832 gdr f3912 rfl (DD_fr hW gdr f3833 rfl hdr))
      have h3937 : DE T H3907 cu  := (DE_fr w3832 gcu f3912 rfl (DE_fr hW gcu f3833 rfl hdec))
      have h3938 : DE T H3907 dr  := (DE_fr w3832 gdr f3912 rfl (DE_fr hW gdr f3833 rfl hded))
      have h3939 : SP T H3907 x C8 := (SP_fr w3832 gx f3912 rfl (SP_fr hW gx f3833 rfl hsp))
      have h3940 : CU T H3907 cu e8 d8 n8 := (CU_fr w3832 gcu f3912 rfl (CU_fr hW gcu f3833 rfl hcu8))
      have h3941 : CY T H3907 cu (d8 0 3) g8 (H cu 17) := (CY_fr w3832 gcu f3912 rfl (CY_fr hW gcu f3833 rfl h3821))
      have k3942 : H3907 x 3 = H x 3 := ((f3912 x 3 _ gx rfl).trans (f3833 x 3 _ gx rfl))
      have q3943 : H3907 x 3 = (ce8 : Int) := k3942.trans ece8
      have h3944 : HDR T H3907 ce8  := (HDR_fr w3832 gce8 f3912 rfl (HDR_fr hW gce8 f3833 rfl hhdr8))
      have h3945 : RY T H3907 m (d8 0 3) g8 (H m 32) := (RY_fr w3832 gm f3912 rfl (RY_fr hW gm f3833 rfl h3822))
      have h3946 : RB T H3907 m e8 d8 := (RB_fr w3832 gm f3912 rfl h3903)
      exact WL.loc hX (by simp) (next T H3907 ⟨⟨w3911, g0, gx, gm, go, by omega, by omega⟩, ⟨_, tc, tm, cu, dr, _, _, _, _, _, ce8, q3925, gtc, h3933, q3927, gtm, h3934, q3929, gcu, q3931, gdr, h3935, h3936, h3937, h3938, h3939, hC1, hC2, h3940, h3946, (h3941).1, (h3945).1, hE, hZ, (by omega), (by assumption), (by omega), (by first | assumption | exact SG_0), q3943, gce8, h3932, h3944, a3917, gm⟩, by omega, by omega⟩ (by omega) (by omega))
