/-! methods of the reference (own work, written by wip/gen2/sx.py) -/
/-! StrikeAwakeModel.lie(I)I -/
theorem e272 : wq_en 272 = some (9, 3, false, some FieldType.int) := rfl
theorem c272_0 : mc_cd 272 0 = some (.aload_n 0, 1) := by decide +kernel
theorem c272_1 : mc_cd 272 1 = some (.iconst 0, 1) := by decide +kernel
theorem c272_2 : mc_cd 272 2 = some (.putfield 48, 3) := by decide +kernel
theorem c272_5 : mc_cd 272 5 = some (.aload_n 0, 1) := by decide +kernel
theorem c272_6 : mc_cd 272 6 = some (.aload_n 0, 1) := by decide +kernel
theorem c272_7 : mc_cd 272 7 = some (.iload_n 1, 1) := by decide +kernel
theorem c272_8 : mc_cd 272 8 = some (.invokevirtual 473, 3) := by decide +kernel
theorem c272_11 : mc_cd 272 11 = some (.invokevirtual 433, 3) := by decide +kernel
theorem c272_14 : mc_cd 272 14 = some (.istore_n 2, 1) := by decide +kernel
theorem c272_15 : mc_cd 272 15 = some (.iload_n 2, 1) := by decide +kernel
theorem c272_16 : mc_cd 272 16 = some (.ifCond .le 11, 3) := by decide +kernel
theorem c272_19 : mc_cd 272 19 = some (.aload_n 0, 1) := by decide +kernel
theorem c272_20 : mc_cd 272 20 = some (.iload_n 2, 1) := by decide +kernel
theorem c272_21 : mc_cd 272 21 = some (.invokevirtual 54, 3) := by decide +kernel
theorem c272_24 : mc_cd 272 24 = some (.goto 22, 3) := by decide +kernel
theorem c272_27 : mc_cd 272 27 = some (.aload_n 0, 1) := by decide +kernel
theorem c272_28 : mc_cd 272 28 = some (.aload_n 0, 1) := by decide +kernel
theorem c272_29 : mc_cd 272 29 = some (.iload_n 1, 1) := by decide +kernel
theorem c272_30 : mc_cd 272 30 = some (.invokevirtual 476, 3) := by decide +kernel
theorem c272_33 : mc_cd 272 33 = some (.bipush 24, 2) := by decide +kernel
theorem c272_35 : mc_cd 272 35 = some (.if_icmp .ne 7, 3) := by decide +kernel
theorem c272_38 : mc_cd 272 38 = some (.iconst 0, 1) := by decide +kernel
theorem c272_39 : mc_cd 272 39 = some (.goto 4, 3) := by decide +kernel
theorem c272_42 : mc_cd 272 42 = some (.iconst 1, 1) := by decide +kernel
theorem c272_43 : mc_cd 272 43 = some (.invokevirtual 58, 3) := by decide +kernel
theorem c272_46 : mc_cd 272 46 = some (.ireturn, 1) := by decide +kernel
abbrev q_272 (r0 : Nat) (a1 : Int) (T : wq_T) (H : wq_H) : Option Value → wq_T → wq_H → Prop := fun r T' H' => T = T' ∧ WT T H' ∧ wfr [(42, 0), (42, 1), (42, 2), (42, 28), (42, 29), (51, 999), (52, 999)] T H H' ∧ ∃ z : Int, some (vI z) = r ∧ ((-2147483648) ≤ z ∧ z ≤ 2147483647) ∧ (wKI H' r0 = 1)
set_option maxHeartbeats 4000000 in
theorem s_272 {kt : Nat → Option mc_E} {T : wq_T} {H : wq_H} {r0 : Nat} {a1 : Int} (hW : WT T H) (g0 : T.2.2.2 r0 = some 42) (i1 : (-2147483648) ≤ a1 ∧ a1 ≤ 2147483647) (p0 : wKI H r0 = 1) : wpc kt 8 272 [.ref r0, vI a1] T H (q_272 r0 a1 T H) := by
  refine wp_enter e272 (Nat.le_of_ble_eq_true rfl) rfl ?_
  have f0 : wfr [(42, 0), (42, 1), (42, 2), (42, 28), (42, 29), (51, 999), (52, 999)] T H H := wfr.rf
  show wp _ _ 272 0 [(0, .ref r0), (1, vI a1)] [] _ H _
  refine wp_of e272 c272_0 (rw_aload_n (pc' := 1) (v := .ref r0) rfl rfl rfl ?_)
  refine wp_of e272 c272_1 (rw_iconst (pc' := 2) rfl ?_)
  refine wp_of e272 c272_2 (xp_I (pc' := 5) lf_9_48 hW g0 sh_42 (by decide) (by decide) ty_42_0 rfl rfl (by omega) (by omega) ⟨by omega, by omega⟩ rfl (fun H177280 e177281 w177282 => ?_))
  have f177283 := f0.put' e177281 g0 rfl
  have k177284 : H177280 r0 0 = 0 := wq_u_s e177281
  refine wp_of e272 c272_5 (rw_aload_n (pc' := 6) (v := .ref r0) rfl rfl rfl ?_)
  refine wp_of e272 c272_6 (rw_aload_n (pc' := 7) (v := .ref r0) rfl rfl rfl ?_)
  refine wp_of e272 c272_7 (rw_iload_n (pc' := 8) (z := a1) rfl rfl ?_)
  refine wp_of e272 c272_8 (xc_V (pc' := 11) (r := r0) (as := [vI a1]) (st := [.ref r0]) (lm_9_473) rfl rfl (Nat.le_of_ble_eq_true rfl) w177282 g0 sh_42 (by decide) rfl (by decide) (s_273 w177282 g0 ⟨by omega, by omega⟩) (fun R177285 T177286 H177287 p177288 => ?_))
  obtain ⟨e177289, e177291, z177293, e177290, b177294, p177292⟩ := p177288
  subst e177289
  subst e177290
  subst e177291
  show wp _ _ 272 11 [(0, .ref r0), (1, vI a1)] [vI z177293, .ref r0] _ H177280 _
  have k177295 : wKI H177280 r0 = wKI H r0 := (wKI_fr hW g0 ((wfr.rf (l := [(42, 0)])).put' e177281 g0 rfl) rfl)
  refine wp_of e272 c272_11 (xc_V (pc' := 14) (r := r0) (as := [vI z177293]) (st := []) (lm_9_433) rfl rfl (Nat.le_of_ble_eq_true rfl) w177282 g0 sh_42 (by decide) rfl (by decide) (s_241 w177282 g0 ⟨by omega, by omega⟩ (by omega) (by omega)) (fun R177296 T177297 H177298 p177299 => ?_))
  obtain ⟨e177300, w177302, f177303, z177308, e177301, b177309, p177304, p177305, p177306, p177307⟩ := p177299
  subst e177300
  subst e177301
  have f177310 := f177283.tr f177303 rfl
  show wp _ _ 272 14 [(0, .ref r0), (1, vI a1)] [vI z177308] _ H177298 _
  refine wp_of e272 c272_14 (rw_istore_n (pc' := 15) (z := z177308) (L' := [(2, vI z177308), (0, .ref r0), (1, vI a1)]) rfl rfl rfl ?_)
  refine wp_of e272 c272_15 (rw_iload_n (pc' := 16) (z := z177308) rfl rfl ?_)
  refine wp_of e272 c272_16 (rw_if_le (p1 := 27) (p2 := 19) (by decide) rfl ⟨by omega, by omega⟩ (fun c177311 => ?_) (fun c177311 => ?_))
  · refine wp_of e272 c272_27 (rw_aload_n (pc' := 28) (v := .ref r0) rfl rfl rfl ?_)
    refine wp_of e272 c272_28 (rw_aload_n (pc' := 29) (v := .ref r0) rfl rfl rfl ?_)
    refine wp_of e272 c272_29 (rw_iload_n (pc' := 30) (z := a1) rfl rfl ?_)
    have k177312 : H177298 r0 3 = H177280 r0 3 := (f177303 r0 3 _ g0 rfl)
    obtain ⟨r177313, q177314, g177315⟩ := (w177302.opt g0 (t' := 54) (n := 33) (j := 3) (p := 0) (q := 0) rfl (by decide) rfl).resolve_left (by omega)
    refine wp_of e272 c272_30 (xc_V (pc' := 33) (r := r0) (as := [vI a1]) (st := [.ref r0]) (lm_9_476) rfl rfl (Nat.le_of_ble_eq_true rfl) w177302 g0 sh_42 (by decide) rfl (by decide) (s_274 w177302 g0 ⟨by omega, by omega⟩ q177314 g177315 (by omega)) (fun R177316 T177317 H177318 p177319 => ?_))
    obtain ⟨e177320, w177322, f177323, z177324, e177321, b177325⟩ := p177319
    subst e177320
    subst e177321
    have f177326 := f177310.tr f177323 rfl
    show wp _ _ 272 33 [(2, vI z177308), (0, .ref r0), (1, vI a1)] [vI z177324, .ref r0] _ H177318 _
    refine wp_of e272 c272_33 (rw_bipush (pc' := 35) (z := 24) rfl (by decide) ?_)
    refine wp_of e272 c272_35 (rw_icmp_ne (p1 := 42) (p2 := 38) (by decide) rfl ⟨by omega, by omega⟩ ⟨by omega, by omega⟩ (fun c177327 => ?_) (fun c177327 => ?_))
    · refine wp_of e272 c272_42 (rw_iconst (pc' := 43) rfl ?_)
      refine wp_of e272 c272_43 (xc_V (pc' := 46) (r := r0) (as := [vI 1]) (st := []) (lm_9_58) rfl rfl (Nat.le_of_ble_eq_true rfl) w177322 g0 sh_42 (by decide) rfl (by decide) (s_209 w177322 g0 ⟨by omega, by omega⟩) (fun R177328 T177329 H177330 p177331 => ?_))
      obtain ⟨e177332, w177334, f177335, z177336, e177333, b177337⟩ := p177331
      subst e177332
      subst e177333
      have f177338 := f177326.tr f177335 rfl
      show wp _ _ 272 46 [(2, vI z177308), (0, .ref r0), (1, vI a1)] [vI z177336] _ H177330 _
      have k177339 : wKI H177330 r0 = wKI H177298 r0 := ((wKI_fr w177322 g0 f177335 rfl).trans (wKI_fr w177302 g0 f177323 rfl))
      exact wp_ireturn e272 c272_46 rfl ⟨rfl, w177334, f177338, z177336, rfl, ⟨by omega, by omega⟩, by omega⟩
    · refine wp_of e272 c272_38 (rw_iconst (pc' := 39) rfl ?_)
      refine wp_of e272 c272_39 (rw_goto (p1 := 43) (by decide) ?_)
      refine wp_of e272 c272_43 (xc_V (pc' := 46) (r := r0) (as := [vI 0]) (st := []) (lm_9_58) rfl rfl (Nat.le_of_ble_eq_true rfl) w177322 g0 sh_42 (by decide) rfl (by decide) (s_209 w177322 g0 ⟨by omega, by omega⟩) (fun R177340 T177341 H177342 p177343 => ?_))
      obtain ⟨e177344, w177346, f177347, z177348, e177345, b177349⟩ := p177343
      subst e177344
      subst e177345
      have f177350 := f177326.tr f177347 rfl
      show wp _ _ 272 46 [(2, vI z177308), (0, .ref r0), (1, vI a1)] [vI z177348] _ H177342 _
      have k177351 : wKI H177342 r0 = wKI H177298 r0 := ((wKI_fr w177322 g0 f177347 rfl).trans (wKI_fr w177302 g0 f177323 rfl))
      exact wp_ireturn e272 c272_46 rfl ⟨rfl, w177346, f177350, z177348, rfl, ⟨by omega, by omega⟩, by omega⟩
  · refine wp_of e272 c272_19 (rw_aload_n (pc' := 20) (v := .ref r0) rfl rfl rfl ?_)
    refine wp_of e272 c272_20 (rw_iload_n (pc' := 21) (z := z177308) rfl rfl ?_)
    refine wp_of e272 c272_21 (xc_V (pc' := 24) (r := r0) (as := [vI z177308]) (st := []) (lm_9_54) rfl rfl (Nat.le_of_ble_eq_true rfl) w177302 g0 sh_42 (by decide) rfl (by decide) (s_170 w177302 g0 ⟨by omega, by omega⟩) (fun R177352 T177353 H177354 p177355 => ?_))
    obtain ⟨e177356, w177358, f177359, z177360, e177357, b177361⟩ := p177355
    subst e177356
    subst e177357
    have f177362 := f177310.tr f177359 rfl
    show wp _ _ 272 24 [(2, vI z177308), (0, .ref r0), (1, vI a1)] [vI z177360] _ H177354 _
    refine wp_of e272 c272_24 (rw_goto (p1 := 46) (by decide) ?_)
    have k177363 : wKI H177354 r0 = wKI H177298 r0 := (wKI_fr w177302 g0 f177359 rfl)
    exact wp_ireturn e272 c272_46 rfl ⟨rfl, w177358, f177362, z177360, rfl, ⟨by omega, by omega⟩, by omega⟩
/-! StrikeAwakeModel.bars(I)I -/
theorem e275 : wq_en 275 = some (9, 4, false, some FieldType.int) := rfl
theorem c275_0 : mc_cd 275 0 = some (.aload_n 0, 1) := by decide +kernel
theorem c275_1 : mc_cd 275 1 = some (.iconst 0, 1) := by decide +kernel
theorem c275_2 : mc_cd 275 2 = some (.putfield 48, 3) := by decide +kernel
theorem c275_5 : mc_cd 275 5 = some (.aload_n 0, 1) := by decide +kernel
theorem c275_6 : mc_cd 275 6 = some (.aload_n 0, 1) := by decide +kernel
theorem c275_7 : mc_cd 275 7 = some (.iload_n 1, 1) := by decide +kernel
theorem c275_8 : mc_cd 275 8 = some (.invokevirtual 473, 3) := by decide +kernel
theorem c275_11 : mc_cd 275 11 = some (.invokevirtual 433, 3) := by decide +kernel
theorem c275_14 : mc_cd 275 14 = some (.istore_n 2, 1) := by decide +kernel
theorem c275_15 : mc_cd 275 15 = some (.iload_n 2, 1) := by decide +kernel
theorem c275_16 : mc_cd 275 16 = some (.ifCond .le 9, 3) := by decide +kernel
theorem c275_19 : mc_cd 275 19 = some (.aload_n 0, 1) := by decide +kernel
theorem c275_20 : mc_cd 275 20 = some (.iload_n 2, 1) := by decide +kernel
theorem c275_21 : mc_cd 275 21 = some (.invokevirtual 54, 3) := by decide +kernel
theorem c275_24 : mc_cd 275 24 = some (.ireturn, 1) := by decide +kernel
theorem c275_25 : mc_cd 275 25 = some (.aload_n 0, 1) := by decide +kernel
theorem c275_26 : mc_cd 275 26 = some (.iload_n 1, 1) := by decide +kernel
theorem c275_27 : mc_cd 275 27 = some (.invokevirtual 476, 3) := by decide +kernel
theorem c275_30 : mc_cd 275 30 = some (.istore_n 3, 1) := by decide +kernel
theorem c275_31 : mc_cd 275 31 = some (.aload_n 0, 1) := by decide +kernel
theorem c275_32 : mc_cd 275 32 = some (.iload_n 3, 1) := by decide +kernel
theorem c275_33 : mc_cd 275 33 = some (.bipush 24, 2) := by decide +kernel
theorem c275_35 : mc_cd 275 35 = some (.if_icmp .ne 8, 3) := by decide +kernel
theorem c275_38 : mc_cd 275 38 = some (.bipush (-2), 2) := by decide +kernel
theorem c275_40 : mc_cd 275 40 = some (.goto 4, 3) := by decide +kernel
theorem c275_43 : mc_cd 275 43 = some (.iload_n 3, 1) := by decide +kernel
theorem c275_44 : mc_cd 275 44 = some (.invokevirtual 58, 3) := by decide +kernel
theorem c275_47 : mc_cd 275 47 = some (.ireturn, 1) := by decide +kernel
abbrev q_275 (r0 : Nat) (a1 : Int) (T : wq_T) (H : wq_H) : Option Value → wq_T → wq_H → Prop := fun r T' H' => T = T' ∧ WT T H' ∧ wfr [(42, 0), (42, 1), (42, 2), (42, 28), (42, 29), (51, 999), (52, 999)] T H H' ∧ ∃ z : Int, some (vI z) = r ∧ ((-2147483648) ≤ z ∧ z ≤ 2147483647) ∧ (wKI H' r0 = 1)
set_option maxHeartbeats 4000000 in
theorem s_275 {kt : Nat → Option mc_E} {T : wq_T} {H : wq_H} {r0 : Nat} {a1 : Int} (hW : WT T H) (g0 : T.2.2.2 r0 = some 42) (i1 : (-2147483648) ≤ a1 ∧ a1 ≤ 2147483647) (p0 : wKI H r0 = 1) : wpc kt 8 275 [.ref r0, vI a1] T H (q_275 r0 a1 T H) := by
  refine wp_enter e275 (Nat.le_of_ble_eq_true rfl) rfl ?_
  have f0 : wfr [(42, 0), (42, 1), (42, 2), (42, 28), (42, 29), (51, 999), (52, 999)] T H H := wfr.rf
  show wp _ _ 275 0 [(0, .ref r0), (1, vI a1)] [] _ H _
  refine wp_of e275 c275_0 (rw_aload_n (pc' := 1) (v := .ref r0) rfl rfl rfl ?_)
  refine wp_of e275 c275_1 (rw_iconst (pc' := 2) rfl ?_)
  refine wp_of e275 c275_2 (xp_I (pc' := 5) lf_9_48 hW g0 sh_42 (by decide) (by decide) ty_42_0 rfl rfl (by omega) (by omega) ⟨by omega, by omega⟩ rfl (fun H177448 e177449 w177450 => ?_))
  have f177451 := f0.put' e177449 g0 rfl
  have k177452 : H177448 r0 0 = 0 := wq_u_s e177449
  refine wp_of e275 c275_5 (rw_aload_n (pc' := 6) (v := .ref r0) rfl rfl rfl ?_)
  refine wp_of e275 c275_6 (rw_aload_n (pc' := 7) (v := .ref r0) rfl rfl rfl ?_)
  refine wp_of e275 c275_7 (rw_iload_n (pc' := 8) (z := a1) rfl rfl ?_)
  refine wp_of e275 c275_8 (xc_V (pc' := 11) (r := r0) (as := [vI a1]) (st := [.ref r0]) (lm_9_473) rfl rfl (Nat.le_of_ble_eq_true rfl) w177450 g0 sh_42 (by decide) rfl (by decide) (s_273 w177450 g0 ⟨by omega, by omega⟩) (fun R177453 T177454 H177455 p177456 => ?_))
  obtain ⟨e177457, e177459, z177461, e177458, b177462, p177460⟩ := p177456
  subst e177457
  subst e177458
  subst e177459
  show wp _ _ 275 11 [(0, .ref r0), (1, vI a1)] [vI z177461, .ref r0] _ H177448 _
  have k177463 : wKI H177448 r0 = wKI H r0 := (wKI_fr hW g0 ((wfr.rf (l := [(42, 0)])).put' e177449 g0 rfl) rfl)
  refine wp_of e275 c275_11 (xc_V (pc' := 14) (r := r0) (as := [vI z177461]) (st := []) (lm_9_433) rfl rfl (Nat.le_of_ble_eq_true rfl) w177450 g0 sh_42 (by decide) rfl (by decide) (s_241 w177450 g0 ⟨by omega, by omega⟩ (by omega) (by omega)) (fun R177464 T177465 H177466 p177467 => ?_))
  obtain ⟨e177468, w177470, f177471, z177476, e177469, b177477, p177472, p177473, p177474, p177475⟩ := p177467
  subst e177468
  subst e177469
  have f177478 := f177451.tr f177471 rfl
  show wp _ _ 275 14 [(0, .ref r0), (1, vI a1)] [vI z177476] _ H177466 _
  refine wp_of e275 c275_14 (rw_istore_n (pc' := 15) (z := z177476) (L' := [(2, vI z177476), (0, .ref r0), (1, vI a1)]) rfl rfl rfl ?_)
  refine wp_of e275 c275_15 (rw_iload_n (pc' := 16) (z := z177476) rfl rfl ?_)
  refine wp_of e275 c275_16 (rw_if_le (p1 := 25) (p2 := 19) (by decide) rfl ⟨by omega, by omega⟩ (fun c177479 => ?_) (fun c177479 => ?_))
  · refine wp_of e275 c275_25 (rw_aload_n (pc' := 26) (v := .ref r0) rfl rfl rfl ?_)
    refine wp_of e275 c275_26 (rw_iload_n (pc' := 27) (z := a1) rfl rfl ?_)
    have k177480 : H177466 r0 3 = H177448 r0 3 := (f177471 r0 3 _ g0 rfl)
    obtain ⟨r177481, q177482, g177483⟩ := (w177470.opt g0 (t' := 54) (n := 33) (j := 3) (p := 0) (q := 0) rfl (by decide) rfl).resolve_left (by omega)
    refine wp_of e275 c275_27 (xc_V (pc' := 30) (r := r0) (as := [vI a1]) (st := []) (lm_9_476) rfl rfl (Nat.le_of_ble_eq_true rfl) w177470 g0 sh_42 (by decide) rfl (by decide) (s_274 w177470 g0 ⟨by omega, by omega⟩ q177482 g177483 (by omega)) (fun R177484 T177485 H177486 p177487 => ?_))
    obtain ⟨e177488, w177490, f177491, z177492, e177489, b177493⟩ := p177487
    subst e177488
    subst e177489
    have f177494 := f177478.tr f177491 rfl
    show wp _ _ 275 30 [(2, vI z177476), (0, .ref r0), (1, vI a1)] [vI z177492] _ H177486 _
    refine wp_of e275 c275_30 (rw_istore_n (pc' := 31) (z := z177492) (L' := [(3, vI z177492), (2, vI z177476), (0, .ref r0), (1, vI a1)]) rfl rfl rfl ?_)
    refine wp_of e275 c275_31 (rw_aload_n (pc' := 32) (v := .ref r0) rfl rfl rfl ?_)
    refine wp_of e275 c275_32 (rw_iload_n (pc' := 33) (z := z177492) rfl rfl ?_)
    refine wp_of e275 c275_33 (rw_bipush (pc' := 35) (z := 24) rfl (by decide) ?_)
    refine wp_of e275 c275_35 (rw_icmp_ne (p1 := 43) (p2 := 38) (by decide) rfl ⟨by omega, by omega⟩ ⟨by omega, by omega⟩ (fun c177495 => ?_) (fun c177495 => ?_))
    · refine wp_of e275 c275_43 (rw_iload_n (pc' := 44) (z := z177492) rfl rfl ?_)
      refine wp_of e275 c275_44 (xc_V (pc' := 47) (r := r0) (as := [vI z177492]) (st := []) (lm_9_58) rfl rfl (Nat.le_of_ble_eq_true rfl) w177490 g0 sh_42 (by decide) rfl (by decide) (s_209 w177490 g0 ⟨by omega, by omega⟩) (fun R177496 T177497 H177498 p177499 => ?_))
      obtain ⟨e177500, w177502, f177503, z177504, e177501, b177505⟩ := p177499
      subst e177500
      subst e177501
      have f177506 := f177494.tr f177503 rfl
      show wp _ _ 275 47 [(3, vI z177492), (2, vI z177476), (0, .ref r0), (1, vI a1)] [vI z177504] _ H177498 _
      have k177507 : wKI H177498 r0 = wKI H177466 r0 := ((wKI_fr w177490 g0 f177503 rfl).trans (wKI_fr w177470 g0 f177491 rfl))
      exact wp_ireturn e275 c275_47 rfl ⟨rfl, w177502, f177506, z177504, rfl, ⟨by omega, by omega⟩, by omega⟩
    · refine wp_of e275 c275_38 (rw_bipush (pc' := 40) (z := -2) rfl (by decide) ?_)
      refine wp_of e275 c275_40 (rw_goto (p1 := 44) (by decide) ?_)
      refine wp_of e275 c275_44 (xc_V (pc' := 47) (r := r0) (as := [vI (-2)]) (st := []) (lm_9_58) rfl rfl (Nat.le_of_ble_eq_true rfl) w177490 g0 sh_42 (by decide) rfl (by decide) (s_209 w177490 g0 ⟨by omega, by omega⟩) (fun R177508 T177509 H177510 p177511 => ?_))
      obtain ⟨e177512, w177514, f177515, z177516, e177513, b177517⟩ := p177511
      subst e177512
      subst e177513
      have f177518 := f177494.tr f177515 rfl
      show wp _ _ 275 47 [(3, vI z177492), (2, vI z177476), (0, .ref r0), (1, vI a1)] [vI z177516] _ H177510 _
      have k177519 : wKI H177510 r0 = wKI H177466 r0 := ((wKI_fr w177490 g0 f177515 rfl).trans (wKI_fr w177470 g0 f177491 rfl))
      exact wp_ireturn e275 c275_47 rfl ⟨rfl, w177514, f177518, z177516, rfl, ⟨by omega, by omega⟩, by omega⟩
  · refine wp_of e275 c275_19 (rw_aload_n (pc' := 20) (v := .ref r0) rfl rfl rfl ?_)
    refine wp_of e275 c275_20 (rw_iload_n (pc' := 21) (z := z177476) rfl rfl ?_)
    refine wp_of e275 c275_21 (xc_V (pc' := 24) (r := r0) (as := [vI z177476]) (st := []) (lm_9_54) rfl rfl (Nat.le_of_ble_eq_true rfl) w177470 g0 sh_42 (by decide) rfl (by decide) (s_170 w177470 g0 ⟨by omega, by omega⟩) (fun R177520 T177521 H177522 p177523 => ?_))
    obtain ⟨e177524, w177526, f177527, z177528, e177525, b177529⟩ := p177523
    subst e177524
    subst e177525
    have f177530 := f177478.tr f177527 rfl
    show wp _ _ 275 24 [(2, vI z177476), (0, .ref r0), (1, vI a1)] [vI z177528] _ H177522 _
    have k177531 : wKI H177522 r0 = wKI H177466 r0 := (wKI_fr w177470 g0 f177527 rfl)
    exact wp_ireturn e275 c275_24 rfl ⟨rfl, w177526, f177530, z177528, rfl, ⟨by omega, by omega⟩, by omega⟩
/-! StrikeAwakeModel.proves(I)Z -/
theorem e278 : wq_en 278 = some (9, 3, false, some FieldType.boolean) := rfl
theorem c278_0 : mc_cd 278 0 = some (.iconst 0, 1) := by decide +kernel
theorem c278_1 : mc_cd 278 1 = some (.istore_n 2, 1) := by decide +kernel
theorem c278_2 : mc_cd 278 2 = some (.iload_n 2, 1) := by decide +kernel
theorem c278_3 : mc_cd 278 3 = some (.i2l, 1) := by decide +kernel
theorem c278_4 : mc_cd 278 4 = some (.aload_n 0, 1) := by decide +kernel
theorem c278_5 : mc_cd 278 5 = some (.invokevirtual 376, 3) := by decide +kernel
theorem c278_8 : mc_cd 278 8 = some (.lcmp, 1) := by decide +kernel
theorem c278_9 : mc_cd 278 9 = some (.ifCond .ge 41, 3) := by decide +kernel
theorem c278_12 : mc_cd 278 12 = some (.aload_n 0, 1) := by decide +kernel
theorem c278_13 : mc_cd 278 13 = some (.iload_n 2, 1) := by decide +kernel
theorem c278_14 : mc_cd 278 14 = some (.invokevirtual 425, 3) := by decide +kernel
theorem c278_17 : mc_cd 278 17 = some (.aload_n 0, 1) := by decide +kernel
theorem c278_18 : mc_cd 278 18 = some (.aload_n 0, 1) := by decide +kernel
theorem c278_19 : mc_cd 278 19 = some (.getfield 39, 3) := by decide +kernel
theorem c278_22 : mc_cd 278 22 = some (.invokevirtual 393, 3) := by decide +kernel
theorem c278_25 : mc_cd 278 25 = some (.ifCond .ne 19, 3) := by decide +kernel
theorem c278_28 : mc_cd 278 28 = some (.aload_n 0, 1) := by decide +kernel
theorem c278_29 : mc_cd 278 29 = some (.aload_n 0, 1) := by decide +kernel
theorem c278_30 : mc_cd 278 30 = some (.getfield 39, 3) := by decide +kernel
theorem c278_33 : mc_cd 278 33 = some (.iload_n 1, 1) := by decide +kernel
theorem c278_34 : mc_cd 278 34 = some (.invokevirtual 397, 3) := by decide +kernel
theorem c278_37 : mc_cd 278 37 = some (.bipush 24, 2) := by decide +kernel
theorem c278_39 : mc_cd 278 39 = some (.if_icmp .ne 5, 3) := by decide +kernel
theorem c278_42 : mc_cd 278 42 = some (.iconst 0, 1) := by decide +kernel
theorem c278_43 : mc_cd 278 43 = some (.ireturn, 1) := by decide +kernel
theorem c278_44 : mc_cd 278 44 = some (.iinc 2 1, 3) := by decide +kernel
theorem c278_47 : mc_cd 278 47 = some (.goto (-45), 3) := by decide +kernel
theorem c278_50 : mc_cd 278 50 = some (.iconst 1, 1) := by decide +kernel
theorem c278_51 : mc_cd 278 51 = some (.ireturn, 1) := by decide +kernel
abbrev q_278 (r0 : Nat) (a1 : Int) (pp : Nat) (T : wq_T) (H : wq_H) : Option Value → wq_T → wq_H → Prop := fun r T' H' => T = T' ∧ WT T H' ∧ wfr [(51, 999)] T H H' ∧ ∃ z : Int, some (vI z) = r ∧ (0 ≤ z ∧ z ≤ 1)
set_option maxHeartbeats 4000000 in
theorem s_278 {kt : Nat → Option mc_E} {T : wq_T} {H : wq_H} {r0 : Nat} {a1 : Int} {pp : Nat} (hW : WT T H) (g0 : T.2.2.2 r0 = some 42) (i1 : (-2147483648) ≤ a1 ∧ a1 ≤ 2147483647) (qpp : H r0 3 = (pp : Int)) (gpp : T.2.2.2 pp = some 54) (p0 : wLM H r0 ≤ 20000) : wpc kt 5 278 [.ref r0, vI a1] T H (q_278 r0 a1 pp T H) := by
  refine wp_enter e278 (Nat.le_of_ble_eq_true rfl) rfl ?_
  have f0 : wfr [(51, 999)] T H H := wfr.rf
  show wp _ _ 278 0 [(0, .ref r0), (1, vI a1)] [] _ H _
  refine wp_of e278 c278_0 (rw_iconst (pc' := 1) rfl ?_)
  refine wp_of e278 c278_1 (rw_istore_n (pc' := 2) (z := 0) (L' := [(2, vI 0), (0, .ref r0), (1, vI a1)]) rfl rfl rfl ?_)
  have lp178366 : ∀ (n178367 : Nat) (v178369 : Int) (H178370 : wq_H), WT T H178370 → wfr [(51, 999)] T H H178370 → (0 ≤ v178369 ∧ v178369 ≤ 20000) → (20000 - v178369).toNat = n178367 → wp kt 4 278 2 [(2, vI v178369), (0, .ref r0), (1, vI a1)] [] T H178370 (q_278 r0 a1 pp T H) := by
    intro n178367
    induction n178367 using Nat.strongRecOn with
    | _ n178367 ih178368 =>
      intro v178369 H178370 w178371 f178372 b178373 m178374
      have f178375 := f0.tr f178372 rfl
      refine wp_of e278 c278_2 (rw_iload_n (pc' := 3) (z := v178369) rfl rfl ?_)
      refine wp_of e278 c278_3 (rw_i2l (pc' := 4) rfl ⟨by omega, by omega⟩ ?_)
      refine wp_of e278 c278_4 (rw_aload_n (pc' := 5) (v := .ref r0) rfl rfl rfl ?_)
      have k178376 : wLM H178370 r0 = wLM H r0 := (wLM_fr hW g0 f178372 rfl)
      have k178377 : H178370 r0 3 = H r0 3 := (f178372 r0 3 _ g0 rfl)
      have q178378 : H178370 r0 3 = (pp : Int) := k178377.trans qpp
      refine wp_of e278 c278_5 (xc_V (pc' := 8) (r := r0) (as := []) (st := [vL v178369]) (lm_9_376) rfl rfl (Nat.le_of_ble_eq_true rfl) w178371 g0 sh_42 (by decide) rfl (by decide) (s_220 w178371 g0 q178378 gpp) (fun R178379 T178380 H178381 p178382 => ?_))
      obtain ⟨e178383, e178385, z178387, e178384, b178388, p178386⟩ := p178382
      subst e178383
      subst e178384
      subst e178385
      show wp _ _ 278 8 [(2, vI v178369), (0, .ref r0), (1, vI a1)] [vL z178387, vL v178369] _ H178370 _
      refine wp_of e278 c278_8 (rw_lcmp (pc' := 9) rfl ⟨by omega, by omega⟩ ⟨by omega, by omega⟩ ?_)
      have b178389 := wq_cmp_b v178369 z178387
      refine wp_of e278 c278_9 (rw_if_ge (p1 := 50) (p2 := 12) (by decide) rfl ⟨by omega, by omega⟩ (fun c178390 => ?_) (fun c178390 => ?_))
      · refine wp_of e278 c278_50 (rw_iconst (pc' := 51) rfl ?_)
        exact wp_zreturn e278 c278_51 rfl (by omega) ⟨rfl, w178371, f178375, 1, rfl, ⟨by omega, by omega⟩⟩
      · refine wp_of e278 c278_12 (rw_aload_n (pc' := 13) (v := .ref r0) rfl rfl rfl ?_)
        refine wp_of e278 c278_13 (rw_iload_n (pc' := 14) (z := v178369) rfl rfl ?_)
        refine wp_of e278 c278_14 (xc_V (pc' := 17) (r := r0) (as := [vI v178369]) (st := []) (lm_9_425) rfl rfl (Nat.le_of_ble_eq_true rfl) w178371 g0 sh_42 (by decide) rfl (by decide) (s_243 w178371 g0 ⟨by omega, by omega⟩ q178378 gpp (by omega)) (fun R178391 T178392 H178393 p178394 => ?_))
        obtain ⟨e178395, w178397, f178398, e178396⟩ := p178394
        subst e178395
        subst e178396
        have f178399 := f178375.tr f178398 rfl
        have f178400 := f178372.tr f178398 rfl
        show wp _ _ 278 17 [(2, vI v178369), (0, .ref r0), (1, vI a1)] [] _ H178393 _
        refine wp_of e278 c278_17 (rw_aload_n (pc' := 18) (v := .ref r0) rfl rfl rfl ?_)
        refine wp_of e278 c278_18 (rw_aload_n (pc' := 19) (v := .ref r0) rfl rfl rfl ?_)
        refine wp_of e278 c278_19 (xg_R (pc' := 22) lf_9_39 w178397 g0 sh_42 (by decide) (by decide) ty_42_27 rfl rfl (fun r178401 q178402 g178403 => ?_))
        have k178404 : H178393 r0 3 = H178370 r0 3 := (f178398 r0 3 _ g0 rfl)
        have q178405 : H178393 r0 3 = (pp : Int) := k178404.trans q178378
        refine wp_of e278 c278_22 (xc_V (pc' := 25) (r := r0) (as := [.ref r178401]) (st := []) (lm_9_393) rfl rfl (Nat.le_of_ble_eq_true rfl) w178397 g0 sh_42 (by decide) rfl (by decide) (s_235_m_lot w178397 g0 g178403 q178405 gpp) (fun R178406 T178407 H178408 p178409 => ?_))
        obtain ⟨e178410, e178412, z178413, e178411, b178414⟩ := p178409
        subst e178410
        subst e178411
        subst e178412
        show wp _ _ 278 25 [(2, vI v178369), (0, .ref r0), (1, vI a1)] [vI z178413] _ H178393 _
        refine wp_of e278 c278_25 (rw_if_ne (p1 := 44) (p2 := 28) (by decide) rfl ⟨by omega, by omega⟩ (fun c178415 => ?_) (fun c178415 => ?_))
        · refine wp_of e278 c278_44 (rw_iinc (pc' := 47) (z := v178369) (L' := [(2, vI (v178369 + 1)), (0, .ref r0), (1, vI a1)]) rfl rfl rfl rfl ?_)
          refine wp_of e278 c278_47 (rw_goto (p1 := 2) (by decide) ?_)
          exact wp_lc (ks := [2, 0, 1]) (wl_c rfl (wl_c rfl (wl_c rfl wl_n))) rfl (by decide) (ih178368 _ (by omega) (v178369 + 1) H178393 w178397 f178400 ⟨by omega, by omega⟩ rfl)
        · refine wp_of e278 c278_28 (rw_aload_n (pc' := 29) (v := .ref r0) rfl rfl rfl ?_)
          refine wp_of e278 c278_29 (rw_aload_n (pc' := 30) (v := .ref r0) rfl rfl rfl ?_)
          refine wp_of e278 c278_30 (xg_K (pc' := 33) lf_9_39 w178397 g0 sh_42 (by decide) (by decide) rfl q178402 rfl ?_)
          refine wp_of e278 c278_33 (rw_iload_n (pc' := 34) (z := a1) rfl rfl ?_)
          refine wp_of e278 c278_34 (xc_V (pc' := 37) (r := r0) (as := [.ref r178401, vI a1]) (st := []) (lm_9_397) rfl rfl (Nat.le_of_ble_eq_true rfl) w178397 g0 sh_42 (by decide) rfl (by decide) (s_239_m_lot w178397 g0 g178403 ⟨by omega, by omega⟩ q178405 gpp) (fun R178416 T178417 H178418 p178419 => ?_))
          obtain ⟨e178420, e178422, z178423, e178421, b178424⟩ := p178419
          subst e178420
          subst e178421
          subst e178422
          show wp _ _ 278 37 [(2, vI v178369), (0, .ref r0), (1, vI a1)] [vI z178423] _ H178393 _
          refine wp_of e278 c278_37 (rw_bipush (pc' := 39) (z := 24) rfl (by decide) ?_)
          refine wp_of e278 c278_39 (rw_icmp_ne (p1 := 44) (p2 := 42) (by decide) rfl ⟨by omega, by omega⟩ ⟨by omega, by omega⟩ (fun c178425 => ?_) (fun c178425 => ?_))
          · refine wp_of e278 c278_44 (rw_iinc (pc' := 47) (z := v178369) (L' := [(2, vI (v178369 + 1)), (0, .ref r0), (1, vI a1)]) rfl rfl rfl rfl ?_)
            refine wp_of e278 c278_47 (rw_goto (p1 := 2) (by decide) ?_)
            exact wp_lc (ks := [2, 0, 1]) (wl_c rfl (wl_c rfl (wl_c rfl wl_n))) rfl (by decide) (ih178368 _ (by omega) (v178369 + 1) H178393 w178397 f178400 ⟨by omega, by omega⟩ rfl)
          · refine wp_of e278 c278_42 (rw_iconst (pc' := 43) rfl ?_)
            exact wp_zreturn e278 c278_43 rfl (by omega) ⟨rfl, w178397, f178399, 0, rfl, ⟨by omega, by omega⟩⟩
  exact wp_lc (ks := [2, 0, 1]) (wl_c rfl (wl_c rfl (wl_c rfl wl_n))) rfl (by decide) (lp178366 _ 0 H hW wfr.rf ⟨by omega, by omega⟩ rfl)
/-! StrikeAwakeModel.leastProof(II)I -/
theorem e277 : wq_en 277 = some (9, 6, false, some FieldType.int) := rfl
theorem c277_0 : mc_cd 277 0 = some (.iload_n 2, 1) := by decide +kernel
theorem c277_1 : mc_cd 277 1 = some (.ifCond .ne 17, 3) := by decide +kernel
theorem c277_4 : mc_cd 277 4 = some (.aload_n 0, 1) := by decide +kernel
theorem c277_5 : mc_cd 277 5 = some (.iconst 0, 1) := by decide +kernel
theorem c277_6 : mc_cd 277 6 = some (.invokevirtual 484, 3) := by decide +kernel
theorem c277_9 : mc_cd 277 9 = some (.ifCond .eq 7, 3) := by decide +kernel
theorem c277_12 : mc_cd 277 12 = some (.iconst 0, 1) := by decide +kernel
theorem c277_13 : mc_cd 277 13 = some (.goto 4, 3) := by decide +kernel
theorem c277_16 : mc_cd 277 16 = some (.iconst (-1), 1) := by decide +kernel
theorem c277_17 : mc_cd 277 17 = some (.ireturn, 1) := by decide +kernel
theorem c277_18 : mc_cd 277 18 = some (.iload_n 2, 1) := by decide +kernel
theorem c277_19 : mc_cd 277 19 = some (.iconst 1, 1) := by decide +kernel
theorem c277_20 : mc_cd 277 20 = some (.isub, 1) := by decide +kernel
theorem c277_21 : mc_cd 277 21 = some (.istore_n 3, 1) := by decide +kernel
theorem c277_22 : mc_cd 277 22 = some (.iload_n 3, 1) := by decide +kernel
theorem c277_23 : mc_cd 277 23 = some (.bipush 24, 2) := by decide +kernel
theorem c277_25 : mc_cd 277 25 = some (.if_icmp .ge 166, 3) := by decide +kernel
theorem c277_28 : mc_cd 277 28 = some (.iload_n 1, 1) := by decide +kernel
theorem c277_29 : mc_cd 277 29 = some (.iload_n 3, 1) := by decide +kernel
theorem c277_30 : mc_cd 277 30 = some (.invokestatic 346, 3) := by decide +kernel
theorem c277_33 : mc_cd 277 33 = some (.ifCond .ne 6, 3) := by decide +kernel
theorem c277_36 : mc_cd 277 36 = some (.goto 149, 3) := by decide +kernel
theorem c277_39 : mc_cd 277 39 = some (.iload_n 2, 1) := by decide +kernel
theorem c277_40 : mc_cd 277 40 = some (.iconst 1, 1) := by decide +kernel
theorem c277_41 : mc_cd 277 41 = some (.if_icmp .ne 17, 3) := by decide +kernel
theorem c277_44 : mc_cd 277 44 = some (.aload_n 0, 1) := by decide +kernel
theorem c277_45 : mc_cd 277 45 = some (.iconst 1, 1) := by decide +kernel
theorem c277_46 : mc_cd 277 46 = some (.iload_n 3, 1) := by decide +kernel
theorem c277_47 : mc_cd 277 47 = some (.ishl, 1) := by decide +kernel
theorem c277_48 : mc_cd 277 48 = some (.invokevirtual 484, 3) := by decide +kernel
theorem c277_51 : mc_cd 277 51 = some (.ifCond .eq 7, 3) := by decide +kernel
theorem c277_54 : mc_cd 277 54 = some (.iconst 1, 1) := by decide +kernel
theorem c277_55 : mc_cd 277 55 = some (.iload_n 3, 1) := by decide +kernel
theorem c277_56 : mc_cd 277 56 = some (.ishl, 1) := by decide +kernel
theorem c277_57 : mc_cd 277 57 = some (.ireturn, 1) := by decide +kernel
theorem c277_58 : mc_cd 277 58 = some (.iload_n 2, 1) := by decide +kernel
theorem c277_59 : mc_cd 277 59 = some (.iconst 2, 1) := by decide +kernel
theorem c277_60 : mc_cd 277 60 = some (.isub, 1) := by decide +kernel
theorem c277_61 : mc_cd 277 61 = some (.istore 4, 2) := by decide +kernel
theorem c277_63 : mc_cd 277 63 = some (.iload 4, 2) := by decide +kernel
theorem c277_65 : mc_cd 277 65 = some (.iload_n 3, 1) := by decide +kernel
theorem c277_66 : mc_cd 277 66 = some (.if_icmp .ge 119, 3) := by decide +kernel
theorem c277_69 : mc_cd 277 69 = some (.iload_n 2, 1) := by decide +kernel
theorem c277_70 : mc_cd 277 70 = some (.iconst 1, 1) := by decide +kernel
theorem c277_71 : mc_cd 277 71 = some (.if_icmp .le 114, 3) := by decide +kernel
theorem c277_74 : mc_cd 277 74 = some (.iload_n 1, 1) := by decide +kernel
theorem c277_75 : mc_cd 277 75 = some (.iload 4, 2) := by decide +kernel
theorem c277_77 : mc_cd 277 77 = some (.invokestatic 346, 3) := by decide +kernel
theorem c277_80 : mc_cd 277 80 = some (.ifCond .ne 6, 3) := by decide +kernel
theorem c277_83 : mc_cd 277 83 = some (.goto 96, 3) := by decide +kernel
theorem c277_86 : mc_cd 277 86 = some (.iload_n 2, 1) := by decide +kernel
theorem c277_87 : mc_cd 277 87 = some (.iconst 2, 1) := by decide +kernel
theorem c277_88 : mc_cd 277 88 = some (.if_icmp .ne 27, 3) := by decide +kernel
theorem c277_91 : mc_cd 277 91 = some (.aload_n 0, 1) := by decide +kernel
theorem c277_92 : mc_cd 277 92 = some (.iconst 1, 1) := by decide +kernel
theorem c277_93 : mc_cd 277 93 = some (.iload_n 3, 1) := by decide +kernel
theorem c277_94 : mc_cd 277 94 = some (.ishl, 1) := by decide +kernel
theorem c277_95 : mc_cd 277 95 = some (.iconst 1, 1) := by decide +kernel
theorem c277_96 : mc_cd 277 96 = some (.iload 4, 2) := by decide +kernel
theorem c277_98 : mc_cd 277 98 = some (.ishl, 1) := by decide +kernel
theorem c277_99 : mc_cd 277 99 = some (.ior, 1) := by decide +kernel
theorem c277_100 : mc_cd 277 100 = some (.invokevirtual 484, 3) := by decide +kernel
theorem c277_103 : mc_cd 277 103 = some (.ifCond .eq 12, 3) := by decide +kernel
theorem c277_106 : mc_cd 277 106 = some (.iconst 1, 1) := by decide +kernel
theorem c277_107 : mc_cd 277 107 = some (.iload_n 3, 1) := by decide +kernel
theorem c277_108 : mc_cd 277 108 = some (.ishl, 1) := by decide +kernel
theorem c277_109 : mc_cd 277 109 = some (.iconst 1, 1) := by decide +kernel
theorem c277_110 : mc_cd 277 110 = some (.iload 4, 2) := by decide +kernel
theorem c277_112 : mc_cd 277 112 = some (.ishl, 1) := by decide +kernel
theorem c277_113 : mc_cd 277 113 = some (.ior, 1) := by decide +kernel
theorem c277_114 : mc_cd 277 114 = some (.ireturn, 1) := by decide +kernel
theorem c277_115 : mc_cd 277 115 = some (.iconst 0, 1) := by decide +kernel
theorem c277_116 : mc_cd 277 116 = some (.istore 5, 2) := by decide +kernel
theorem c277_118 : mc_cd 277 118 = some (.iload 5, 2) := by decide +kernel
theorem c277_120 : mc_cd 277 120 = some (.iload 4, 2) := by decide +kernel
theorem c277_122 : mc_cd 277 122 = some (.if_icmp .ge 57, 3) := by decide +kernel
theorem c277_125 : mc_cd 277 125 = some (.iload_n 2, 1) := by decide +kernel
theorem c277_126 : mc_cd 277 126 = some (.iconst 2, 1) := by decide +kernel
theorem c277_127 : mc_cd 277 127 = some (.if_icmp .le 52, 3) := by decide +kernel
theorem c277_130 : mc_cd 277 130 = some (.iload_n 1, 1) := by decide +kernel
theorem c277_131 : mc_cd 277 131 = some (.iload 5, 2) := by decide +kernel
theorem c277_133 : mc_cd 277 133 = some (.invokestatic 346, 3) := by decide +kernel
theorem c277_136 : mc_cd 277 136 = some (.ifCond .eq 37, 3) := by decide +kernel
theorem c277_139 : mc_cd 277 139 = some (.aload_n 0, 1) := by decide +kernel
theorem c277_140 : mc_cd 277 140 = some (.iconst 1, 1) := by decide +kernel
theorem c277_141 : mc_cd 277 141 = some (.iload_n 3, 1) := by decide +kernel
theorem c277_142 : mc_cd 277 142 = some (.ishl, 1) := by decide +kernel
theorem c277_143 : mc_cd 277 143 = some (.iconst 1, 1) := by decide +kernel
theorem c277_144 : mc_cd 277 144 = some (.iload 4, 2) := by decide +kernel
theorem c277_146 : mc_cd 277 146 = some (.ishl, 1) := by decide +kernel
theorem c277_147 : mc_cd 277 147 = some (.ior, 1) := by decide +kernel
theorem c277_148 : mc_cd 277 148 = some (.iconst 1, 1) := by decide +kernel
theorem c277_149 : mc_cd 277 149 = some (.iload 5, 2) := by decide +kernel
theorem c277_151 : mc_cd 277 151 = some (.ishl, 1) := by decide +kernel
theorem c277_152 : mc_cd 277 152 = some (.ior, 1) := by decide +kernel
theorem c277_153 : mc_cd 277 153 = some (.invokevirtual 484, 3) := by decide +kernel
theorem c277_156 : mc_cd 277 156 = some (.ifCond .eq 17, 3) := by decide +kernel
theorem c277_159 : mc_cd 277 159 = some (.iconst 1, 1) := by decide +kernel
theorem c277_160 : mc_cd 277 160 = some (.iload_n 3, 1) := by decide +kernel
theorem c277_161 : mc_cd 277 161 = some (.ishl, 1) := by decide +kernel
theorem c277_162 : mc_cd 277 162 = some (.iconst 1, 1) := by decide +kernel
theorem c277_163 : mc_cd 277 163 = some (.iload 4, 2) := by decide +kernel
theorem c277_165 : mc_cd 277 165 = some (.ishl, 1) := by decide +kernel
theorem c277_166 : mc_cd 277 166 = some (.ior, 1) := by decide +kernel
theorem c277_167 : mc_cd 277 167 = some (.iconst 1, 1) := by decide +kernel
theorem c277_168 : mc_cd 277 168 = some (.iload 5, 2) := by decide +kernel
theorem c277_170 : mc_cd 277 170 = some (.ishl, 1) := by decide +kernel
theorem c277_171 : mc_cd 277 171 = some (.ior, 1) := by decide +kernel
theorem c277_172 : mc_cd 277 172 = some (.ireturn, 1) := by decide +kernel
theorem c277_173 : mc_cd 277 173 = some (.iinc 5 1, 3) := by decide +kernel
theorem c277_176 : mc_cd 277 176 = some (.goto (-58), 3) := by decide +kernel
theorem c277_179 : mc_cd 277 179 = some (.iinc 4 1, 3) := by decide +kernel
theorem c277_182 : mc_cd 277 182 = some (.goto (-119), 3) := by decide +kernel
theorem c277_185 : mc_cd 277 185 = some (.iinc 3 1, 3) := by decide +kernel
theorem c277_188 : mc_cd 277 188 = some (.goto (-166), 3) := by decide +kernel
theorem c277_191 : mc_cd 277 191 = some (.iconst (-1), 1) := by decide +kernel
theorem c277_192 : mc_cd 277 192 = some (.ireturn, 1) := by decide +kernel
abbrev q_277 (r0 : Nat) (a1 : Int) (a2 : Int) (pp : Nat) (T : wq_T) (H : wq_H) : Option Value → wq_T → wq_H → Prop := fun r T' H' => T = T' ∧ WT T H' ∧ wfr [(51, 999)] T H H' ∧ ∃ z : Int, some (vI z) = r ∧ ((-2147483648) ≤ z ∧ z ≤ 2147483647)
set_option maxHeartbeats 4000000 in
theorem s_277 {kt : Nat → Option mc_E} {T : wq_T} {H : wq_H} {r0 : Nat} {a1 : Int} {a2 : Int} {pp : Nat} (hW : WT T H) (g0 : T.2.2.2 r0 = some 42) (i1 : (-2147483648) ≤ a1 ∧ a1 ≤ 2147483647) (i2 : 0 ≤ a2 ∧ a2 ≤ 3) (qpp : H r0 3 = (pp : Int)) (gpp : T.2.2.2 pp = some 54) (p0 : wLM H r0 ≤ 20000) : wpc kt 6 277 [.ref r0, vI a1, vI a2] T H (q_277 r0 a1 a2 pp T H) := by
  refine wp_enter e277 (Nat.le_of_ble_eq_true rfl) rfl ?_
  have f0 : wfr [(51, 999)] T H H := wfr.rf
  show wp _ _ 277 0 [(0, .ref r0), (1, vI a1), (2, vI a2)] [] _ H _
  refine wp_of e277 c277_0 (rw_iload_n (pc' := 1) (z := a2) rfl rfl ?_)
  refine wp_of e277 c277_1 (rw_if_ne (p1 := 18) (p2 := 4) (by decide) rfl ⟨by omega, by omega⟩ (fun c193901 => ?_) (fun c193901 => ?_))
  · refine wp_of e277 c277_18 (rw_iload_n (pc' := 19) (z := a2) rfl rfl ?_)
    refine wp_of e277 c277_19 (rw_iconst (pc' := 20) rfl ?_)
    refine wp_of e277 c277_20 (rw_isub (pc' := 21) rfl ?_)
    refine wp_of e277 c277_21 (rw_istore_n (pc' := 22) (z := a2 - 1) (L' := [(3, vI (a2 - 1)), (0, .ref r0), (1, vI a1), (2, vI a2)]) rfl rfl rfl ?_)
    have lp206730 : ∀ (n206731 : Nat) (v206733 : Int) (H206734 : wq_H), WT T H206734 → wfr [(51, 999)] T H H206734 → (0 ≤ v206733 ∧ v206733 ≤ 24) → (24 - v206733).toNat = n206731 → wp kt 5 277 22 [(3, vI v206733), (0, .ref r0), (1, vI a1), (2, vI a2)] [] T H206734 (q_277 r0 a1 a2 pp T H) := by
      intro n206731
      induction n206731 using Nat.strongRecOn with
      | _ n206731 ih206732 =>
        intro v206733 H206734 w206735 f206736 b206737 m206738
        have f206739 := f0.tr f206736 rfl
        refine wp_of e277 c277_22 (rw_iload_n (pc' := 23) (z := v206733) rfl rfl ?_)
        refine wp_of e277 c277_23 (rw_bipush (pc' := 25) (z := 24) rfl (by decide) ?_)
        refine wp_of e277 c277_25 (rw_icmp_ge (p1 := 191) (p2 := 28) (by decide) rfl ⟨by omega, by omega⟩ ⟨by omega, by omega⟩ (fun c206740 => ?_) (fun c206740 => ?_))
        · refine wp_of e277 c277_191 (rw_iconst (pc' := 192) rfl ?_)
          exact wp_ireturn e277 c277_192 rfl ⟨rfl, w206735, f206739, -1, rfl, ⟨by omega, by omega⟩⟩
        · refine wp_of e277 c277_28 (rw_iload_n (pc' := 29) (z := a1) rfl rfl ?_)
          refine wp_of e277 c277_29 (rw_iload_n (pc' := 30) (z := v206733) rfl rfl ?_)
          refine wp_of e277 c277_30 (xc_S (pc' := 33) (as := [vI a1, vI v206733]) (st := []) (lm_9_346) rfl rfl (Nat.le_of_ble_eq_true rfl) rfl (by decide) (s_205 w206735 ⟨by omega, by omega⟩ ⟨by omega, by omega⟩) (fun R206741 T206742 H206743 p206744 => ?_))
          obtain ⟨e206745, e206747, z206748, e206746, b206749⟩ := p206744
          subst e206745
          subst e206746
          subst e206747
          show wp _ _ 277 33 [(3, vI v206733), (0, .ref r0), (1, vI a1), (2, vI a2)] [vI z206748] _ H206734 _
          refine wp_of e277 c277_33 (rw_if_ne (p1 := 39) (p2 := 36) (by decide) rfl ⟨by omega, by omega⟩ (fun c206750 => ?_) (fun c206750 => ?_))
          · refine wp_of e277 c277_39 (rw_iload_n (pc' := 40) (z := a2) rfl rfl ?_)
            refine wp_of e277 c277_40 (rw_iconst (pc' := 41) rfl ?_)
            refine wp_of e277 c277_41 (rw_icmp_ne (p1 := 58) (p2 := 44) (by decide) rfl ⟨by omega, by omega⟩ ⟨by omega, by omega⟩ (fun c206751 => ?_) (fun c206751 => ?_))
            · refine wp_of e277 c277_58 (rw_iload_n (pc' := 59) (z := a2) rfl rfl ?_)
              refine wp_of e277 c277_59 (rw_iconst (pc' := 60) rfl ?_)
              refine wp_of e277 c277_60 (rw_isub (pc' := 61) rfl ?_)
              refine wp_of e277 c277_61 (rw_istore (pc' := 63) (z := a2 - 2) (L' := [(4, vI (a2 - 2)), (3, vI v206733), (0, .ref r0), (1, vI a1), (2, vI a2)]) rfl rfl rfl ?_)
              have lp209018 : ∀ (n209019 : Nat) (v209021 : Int) (H209022 : wq_H), WT T H209022 → wfr [(51, 999)] T H206734 H209022 → (0 ≤ v209021 ∧ v209021 ≤ 23) → (23 - v209021).toNat = n209019 → wp kt 5 277 63 [(4, vI v209021), (3, vI v206733), (0, .ref r0), (1, vI a1), (2, vI a2)] [] T H209022 (q_277 r0 a1 a2 pp T H) := by
                intro n209019
                induction n209019 using Nat.strongRecOn with
                | _ n209019 ih209020 =>
                  intro v209021 H209022 w209023 f209024 b209025 m209026
                  have f209027 := f206739.tr f209024 rfl
                  have f209028 := f206736.tr f209024 rfl
                  refine wp_of e277 c277_63 (rw_iload (pc' := 65) (z := v209021) rfl rfl ?_)
                  refine wp_of e277 c277_65 (rw_iload_n (pc' := 66) (z := v206733) rfl rfl ?_)
                  refine wp_of e277 c277_66 (rw_icmp_ge (p1 := 185) (p2 := 69) (by decide) rfl ⟨by omega, by omega⟩ ⟨by omega, by omega⟩ (fun c209029 => ?_) (fun c209029 => ?_))
                  · refine wp_of e277 c277_185 (rw_iinc (pc' := 188) (z := v206733) (L' := [(3, vI (v206733 + 1)), (4, vI v209021), (0, .ref r0), (1, vI a1), (2, vI a2)]) rfl rfl rfl rfl ?_)
                    refine wp_of e277 c277_188 (rw_goto (p1 := 22) (by decide) ?_)
                    exact wp_lc (ks := [3, 4, 0, 1, 2]) (wl_c rfl (wl_c rfl (wl_c rfl (wl_c rfl wl_n)))) rfl (by decide) (ih206732 _ (by omega) (v206733 + 1) H209022 w209023 f209028 ⟨by omega, by omega⟩ rfl)
                  · refine wp_of e277 c277_69 (rw_iload_n (pc' := 70) (z := a2) rfl rfl ?_)
                    refine wp_of e277 c277_70 (rw_iconst (pc' := 71) rfl ?_)
                    refine wp_of e277 c277_71 (rw_icmp_le (p1 := 185) (p2 := 74) (by decide) rfl ⟨by omega, by omega⟩ ⟨by omega, by omega⟩ (fun c209030 => ?_) (fun c209030 => ?_))
                    · exfalso
                      omega
                    · refine wp_of e277 c277_74 (rw_iload_n (pc' := 75) (z := a1) rfl rfl ?_)
                      refine wp_of e277 c277_75 (rw_iload (pc' := 77) (z := v209021) rfl rfl ?_)
                      refine wp_of e277 c277_77 (xc_S (pc' := 80) (as := [vI a1, vI v209021]) (st := []) (lm_9_346) rfl rfl (Nat.le_of_ble_eq_true rfl) rfl (by decide) (s_205 w209023 ⟨by omega, by omega⟩ ⟨by omega, by omega⟩) (fun R209031 T209032 H209033 p209034 => ?_))
                      obtain ⟨e209035, e209037, z209038, e209036, b209039⟩ := p209034
                      subst e209035
                      subst e209036
                      subst e209037
                      show wp _ _ 277 80 [(4, vI v209021), (3, vI v206733), (0, .ref r0), (1, vI a1), (2, vI a2)] [vI z209038] _ H209022 _
                      refine wp_of e277 c277_80 (rw_if_ne (p1 := 86) (p2 := 83) (by decide) rfl ⟨by omega, by omega⟩ (fun c209040 => ?_) (fun c209040 => ?_))
                      · refine wp_of e277 c277_86 (rw_iload_n (pc' := 87) (z := a2) rfl rfl ?_)
                        refine wp_of e277 c277_87 (rw_iconst (pc' := 88) rfl ?_)
                        refine wp_of e277 c277_88 (rw_icmp_ne (p1 := 115) (p2 := 91) (by decide) rfl ⟨by omega, by omega⟩ ⟨by omega, by omega⟩ (fun c209041 => ?_) (fun c209041 => ?_))
                        · refine wp_of e277 c277_115 (rw_iconst (pc' := 116) rfl ?_)
                          refine wp_of e277 c277_116 (rw_istore (pc' := 118) (z := 0) (L' := [(5, vI 0), (4, vI v209021), (3, vI v206733), (0, .ref r0), (1, vI a1), (2, vI a2)]) rfl rfl rfl ?_)
                          have lp209354 : ∀ (n209355 : Nat) (v209357 : Int) (H209358 : wq_H), WT T H209358 → wfr [(51, 999)] T H209022 H209358 → (0 ≤ v209357 ∧ v209357 ≤ 22) → (22 - v209357).toNat = n209355 → wp kt 5 277 118 [(5, vI v209357), (4, vI v209021), (3, vI v206733), (0, .ref r0), (1, vI a1), (2, vI a2)] [] T H209358 (q_277 r0 a1 a2 pp T H) := by
                            intro n209355
                            induction n209355 using Nat.strongRecOn with
                            | _ n209355 ih209356 =>
                              intro v209357 H209358 w209359 f209360 b209361 m209362
                              have f209363 := f209027.tr f209360 rfl
                              have f209364 := f209028.tr f209360 rfl
                              have f209365 := f209024.tr f209360 rfl
                              refine wp_of e277 c277_118 (rw_iload (pc' := 120) (z := v209357) rfl rfl ?_)
                              refine wp_of e277 c277_120 (rw_iload (pc' := 122) (z := v209021) rfl rfl ?_)
                              refine wp_of e277 c277_122 (rw_icmp_ge (p1 := 179) (p2 := 125) (by decide) rfl ⟨by omega, by omega⟩ ⟨by omega, by omega⟩ (fun c209366 => ?_) (fun c209366 => ?_))
                              · refine wp_of e277 c277_179 (rw_iinc (pc' := 182) (z := v209021) (L' := [(4, vI (v209021 + 1)), (5, vI v209357), (3, vI v206733), (0, .ref r0), (1, vI a1), (2, vI a2)]) rfl rfl rfl rfl ?_)
                                refine wp_of e277 c277_182 (rw_goto (p1 := 63) (by decide) ?_)
                                exact wp_lc (ks := [4, 5, 3, 0, 1, 2]) (wl_c rfl (wl_c rfl (wl_c rfl (wl_c rfl (wl_c rfl wl_n))))) rfl (by decide) (ih209020 _ (by omega) (v209021 + 1) H209358 w209359 f209365 ⟨by omega, by omega⟩ rfl)
                              · refine wp_of e277 c277_125 (rw_iload_n (pc' := 126) (z := a2) rfl rfl ?_)
                                refine wp_of e277 c277_126 (rw_iconst (pc' := 127) rfl ?_)
                                refine wp_of e277 c277_127 (rw_icmp_le (p1 := 179) (p2 := 130) (by decide) rfl ⟨by omega, by omega⟩ ⟨by omega, by omega⟩ (fun c209367 => ?_) (fun c209367 => ?_))
                                · exfalso
                                  omega
                                · refine wp_of e277 c277_130 (rw_iload_n (pc' := 131) (z := a1) rfl rfl ?_)
                                  refine wp_of e277 c277_131 (rw_iload (pc' := 133) (z := v209357) rfl rfl ?_)
                                  refine wp_of e277 c277_133 (xc_S (pc' := 136) (as := [vI a1, vI v209357]) (st := []) (lm_9_346) rfl rfl (Nat.le_of_ble_eq_true rfl) rfl (by decide) (s_205 w209359 ⟨by omega, by omega⟩ ⟨by omega, by omega⟩) (fun R209368 T209369 H209370 p209371 => ?_))
                                  obtain ⟨e209372, e209374, z209375, e209373, b209376⟩ := p209371
                                  subst e209372
                                  subst e209373
                                  subst e209374
                                  show wp _ _ 277 136 [(5, vI v209357), (4, vI v209021), (3, vI v206733), (0, .ref r0), (1, vI a1), (2, vI a2)] [vI z209375] _ H209358 _
                                  refine wp_of e277 c277_136 (rw_if_eq (p1 := 173) (p2 := 139) (by decide) rfl ⟨by omega, by omega⟩ (fun c209377 => ?_) (fun c209377 => ?_))
                                  · refine wp_of e277 c277_173 (rw_iinc (pc' := 176) (z := v209357) (L' := [(5, vI (v209357 + 1)), (4, vI v209021), (3, vI v206733), (0, .ref r0), (1, vI a1), (2, vI a2)]) rfl rfl rfl rfl ?_)
                                    refine wp_of e277 c277_176 (rw_goto (p1 := 118) (by decide) ?_)
                                    exact wp_lc (ks := [5, 4, 3, 0, 1, 2]) (wl_c rfl (wl_c rfl (wl_c rfl (wl_c rfl (wl_c rfl (wl_c rfl wl_n)))))) rfl (by decide) (ih209356 _ (by omega) (v209357 + 1) H209358 w209359 f209360 ⟨by omega, by omega⟩ rfl)
                                  · refine wp_of e277 c277_139 (rw_aload_n (pc' := 140) (v := .ref r0) rfl rfl rfl ?_)
                                    refine wp_of e277 c277_140 (rw_iconst (pc' := 141) rfl ?_)
                                    refine wp_of e277 c277_141 (rw_iload_n (pc' := 142) (z := v206733) rfl rfl ?_)
                                    refine wp_of e277 c277_142 (rw_ishl (pc' := 143) rfl ?_)
                                    obtain ⟨v209378, e209379⟩ : ∃ x : Int, x = wq_shl 1 v206733 := ⟨_, rfl⟩
                                    rw [← e209379]
                                    have b209380 : 1 ≤ v209378 ∧ v209378 ≤ 8388608 := by
                                      rw [e209379]
                                      exact wq_shl1_24 ⟨by omega, by omega⟩
                                    refine wp_of e277 c277_143 (rw_iconst (pc' := 144) rfl ?_)
                                    refine wp_of e277 c277_144 (rw_iload (pc' := 146) (z := v209021) rfl rfl ?_)
                                    refine wp_of e277 c277_146 (rw_ishl (pc' := 147) rfl ?_)
                                    obtain ⟨v209381, e209382⟩ : ∃ x : Int, x = wq_shl 1 v209021 := ⟨_, rfl⟩
                                    rw [← e209382]
                                    have b209383 : 1 ≤ v209381 ∧ v209381 ≤ 8388608 := by
                                      rw [e209382]
                                      exact wq_shl1_24 ⟨by omega, by omega⟩
                                    refine wp_of e277 c277_147 (rw_ior (pc' := 148) rfl ?_)
                                    obtain ⟨v209384, e209385⟩ : ∃ x : Int, x = wq_or v209378 v209381 := ⟨_, rfl⟩
                                    rw [← e209385]
                                    have b209386 : 0 ≤ v209384 ∧ v209384 ≤ 16777215 := by
                                      rw [e209385]
                                      exact wq_or_24 ⟨by omega, by omega⟩ ⟨by omega, by omega⟩
                                    refine wp_of e277 c277_148 (rw_iconst (pc' := 149) rfl ?_)
                                    refine wp_of e277 c277_149 (rw_iload (pc' := 151) (z := v209357) rfl rfl ?_)
                                    refine wp_of e277 c277_151 (rw_ishl (pc' := 152) rfl ?_)
                                    obtain ⟨v209387, e209388⟩ : ∃ x : Int, x = wq_shl 1 v209357 := ⟨_, rfl⟩
                                    rw [← e209388]
                                    have b209389 : 1 ≤ v209387 ∧ v209387 ≤ 8388608 := by
                                      rw [e209388]
                                      exact wq_shl1_24 ⟨by omega, by omega⟩
                                    refine wp_of e277 c277_152 (rw_ior (pc' := 153) rfl ?_)
                                    obtain ⟨v209390, e209391⟩ : ∃ x : Int, x = wq_or v209384 v209387 := ⟨_, rfl⟩
                                    rw [← e209391]
                                    have b209392 : 0 ≤ v209390 ∧ v209390 ≤ 16777215 := by
                                      rw [e209391]
                                      exact wq_or_24 ⟨by omega, by omega⟩ ⟨by omega, by omega⟩
                                    have k209393 : wLM H209358 r0 = wLM H r0 := ((wLM_fr w209023 g0 f209360 rfl).trans ((wLM_fr w206735 g0 f209024 rfl).trans (wLM_fr hW g0 f206736 rfl)))
                                    have k209394 : H209358 r0 3 = H r0 3 := ((f209360 r0 3 _ g0 rfl).trans ((f209024 r0 3 _ g0 rfl).trans (f206736 r0 3 _ g0 rfl)))
                                    have q209395 : H209358 r0 3 = (pp : Int) := k209394.trans qpp
                                    refine wp_of e277 c277_153 (xc_V (pc' := 156) (r := r0) (as := [vI v209390]) (st := []) (lm_9_484) rfl rfl (Nat.le_of_ble_eq_true rfl) w209359 g0 sh_42 (by decide) rfl (by decide) (s_278 w209359 g0 ⟨by omega, by omega⟩ q209395 gpp (by omega)) (fun R209396 T209397 H209398 p209399 => ?_))
                                    obtain ⟨e209400, w209402, f209403, z209404, e209401, b209405⟩ := p209399
                                    subst e209400
                                    subst e209401
                                    have f209406 := f209363.tr f209403 rfl
                                    have f209407 := f209364.tr f209403 rfl
                                    have f209408 := f209365.tr f209403 rfl
                                    have f209409 := f209360.tr f209403 rfl
                                    show wp _ _ 277 156 [(5, vI v209357), (4, vI v209021), (3, vI v206733), (0, .ref r0), (1, vI a1), (2, vI a2)] [vI z209404] _ H209398 _
                                    refine wp_of e277 c277_156 (rw_if_eq (p1 := 173) (p2 := 159) (by decide) rfl ⟨by omega, by omega⟩ (fun c209410 => ?_) (fun c209410 => ?_))
                                    · refine wp_of e277 c277_173 (rw_iinc (pc' := 176) (z := v209357) (L' := [(5, vI (v209357 + 1)), (4, vI v209021), (3, vI v206733), (0, .ref r0), (1, vI a1), (2, vI a2)]) rfl rfl rfl rfl ?_)
                                      refine wp_of e277 c277_176 (rw_goto (p1 := 118) (by decide) ?_)
                                      exact wp_lc (ks := [5, 4, 3, 0, 1, 2]) (wl_c rfl (wl_c rfl (wl_c rfl (wl_c rfl (wl_c rfl (wl_c rfl wl_n)))))) rfl (by decide) (ih209356 _ (by omega) (v209357 + 1) H209398 w209402 f209409 ⟨by omega, by omega⟩ rfl)
                                    · refine wp_of e277 c277_159 (rw_iconst (pc' := 160) rfl ?_)
                                      refine wp_of e277 c277_160 (rw_iload_n (pc' := 161) (z := v206733) rfl rfl ?_)
                                      refine wp_of e277 c277_161 (rw_ishl (pc' := 162) rfl ?_)
                                      obtain ⟨v209411, e209412⟩ : ∃ x : Int, x = wq_shl 1 v206733 := ⟨_, rfl⟩
                                      rw [← e209412]
                                      have b209413 : 1 ≤ v209411 ∧ v209411 ≤ 8388608 := by
                                        rw [e209412]
                                        exact wq_shl1_24 ⟨by omega, by omega⟩
                                      refine wp_of e277 c277_162 (rw_iconst (pc' := 163) rfl ?_)
                                      refine wp_of e277 c277_163 (rw_iload (pc' := 165) (z := v209021) rfl rfl ?_)
                                      refine wp_of e277 c277_165 (rw_ishl (pc' := 166) rfl ?_)
                                      obtain ⟨v209414, e209415⟩ : ∃ x : Int, x = wq_shl 1 v209021 := ⟨_, rfl⟩
                                      rw [← e209415]
                                      have b209416 : 1 ≤ v209414 ∧ v209414 ≤ 8388608 := by
                                        rw [e209415]
                                        exact wq_shl1_24 ⟨by omega, by omega⟩
                                      refine wp_of e277 c277_166 (rw_ior (pc' := 167) rfl ?_)
                                      obtain ⟨v209417, e209418⟩ : ∃ x : Int, x = wq_or v209411 v209414 := ⟨_, rfl⟩
                                      rw [← e209418]
                                      have b209419 : 0 ≤ v209417 ∧ v209417 ≤ 16777215 := by
                                        rw [e209418]
                                        exact wq_or_24 ⟨by omega, by omega⟩ ⟨by omega, by omega⟩
                                      refine wp_of e277 c277_167 (rw_iconst (pc' := 168) rfl ?_)
                                      refine wp_of e277 c277_168 (rw_iload (pc' := 170) (z := v209357) rfl rfl ?_)
                                      refine wp_of e277 c277_170 (rw_ishl (pc' := 171) rfl ?_)
                                      obtain ⟨v209420, e209421⟩ : ∃ x : Int, x = wq_shl 1 v209357 := ⟨_, rfl⟩
                                      rw [← e209421]
                                      have b209422 : 1 ≤ v209420 ∧ v209420 ≤ 8388608 := by
                                        rw [e209421]
                                        exact wq_shl1_24 ⟨by omega, by omega⟩
                                      refine wp_of e277 c277_171 (rw_ior (pc' := 172) rfl ?_)
                                      obtain ⟨v209423, e209424⟩ : ∃ x : Int, x = wq_or v209417 v209420 := ⟨_, rfl⟩
                                      rw [← e209424]
                                      have b209425 : 0 ≤ v209423 ∧ v209423 ≤ 16777215 := by
                                        rw [e209424]
                                        exact wq_or_24 ⟨by omega, by omega⟩ ⟨by omega, by omega⟩
                                      exact wp_ireturn e277 c277_172 rfl ⟨rfl, w209402, f209406, v209423, rfl, ⟨by omega, by omega⟩⟩
                          exact wp_lc (ks := [5, 4, 3, 0, 1, 2]) (wl_c rfl (wl_c rfl (wl_c rfl (wl_c rfl (wl_c rfl (wl_c rfl wl_n)))))) rfl (by decide) (lp209354 _ 0 H209022 w209023 wfr.rf ⟨by omega, by omega⟩ rfl)
                        · refine wp_of e277 c277_91 (rw_aload_n (pc' := 92) (v := .ref r0) rfl rfl rfl ?_)
                          refine wp_of e277 c277_92 (rw_iconst (pc' := 93) rfl ?_)
                          refine wp_of e277 c277_93 (rw_iload_n (pc' := 94) (z := v206733) rfl rfl ?_)
                          refine wp_of e277 c277_94 (rw_ishl (pc' := 95) rfl ?_)
                          obtain ⟨v209426, e209427⟩ : ∃ x : Int, x = wq_shl 1 v206733 := ⟨_, rfl⟩
                          rw [← e209427]
                          have b209428 : 1 ≤ v209426 ∧ v209426 ≤ 8388608 := by
                            rw [e209427]
                            exact wq_shl1_24 ⟨by omega, by omega⟩
                          refine wp_of e277 c277_95 (rw_iconst (pc' := 96) rfl ?_)
                          refine wp_of e277 c277_96 (rw_iload (pc' := 98) (z := v209021) rfl rfl ?_)
                          refine wp_of e277 c277_98 (rw_ishl (pc' := 99) rfl ?_)
                          obtain ⟨v209429, e209430⟩ : ∃ x : Int, x = wq_shl 1 v209021 := ⟨_, rfl⟩
                          rw [← e209430]
                          have b209431 : 1 ≤ v209429 ∧ v209429 ≤ 8388608 := by
                            rw [e209430]
                            exact wq_shl1_24 ⟨by omega, by omega⟩
                          refine wp_of e277 c277_99 (rw_ior (pc' := 100) rfl ?_)
                          obtain ⟨v209432, e209433⟩ : ∃ x : Int, x = wq_or v209426 v209429 := ⟨_, rfl⟩
                          rw [← e209433]
                          have b209434 : 0 ≤ v209432 ∧ v209432 ≤ 16777215 := by
                            rw [e209433]
                            exact wq_or_24 ⟨by omega, by omega⟩ ⟨by omega, by omega⟩
                          have k209435 : wLM H209022 r0 = wLM H r0 := ((wLM_fr w206735 g0 f209024 rfl).trans (wLM_fr hW g0 f206736 rfl))
                          have k209436 : H209022 r0 3 = H r0 3 := ((f209024 r0 3 _ g0 rfl).trans (f206736 r0 3 _ g0 rfl))
                          have q209437 : H209022 r0 3 = (pp : Int) := k209436.trans qpp
                          refine wp_of e277 c277_100 (xc_V (pc' := 103) (r := r0) (as := [vI v209432]) (st := []) (lm_9_484) rfl rfl (Nat.le_of_ble_eq_true rfl) w209023 g0 sh_42 (by decide) rfl (by decide) (s_278 w209023 g0 ⟨by omega, by omega⟩ q209437 gpp (by omega)) (fun R209438 T209439 H209440 p209441 => ?_))
                          obtain ⟨e209442, w209444, f209445, z209446, e209443, b209447⟩ := p209441
                          subst e209442
                          subst e209443
                          have f209448 := f209027.tr f209445 rfl
                          have f209449 := f209028.tr f209445 rfl
                          have f209450 := f209024.tr f209445 rfl
                          show wp _ _ 277 103 [(4, vI v209021), (3, vI v206733), (0, .ref r0), (1, vI a1), (2, vI a2)] [vI z209446] _ H209440 _
                          refine wp_of e277 c277_103 (rw_if_eq (p1 := 115) (p2 := 106) (by decide) rfl ⟨by omega, by omega⟩ (fun c209451 => ?_) (fun c209451 => ?_))
                          · refine wp_of e277 c277_115 (rw_iconst (pc' := 116) rfl ?_)
                            refine wp_of e277 c277_116 (rw_istore (pc' := 118) (z := 0) (L' := [(5, vI 0), (4, vI v209021), (3, vI v206733), (0, .ref r0), (1, vI a1), (2, vI a2)]) rfl rfl rfl ?_)
                            have lp209454 : ∀ (n209455 : Nat) (v209457 : Int), (0 ≤ v209457 ∧ v209457 ≤ 0) → 0 = n209455 → wp kt 5 277 118 [(5, vI v209457), (4, vI v209021), (3, vI v206733), (0, .ref r0), (1, vI a1), (2, vI a2)] [] T H209440 (q_277 r0 a1 a2 pp T H) := by
                              intro n209455
                              induction n209455 using Nat.strongRecOn with
                              | _ n209455 ih209456 =>
                                intro v209457 b209460 m209461
                                refine wp_of e277 c277_118 (rw_iload (pc' := 120) (z := v209457) rfl rfl ?_)
                                refine wp_of e277 c277_120 (rw_iload (pc' := 122) (z := v209021) rfl rfl ?_)
                                refine wp_of e277 c277_122 (rw_icmp_ge (p1 := 179) (p2 := 125) (by decide) rfl ⟨by omega, by omega⟩ ⟨by omega, by omega⟩ (fun c209462 => ?_) (fun c209462 => ?_))
                                · refine wp_of e277 c277_179 (rw_iinc (pc' := 182) (z := v209021) (L' := [(4, vI (v209021 + 1)), (5, vI v209457), (3, vI v206733), (0, .ref r0), (1, vI a1), (2, vI a2)]) rfl rfl rfl rfl ?_)
                                  refine wp_of e277 c277_182 (rw_goto (p1 := 63) (by decide) ?_)
                                  exact wp_lc (ks := [4, 5, 3, 0, 1, 2]) (wl_c rfl (wl_c rfl (wl_c rfl (wl_c rfl (wl_c rfl wl_n))))) rfl (by decide) (ih209020 _ (by omega) (v209021 + 1) H209440 w209444 f209450 ⟨by omega, by omega⟩ rfl)
                                · refine wp_of e277 c277_125 (rw_iload_n (pc' := 126) (z := a2) rfl rfl ?_)
                                  refine wp_of e277 c277_126 (rw_iconst (pc' := 127) rfl ?_)
                                  refine wp_of e277 c277_127 (rw_icmp_le (p1 := 179) (p2 := 130) (by decide) rfl ⟨by omega, by omega⟩ ⟨by omega, by omega⟩ (fun c209463 => ?_) (fun c209463 => ?_))
                                  · refine wp_of e277 c277_179 (rw_iinc (pc' := 182) (z := v209021) (L' := [(4, vI (v209021 + 1)), (5, vI v209457), (3, vI v206733), (0, .ref r0), (1, vI a1), (2, vI a2)]) rfl rfl rfl rfl ?_)
                                    refine wp_of e277 c277_182 (rw_goto (p1 := 63) (by decide) ?_)
                                    exact wp_lc (ks := [4, 5, 3, 0, 1, 2]) (wl_c rfl (wl_c rfl (wl_c rfl (wl_c rfl (wl_c rfl wl_n))))) rfl (by decide) (ih209020 _ (by omega) (v209021 + 1) H209440 w209444 f209450 ⟨by omega, by omega⟩ rfl)
                                  · exfalso
                                    omega
                            exact wp_lc (ks := [5, 4, 3, 0, 1, 2]) (wl_c rfl (wl_c rfl (wl_c rfl (wl_c rfl (wl_c rfl (wl_c rfl wl_n)))))) rfl (by decide) (lp209454 _ 0 ⟨by omega, by omega⟩ rfl)
                          · refine wp_of e277 c277_106 (rw_iconst (pc' := 107) rfl ?_)
                            refine wp_of e277 c277_107 (rw_iload_n (pc' := 108) (z := v206733) rfl rfl ?_)
                            refine wp_of e277 c277_108 (rw_ishl (pc' := 109) rfl ?_)
                            obtain ⟨v209464, e209465⟩ : ∃ x : Int, x = wq_shl 1 v206733 := ⟨_, rfl⟩
                            rw [← e209465]
                            have b209466 : 1 ≤ v209464 ∧ v209464 ≤ 8388608 := by
                              rw [e209465]
                              exact wq_shl1_24 ⟨by omega, by omega⟩
                            refine wp_of e277 c277_109 (rw_iconst (pc' := 110) rfl ?_)
                            refine wp_of e277 c277_110 (rw_iload (pc' := 112) (z := v209021) rfl rfl ?_)
                            refine wp_of e277 c277_112 (rw_ishl (pc' := 113) rfl ?_)
                            obtain ⟨v209467, e209468⟩ : ∃ x : Int, x = wq_shl 1 v209021 := ⟨_, rfl⟩
                            rw [← e209468]
                            have b209469 : 1 ≤ v209467 ∧ v209467 ≤ 8388608 := by
                              rw [e209468]
                              exact wq_shl1_24 ⟨by omega, by omega⟩
                            refine wp_of e277 c277_113 (rw_ior (pc' := 114) rfl ?_)
                            obtain ⟨v209470, e209471⟩ : ∃ x : Int, x = wq_or v209464 v209467 := ⟨_, rfl⟩
                            rw [← e209471]
                            have b209472 : 0 ≤ v209470 ∧ v209470 ≤ 16777215 := by
                              rw [e209471]
                              exact wq_or_24 ⟨by omega, by omega⟩ ⟨by omega, by omega⟩
                            exact wp_ireturn e277 c277_114 rfl ⟨rfl, w209444, f209448, v209470, rfl, ⟨by omega, by omega⟩⟩
                      · refine wp_of e277 c277_83 (rw_goto (p1 := 179) (by decide) ?_)
                        refine wp_of e277 c277_179 (rw_iinc (pc' := 182) (z := v209021) (L' := [(4, vI (v209021 + 1)), (3, vI v206733), (0, .ref r0), (1, vI a1), (2, vI a2)]) rfl rfl rfl rfl ?_)
                        refine wp_of e277 c277_182 (rw_goto (p1 := 63) (by decide) ?_)
                        exact wp_lc (ks := [4, 3, 0, 1, 2]) (wl_c rfl (wl_c rfl (wl_c rfl (wl_c rfl (wl_c rfl wl_n))))) rfl (by decide) (ih209020 _ (by omega) (v209021 + 1) H209022 w209023 f209024 ⟨by omega, by omega⟩ rfl)
              exact wp_lc (ks := [4, 3, 0, 1, 2]) (wl_c rfl (wl_c rfl (wl_c rfl (wl_c rfl (wl_c rfl wl_n))))) rfl (by decide) (lp209018 _ (a2 - 2) H206734 w206735 wfr.rf ⟨by omega, by omega⟩ rfl)
            · refine wp_of e277 c277_44 (rw_aload_n (pc' := 45) (v := .ref r0) rfl rfl rfl ?_)
              refine wp_of e277 c277_45 (rw_iconst (pc' := 46) rfl ?_)
              refine wp_of e277 c277_46 (rw_iload_n (pc' := 47) (z := v206733) rfl rfl ?_)
              refine wp_of e277 c277_47 (rw_ishl (pc' := 48) rfl ?_)
              obtain ⟨v209473, e209474⟩ : ∃ x : Int, x = wq_shl 1 v206733 := ⟨_, rfl⟩
              rw [← e209474]
              have b209475 : 1 ≤ v209473 ∧ v209473 ≤ 8388608 := by
                rw [e209474]
                exact wq_shl1_24 ⟨by omega, by omega⟩
              have k209476 : wLM H206734 r0 = wLM H r0 := (wLM_fr hW g0 f206736 rfl)
              have k209477 : H206734 r0 3 = H r0 3 := (f206736 r0 3 _ g0 rfl)
              have q209478 : H206734 r0 3 = (pp : Int) := k209477.trans qpp
              refine wp_of e277 c277_48 (xc_V (pc' := 51) (r := r0) (as := [vI v209473]) (st := []) (lm_9_484) rfl rfl (Nat.le_of_ble_eq_true rfl) w206735 g0 sh_42 (by decide) rfl (by decide) (s_278 w206735 g0 ⟨by omega, by omega⟩ q209478 gpp (by omega)) (fun R209479 T209480 H209481 p209482 => ?_))
              obtain ⟨e209483, w209485, f209486, z209487, e209484, b209488⟩ := p209482
              subst e209483
              subst e209484
              have f209489 := f206739.tr f209486 rfl
              have f209490 := f206736.tr f209486 rfl
              show wp _ _ 277 51 [(3, vI v206733), (0, .ref r0), (1, vI a1), (2, vI a2)] [vI z209487] _ H209481 _
              refine wp_of e277 c277_51 (rw_if_eq (p1 := 58) (p2 := 54) (by decide) rfl ⟨by omega, by omega⟩ (fun c209491 => ?_) (fun c209491 => ?_))
              · refine wp_of e277 c277_58 (rw_iload_n (pc' := 59) (z := a2) rfl rfl ?_)
                refine wp_of e277 c277_59 (rw_iconst (pc' := 60) rfl ?_)
                refine wp_of e277 c277_60 (rw_isub (pc' := 61) rfl ?_)
                refine wp_of e277 c277_61 (rw_istore (pc' := 63) (z := a2 - 2) (L' := [(4, vI (a2 - 2)), (3, vI v206733), (0, .ref r0), (1, vI a1), (2, vI a2)]) rfl rfl rfl ?_)
                have lp209494 : ∀ (n209495 : Nat) (v209497 : Int), ((-1) ≤ v209497 ∧ v209497 ≤ (-1)) → 0 = n209495 → wp kt 5 277 63 [(4, vI v209497), (3, vI v206733), (0, .ref r0), (1, vI a1), (2, vI a2)] [] T H209481 (q_277 r0 a1 a2 pp T H) := by
                  intro n209495
                  induction n209495 using Nat.strongRecOn with
                  | _ n209495 ih209496 =>
                    intro v209497 b209500 m209501
                    refine wp_of e277 c277_63 (rw_iload (pc' := 65) (z := v209497) rfl rfl ?_)
                    refine wp_of e277 c277_65 (rw_iload_n (pc' := 66) (z := v206733) rfl rfl ?_)
                    refine wp_of e277 c277_66 (rw_icmp_ge (p1 := 185) (p2 := 69) (by decide) rfl ⟨by omega, by omega⟩ ⟨by omega, by omega⟩ (fun c209502 => ?_) (fun c209502 => ?_))
                    · exfalso
                      omega
                    · refine wp_of e277 c277_69 (rw_iload_n (pc' := 70) (z := a2) rfl rfl ?_)
                      refine wp_of e277 c277_70 (rw_iconst (pc' := 71) rfl ?_)
                      refine wp_of e277 c277_71 (rw_icmp_le (p1 := 185) (p2 := 74) (by decide) rfl ⟨by omega, by omega⟩ ⟨by omega, by omega⟩ (fun c209503 => ?_) (fun c209503 => ?_))
                      · refine wp_of e277 c277_185 (rw_iinc (pc' := 188) (z := v206733) (L' := [(3, vI (v206733 + 1)), (4, vI v209497), (0, .ref r0), (1, vI a1), (2, vI a2)]) rfl rfl rfl rfl ?_)
                        refine wp_of e277 c277_188 (rw_goto (p1 := 22) (by decide) ?_)
                        exact wp_lc (ks := [3, 4, 0, 1, 2]) (wl_c rfl (wl_c rfl (wl_c rfl (wl_c rfl wl_n)))) rfl (by decide) (ih206732 _ (by omega) (v206733 + 1) H209481 w209485 f209490 ⟨by omega, by omega⟩ rfl)
                      · exfalso
                        omega
                exact wp_lc (ks := [4, 3, 0, 1, 2]) (wl_c rfl (wl_c rfl (wl_c rfl (wl_c rfl (wl_c rfl wl_n))))) rfl (by decide) (lp209494 _ (a2 - 2) ⟨by omega, by omega⟩ rfl)
              · refine wp_of e277 c277_54 (rw_iconst (pc' := 55) rfl ?_)
                refine wp_of e277 c277_55 (rw_iload_n (pc' := 56) (z := v206733) rfl rfl ?_)
                refine wp_of e277 c277_56 (rw_ishl (pc' := 57) rfl ?_)
                obtain ⟨v209504, e209505⟩ : ∃ x : Int, x = wq_shl 1 v206733 := ⟨_, rfl⟩
                rw [← e209505]
                have b209506 : 1 ≤ v209504 ∧ v209504 ≤ 8388608 := by
                  rw [e209505]
                  exact wq_shl1_24 ⟨by omega, by omega⟩
                exact wp_ireturn e277 c277_57 rfl ⟨rfl, w209485, f209489, v209504, rfl, ⟨by omega, by omega⟩⟩
          · refine wp_of e277 c277_36 (rw_goto (p1 := 185) (by decide) ?_)
            refine wp_of e277 c277_185 (rw_iinc (pc' := 188) (z := v206733) (L' := [(3, vI (v206733 + 1)), (0, .ref r0), (1, vI a1), (2, vI a2)]) rfl rfl rfl rfl ?_)
            refine wp_of e277 c277_188 (rw_goto (p1 := 22) (by decide) ?_)
            exact wp_lc (ks := [3, 0, 1, 2]) (wl_c rfl (wl_c rfl (wl_c rfl (wl_c rfl wl_n)))) rfl (by decide) (ih206732 _ (by omega) (v206733 + 1) H206734 w206735 f206736 ⟨by omega, by omega⟩ rfl)
    exact wp_lc (ks := [3, 0, 1, 2]) (wl_c rfl (wl_c rfl (wl_c rfl (wl_c rfl wl_n)))) rfl (by decide) (lp206730 _ (a2 - 1) H hW wfr.rf ⟨by omega, by omega⟩ rfl)
  · refine wp_of e277 c277_4 (rw_aload_n (pc' := 5) (v := .ref r0) rfl rfl rfl ?_)
    refine wp_of e277 c277_5 (rw_iconst (pc' := 6) rfl ?_)
    refine wp_of e277 c277_6 (xc_V (pc' := 9) (r := r0) (as := [vI 0]) (st := []) (lm_9_484) rfl rfl (Nat.le_of_ble_eq_true rfl) hW g0 sh_42 (by decide) rfl (by decide) (s_278 hW g0 ⟨by omega, by omega⟩ qpp gpp (by omega)) (fun R209507 T209508 H209509 p209510 => ?_))
    obtain ⟨e209511, w209513, f209514, z209515, e209512, b209516⟩ := p209510
    subst e209511
    subst e209512
    have f209517 := f0.tr f209514 rfl
    show wp _ _ 277 9 [(0, .ref r0), (1, vI a1), (2, vI a2)] [vI z209515] _ H209509 _
    refine wp_of e277 c277_9 (rw_if_eq (p1 := 16) (p2 := 12) (by decide) rfl ⟨by omega, by omega⟩ (fun c209518 => ?_) (fun c209518 => ?_))
    · refine wp_of e277 c277_16 (rw_iconst (pc' := 17) rfl ?_)
      exact wp_ireturn e277 c277_17 rfl ⟨rfl, w209513, f209517, -1, rfl, ⟨by omega, by omega⟩⟩
    · refine wp_of e277 c277_12 (rw_iconst (pc' := 13) rfl ?_)
      refine wp_of e277 c277_13 (rw_goto (p1 := 17) (by decide) ?_)
      exact wp_ireturn e277 c277_17 rfl ⟨rfl, w209513, f209517, 0, rfl, ⟨by omega, by omega⟩⟩
/-! StrikeAwakeModel.proof()I -/
theorem e276 : wq_en 276 = some (9, 5, false, some FieldType.int) := rfl
theorem c276_0 : mc_cd 276 0 = some (.aload_n 0, 1) := by decide +kernel
theorem c276_1 : mc_cd 276 1 = some (.iconst 0, 1) := by decide +kernel
theorem c276_2 : mc_cd 276 2 = some (.putfield 48, 3) := by decide +kernel
theorem c276_5 : mc_cd 276 5 = some (.aload_n 0, 1) := by decide +kernel
theorem c276_6 : mc_cd 276 6 = some (.aload_n 0, 1) := by decide +kernel
theorem c276_7 : mc_cd 276 7 = some (.getfield 337, 3) := by decide +kernel
theorem c276_10 : mc_cd 276 10 = some (.ifnull 7, 3) := by decide +kernel
theorem c276_13 : mc_cd 276 13 = some (.iconst 1, 1) := by decide +kernel
theorem c276_14 : mc_cd 276 14 = some (.goto 4, 3) := by decide +kernel
theorem c276_17 : mc_cd 276 17 = some (.iconst 0, 1) := by decide +kernel
theorem c276_18 : mc_cd 276 18 = some (.invokevirtual 433, 3) := by decide +kernel
theorem c276_21 : mc_cd 276 21 = some (.istore_n 1, 1) := by decide +kernel
theorem c276_22 : mc_cd 276 22 = some (.iload_n 1, 1) := by decide +kernel
theorem c276_23 : mc_cd 276 23 = some (.ifCond .ne 16, 3) := by decide +kernel
theorem c276_26 : mc_cd 276 26 = some (.aload_n 0, 1) := by decide +kernel
theorem c276_27 : mc_cd 276 27 = some (.invokevirtual 376, 3) := by decide +kernel
theorem c276_30 : mc_cd 276 30 = some (.ldc2_w 479, 3) := by decide +kernel
theorem c276_33 : mc_cd 276 33 = some (.lcmp, 1) := by decide +kernel
theorem c276_34 : mc_cd 276 34 = some (.ifCond .le 5, 3) := by decide +kernel
theorem c276_37 : mc_cd 276 37 = some (.iconst 3, 1) := by decide +kernel
theorem c276_38 : mc_cd 276 38 = some (.istore_n 1, 1) := by decide +kernel
theorem c276_39 : mc_cd 276 39 = some (.iload_n 1, 1) := by decide +kernel
theorem c276_40 : mc_cd 276 40 = some (.ifCond .ne 12, 3) := by decide +kernel
theorem c276_43 : mc_cd 276 43 = some (.aload_n 0, 1) := by decide +kernel
theorem c276_44 : mc_cd 276 44 = some (.getfield 422, 3) := by decide +kernel
theorem c276_47 : mc_cd 276 47 = some (.ifCond .le 5, 3) := by decide +kernel
theorem c276_50 : mc_cd 276 50 = some (.iconst 5, 1) := by decide +kernel
theorem c276_51 : mc_cd 276 51 = some (.istore_n 1, 1) := by decide +kernel
theorem c276_52 : mc_cd 276 52 = some (.iload_n 1, 1) := by decide +kernel
theorem c276_53 : mc_cd 276 53 = some (.ifCond .le 9, 3) := by decide +kernel
theorem c276_56 : mc_cd 276 56 = some (.aload_n 0, 1) := by decide +kernel
theorem c276_57 : mc_cd 276 57 = some (.iload_n 1, 1) := by decide +kernel
theorem c276_58 : mc_cd 276 58 = some (.invokevirtual 54, 3) := by decide +kernel
theorem c276_61 : mc_cd 276 61 = some (.ireturn, 1) := by decide +kernel
theorem c276_62 : mc_cd 276 62 = some (.aload_n 0, 1) := by decide +kernel
theorem c276_63 : mc_cd 276 63 = some (.invokevirtual 357, 3) := by decide +kernel
theorem c276_66 : mc_cd 276 66 = some (.istore_n 2, 1) := by decide +kernel
theorem c276_67 : mc_cd 276 67 = some (.iconst 0, 1) := by decide +kernel
theorem c276_68 : mc_cd 276 68 = some (.istore_n 3, 1) := by decide +kernel
theorem c276_69 : mc_cd 276 69 = some (.iload_n 3, 1) := by decide +kernel
theorem c276_70 : mc_cd 276 70 = some (.iconst 4, 1) := by decide +kernel
theorem c276_71 : mc_cd 276 71 = some (.if_icmp .ge 30, 3) := by decide +kernel
theorem c276_74 : mc_cd 276 74 = some (.aload_n 0, 1) := by decide +kernel
theorem c276_75 : mc_cd 276 75 = some (.iload_n 2, 1) := by decide +kernel
theorem c276_76 : mc_cd 276 76 = some (.iload_n 3, 1) := by decide +kernel
theorem c276_77 : mc_cd 276 77 = some (.invokevirtual 481, 3) := by decide +kernel
theorem c276_80 : mc_cd 276 80 = some (.istore 4, 2) := by decide +kernel
theorem c276_82 : mc_cd 276 82 = some (.iload 4, 2) := by decide +kernel
theorem c276_84 : mc_cd 276 84 = some (.iconst (-1), 1) := by decide +kernel
theorem c276_85 : mc_cd 276 85 = some (.if_icmp .eq 10, 3) := by decide +kernel
theorem c276_88 : mc_cd 276 88 = some (.aload_n 0, 1) := by decide +kernel
theorem c276_89 : mc_cd 276 89 = some (.iload 4, 2) := by decide +kernel
theorem c276_91 : mc_cd 276 91 = some (.invokevirtual 58, 3) := by decide +kernel
theorem c276_94 : mc_cd 276 94 = some (.ireturn, 1) := by decide +kernel
theorem c276_95 : mc_cd 276 95 = some (.iinc 3 1, 3) := by decide +kernel
theorem c276_98 : mc_cd 276 98 = some (.goto (-29), 3) := by decide +kernel
theorem c276_101 : mc_cd 276 101 = some (.aload_n 0, 1) := by decide +kernel
theorem c276_102 : mc_cd 276 102 = some (.bipush (-2), 2) := by decide +kernel
theorem c276_104 : mc_cd 276 104 = some (.invokevirtual 58, 3) := by decide +kernel
theorem c276_107 : mc_cd 276 107 = some (.ireturn, 1) := by decide +kernel
abbrev q_276 (r0 : Nat) (T : wq_T) (H : wq_H) : Option Value → wq_T → wq_H → Prop := fun r T' H' => T = T' ∧ WT T H' ∧ wfr [(42, 0), (42, 1), (42, 2), (42, 28), (42, 29), (51, 999), (52, 999)] T H H' ∧ ∃ z : Int, some (vI z) = r ∧ ((-2147483648) ≤ z ∧ z ≤ 2147483647) ∧ (wKI H' r0 = 1)
set_option maxHeartbeats 4000000 in
theorem s_276 {kt : Nat → Option mc_E} {T : wq_T} {H : wq_H} {r0 : Nat} (hW : WT T H) (g0 : T.2.2.2 r0 = some 42) (p0 : wKI H r0 = 1) : wpc kt 8 276 [.ref r0] T H (q_276 r0 T H) := by
  refine wp_enter e276 (Nat.le_of_ble_eq_true rfl) rfl ?_
  have f0 : wfr [(42, 0), (42, 1), (42, 2), (42, 28), (42, 29), (51, 999), (52, 999)] T H H := wfr.rf
  show wp _ _ 276 0 [(0, .ref r0)] [] _ H _
  refine wp_of e276 c276_0 (rw_aload_n (pc' := 1) (v := .ref r0) rfl rfl rfl ?_)
  refine wp_of e276 c276_1 (rw_iconst (pc' := 2) rfl ?_)
  refine wp_of e276 c276_2 (xp_I (pc' := 5) lf_9_48 hW g0 sh_42 (by decide) (by decide) ty_42_0 rfl rfl (by omega) (by omega) ⟨by omega, by omega⟩ rfl (fun H209765 e209766 w209767 => ?_))
  have f209768 := f0.put' e209766 g0 rfl
  have k209769 : H209765 r0 0 = 0 := wq_u_s e209766
  refine wp_of e276 c276_5 (rw_aload_n (pc' := 6) (v := .ref r0) rfl rfl rfl ?_)
  refine wp_of e276 c276_6 (rw_aload_n (pc' := 7) (v := .ref r0) rfl rfl rfl ?_)
  refine wp_of e276 c276_7 (xg_O (pc' := 10) lf_9_337 w209767 g0 sh_42 (by decide) (by decide) ty_42_3 rfl rfl (fun q209771 => ?_) (fun r209770 q209771 g209772 => ?_))
  · refine wp_of e276 c276_10 (rw_ifnull_n (p1 := 17) (p2 := 13) (by decide) rfl ?_)
    refine wp_of e276 c276_17 (rw_iconst (pc' := 18) rfl ?_)
    have k209773 : wKI H209765 r0 = wKI H r0 := (wKI_fr hW g0 ((wfr.rf (l := [(42, 0)])).put' e209766 g0 rfl) rfl)
    refine wp_of e276 c276_18 (xc_V (pc' := 21) (r := r0) (as := [vI 0]) (st := []) (lm_9_433) rfl rfl (Nat.le_of_ble_eq_true rfl) w209767 g0 sh_42 (by decide) rfl (by decide) (s_241 w209767 g0 ⟨by omega, by omega⟩ (by omega) (by omega)) (fun R209774 T209775 H209776 p209777 => ?_))
    obtain ⟨e209778, w209780, f209781, z209786, e209779, b209787, p209782, p209783, p209784, p209785⟩ := p209777
    subst e209778
    subst e209779
    have f209788 := f209768.tr f209781 rfl
    show wp _ _ 276 21 [(0, .ref r0)] [vI z209786] _ H209776 _
    refine wp_of e276 c276_21 (rw_istore_n (pc' := 22) (z := z209786) (L' := [(1, vI z209786), (0, .ref r0)]) rfl rfl rfl ?_)
    refine wp_of e276 c276_22 (rw_iload_n (pc' := 23) (z := z209786) rfl rfl ?_)
    refine wp_of e276 c276_23 (rw_if_ne (p1 := 39) (p2 := 26) (by decide) rfl ⟨by omega, by omega⟩ (fun c209789 => ?_) (fun c209789 => ?_))
    · refine wp_of e276 c276_39 (rw_iload_n (pc' := 40) (z := z209786) rfl rfl ?_)
      refine wp_of e276 c276_40 (rw_if_ne (p1 := 52) (p2 := 43) (by decide) rfl ⟨by omega, by omega⟩ (fun c209790 => ?_) (fun c209790 => ?_))
      · refine wp_of e276 c276_52 (rw_iload_n (pc' := 53) (z := z209786) rfl rfl ?_)
        refine wp_of e276 c276_53 (rw_if_le (p1 := 62) (p2 := 56) (by decide) rfl ⟨by omega, by omega⟩ (fun c209791 => ?_) (fun c209791 => ?_))
        · exfalso
          omega
        · refine wp_of e276 c276_56 (rw_aload_n (pc' := 57) (v := .ref r0) rfl rfl rfl ?_)
          refine wp_of e276 c276_57 (rw_iload_n (pc' := 58) (z := z209786) rfl rfl ?_)
          refine wp_of e276 c276_58 (xc_V (pc' := 61) (r := r0) (as := [vI z209786]) (st := []) (lm_9_54) rfl rfl (Nat.le_of_ble_eq_true rfl) w209780 g0 sh_42 (by decide) rfl (by decide) (s_170 w209780 g0 ⟨by omega, by omega⟩) (fun R209792 T209793 H209794 p209795 => ?_))
          obtain ⟨e209796, w209798, f209799, z209800, e209797, b209801⟩ := p209795
          subst e209796
          subst e209797
          have f209802 := f209788.tr f209799 rfl
          show wp _ _ 276 61 [(1, vI z209786), (0, .ref r0)] [vI z209800] _ H209794 _
          have k209803 : wKI H209794 r0 = wKI H209776 r0 := (wKI_fr w209780 g0 f209799 rfl)
          exact wp_ireturn e276 c276_61 rfl ⟨rfl, w209798, f209802, z209800, rfl, ⟨by omega, by omega⟩, by omega⟩
      · exfalso
        omega
    · exfalso
      omega
  · refine wp_of e276 c276_10 (rw_ifnull_r (p1 := 17) (p2 := 13) (by decide) rfl ?_)
    refine wp_of e276 c276_13 (rw_iconst (pc' := 14) rfl ?_)
    refine wp_of e276 c276_14 (rw_goto (p1 := 18) (by decide) ?_)
    have k209804 : wKI H209765 r0 = wKI H r0 := (wKI_fr hW g0 ((wfr.rf (l := [(42, 0)])).put' e209766 g0 rfl) rfl)
    refine wp_of e276 c276_18 (xc_V (pc' := 21) (r := r0) (as := [vI 1]) (st := []) (lm_9_433) rfl rfl (Nat.le_of_ble_eq_true rfl) w209767 g0 sh_42 (by decide) rfl (by decide) (s_241 w209767 g0 ⟨by omega, by omega⟩ (by omega) (by omega)) (fun R209805 T209806 H209807 p209808 => ?_))
    obtain ⟨e209809, w209811, f209812, z209817, e209810, b209818, p209813, p209814, p209815, p209816⟩ := p209808
    subst e209809
    subst e209810
    have f209819 := f209768.tr f209812 rfl
    show wp _ _ 276 21 [(0, .ref r0)] [vI z209817] _ H209807 _
    refine wp_of e276 c276_21 (rw_istore_n (pc' := 22) (z := z209817) (L' := [(1, vI z209817), (0, .ref r0)]) rfl rfl rfl ?_)
    refine wp_of e276 c276_22 (rw_iload_n (pc' := 23) (z := z209817) rfl rfl ?_)
    refine wp_of e276 c276_23 (rw_if_ne (p1 := 39) (p2 := 26) (by decide) rfl ⟨by omega, by omega⟩ (fun c209820 => ?_) (fun c209820 => ?_))
    · refine wp_of e276 c276_39 (rw_iload_n (pc' := 40) (z := z209817) rfl rfl ?_)
      refine wp_of e276 c276_40 (rw_if_ne (p1 := 52) (p2 := 43) (by decide) rfl ⟨by omega, by omega⟩ (fun c209821 => ?_) (fun c209821 => ?_))
      · refine wp_of e276 c276_52 (rw_iload_n (pc' := 53) (z := z209817) rfl rfl ?_)
        refine wp_of e276 c276_53 (rw_if_le (p1 := 62) (p2 := 56) (by decide) rfl ⟨by omega, by omega⟩ (fun c209822 => ?_) (fun c209822 => ?_))
        · exfalso
          omega
        · refine wp_of e276 c276_56 (rw_aload_n (pc' := 57) (v := .ref r0) rfl rfl rfl ?_)
          refine wp_of e276 c276_57 (rw_iload_n (pc' := 58) (z := z209817) rfl rfl ?_)
          refine wp_of e276 c276_58 (xc_V (pc' := 61) (r := r0) (as := [vI z209817]) (st := []) (lm_9_54) rfl rfl (Nat.le_of_ble_eq_true rfl) w209811 g0 sh_42 (by decide) rfl (by decide) (s_170 w209811 g0 ⟨by omega, by omega⟩) (fun R209823 T209824 H209825 p209826 => ?_))
          obtain ⟨e209827, w209829, f209830, z209831, e209828, b209832⟩ := p209826
          subst e209827
          subst e209828
          have f209833 := f209819.tr f209830 rfl
          show wp _ _ 276 61 [(1, vI z209817), (0, .ref r0)] [vI z209831] _ H209825 _
          have k209834 : wKI H209825 r0 = wKI H209807 r0 := (wKI_fr w209811 g0 f209830 rfl)
          exact wp_ireturn e276 c276_61 rfl ⟨rfl, w209829, f209833, z209831, rfl, ⟨by omega, by omega⟩, by omega⟩
      · exfalso
        omega
    · refine wp_of e276 c276_26 (rw_aload_n (pc' := 27) (v := .ref r0) rfl rfl rfl ?_)
      have k209835 : H209807 r0 3 = H209765 r0 3 := (f209812 r0 3 _ g0 rfl)
      have q209836 : H209807 r0 3 = (r209770 : Int) := k209835.trans q209771
      refine wp_of e276 c276_27 (xc_V (pc' := 30) (r := r0) (as := []) (st := []) (lm_9_376) rfl rfl (Nat.le_of_ble_eq_true rfl) w209811 g0 sh_42 (by decide) rfl (by decide) (s_220 w209811 g0 q209836 g209772) (fun R209837 T209838 H209839 p209840 => ?_))
      obtain ⟨e209841, e209843, z209845, e209842, b209846, p209844⟩ := p209840
      subst e209841
      subst e209842
      subst e209843
      show wp _ _ 276 30 [(1, vI z209817), (0, .ref r0)] [vL z209845] _ H209807 _
      refine wp_of e276 c276_30 (rw_ldc2 (pc' := 33) (z := 5000) rfl rfl rfl ?_)
      refine wp_of e276 c276_33 (rw_lcmp (pc' := 34) rfl ⟨by omega, by omega⟩ ⟨by omega, by omega⟩ ?_)
      have b209847 := wq_cmp_b z209845 5000
      refine wp_of e276 c276_34 (rw_if_le (p1 := 39) (p2 := 37) (by decide) rfl ⟨by omega, by omega⟩ (fun c209848 => ?_) (fun c209848 => ?_))
      · refine wp_of e276 c276_39 (rw_iload_n (pc' := 40) (z := z209817) rfl rfl ?_)
        refine wp_of e276 c276_40 (rw_if_ne (p1 := 52) (p2 := 43) (by decide) rfl ⟨by omega, by omega⟩ (fun c209849 => ?_) (fun c209849 => ?_))
        · exfalso
          omega
        · refine wp_of e276 c276_43 (rw_aload_n (pc' := 44) (v := .ref r0) rfl rfl rfl ?_)
          refine wp_of e276 c276_44 (xg_I (pc' := 47) lf_9_422 w209811 g0 sh_42 (by decide) (by decide) ty_42_29 rfl rfl (fun b209850 b209851 => ?_))
          refine wp_of e276 c276_47 (rw_if_le (p1 := 52) (p2 := 50) (by decide) rfl ⟨by omega, by omega⟩ (fun c209852 => ?_) (fun c209852 => ?_))
          · refine wp_of e276 c276_52 (rw_iload_n (pc' := 53) (z := z209817) rfl rfl ?_)
            refine wp_of e276 c276_53 (rw_if_le (p1 := 62) (p2 := 56) (by decide) rfl ⟨by omega, by omega⟩ (fun c209853 => ?_) (fun c209853 => ?_))
            · refine wp_of e276 c276_62 (rw_aload_n (pc' := 63) (v := .ref r0) rfl rfl rfl ?_)
              refine wp_of e276 c276_63 (xc_V (pc' := 66) (r := r0) (as := []) (st := []) (lm_9_357) rfl rfl (Nat.le_of_ble_eq_true rfl) w209811 g0 sh_42 (by decide) rfl (by decide) (s_207 w209811 g0) (fun R209854 T209855 H209856 p209857 => ?_))
              obtain ⟨e209858, e209860, z209861, e209859, b209862⟩ := p209857
              subst e209858
              subst e209859
              subst e209860
              show wp _ _ 276 66 [(1, vI z209817), (0, .ref r0)] [vI z209861] _ H209807 _
              refine wp_of e276 c276_66 (rw_istore_n (pc' := 67) (z := z209861) (L' := [(2, vI z209861), (1, vI z209817), (0, .ref r0)]) rfl rfl rfl ?_)
              refine wp_of e276 c276_67 (rw_iconst (pc' := 68) rfl ?_)
              refine wp_of e276 c276_68 (rw_istore_n (pc' := 69) (z := 0) (L' := [(3, vI 0), (2, vI z209861), (1, vI z209817), (0, .ref r0)]) rfl rfl rfl ?_)
              have lp209943 : ∀ (n209944 : Nat) (v209946 : Int) (H209947 : wq_H), WT T H209947 → wfr [(51, 999)] T H209807 H209947 → (0 ≤ v209946 ∧ v209946 ≤ 4) → (4 - v209946).toNat = n209944 → wp kt 7 276 69 [(3, vI v209946), (2, vI z209861), (0, .ref r0)] [] T H209947 (q_276 r0 T H) := by
                intro n209944
                induction n209944 using Nat.strongRecOn with
                | _ n209944 ih209945 =>
                  intro v209946 H209947 w209948 f209949 b209950 m209951
                  have f209952 := f209819.tr f209949 rfl
                  refine wp_of e276 c276_69 (rw_iload_n (pc' := 70) (z := v209946) rfl rfl ?_)
                  refine wp_of e276 c276_70 (rw_iconst (pc' := 71) rfl ?_)
                  refine wp_of e276 c276_71 (rw_icmp_ge (p1 := 101) (p2 := 74) (by decide) rfl ⟨by omega, by omega⟩ ⟨by omega, by omega⟩ (fun c209953 => ?_) (fun c209953 => ?_))
                  · refine wp_of e276 c276_101 (rw_aload_n (pc' := 102) (v := .ref r0) rfl rfl rfl ?_)
                    refine wp_of e276 c276_102 (rw_bipush (pc' := 104) (z := -2) rfl (by decide) ?_)
                    refine wp_of e276 c276_104 (xc_V (pc' := 107) (r := r0) (as := [vI (-2)]) (st := []) (lm_9_58) rfl rfl (Nat.le_of_ble_eq_true rfl) w209948 g0 sh_42 (by decide) rfl (by decide) (s_209 w209948 g0 ⟨by omega, by omega⟩) (fun R209954 T209955 H209956 p209957 => ?_))
                    obtain ⟨e209958, w209960, f209961, z209962, e209959, b209963⟩ := p209957
                    subst e209958
                    subst e209959
                    have f209964 := f209952.tr f209961 rfl
                    show wp _ _ 276 107 [(3, vI v209946), (2, vI z209861), (0, .ref r0)] [vI z209962] _ H209956 _
                    have k209965 : wKI H209956 r0 = wKI H209807 r0 := ((wKI_fr w209948 g0 f209961 rfl).trans (wKI_fr w209811 g0 f209949 rfl))
                    exact wp_ireturn e276 c276_107 rfl ⟨rfl, w209960, f209964, z209962, rfl, ⟨by omega, by omega⟩, by omega⟩
                  · refine wp_of e276 c276_74 (rw_aload_n (pc' := 75) (v := .ref r0) rfl rfl rfl ?_)
                    refine wp_of e276 c276_75 (rw_iload_n (pc' := 76) (z := z209861) rfl rfl ?_)
                    refine wp_of e276 c276_76 (rw_iload_n (pc' := 77) (z := v209946) rfl rfl ?_)
                    have k209966 : wLM H209947 r0 = wLM H209807 r0 := (wLM_fr w209811 g0 f209949 rfl)
                    have k209967 : H209947 r0 3 = H209807 r0 3 := (f209949 r0 3 _ g0 rfl)
                    have q209968 : H209947 r0 3 = (r209770 : Int) := k209967.trans q209836
                    refine wp_of e276 c276_77 (xc_V (pc' := 80) (r := r0) (as := [vI z209861, vI v209946]) (st := []) (lm_9_481) rfl rfl (Nat.le_of_ble_eq_true rfl) w209948 g0 sh_42 (by decide) rfl (by decide) (s_277 w209948 g0 ⟨by omega, by omega⟩ ⟨by omega, by omega⟩ q209968 g209772 (by omega)) (fun R209969 T209970 H209971 p209972 => ?_))
                    obtain ⟨e209973, w209975, f209976, z209977, e209974, b209978⟩ := p209972
                    subst e209973
                    subst e209974
                    have f209979 := f209952.tr f209976 rfl
                    have f209980 := f209949.tr f209976 rfl
                    show wp _ _ 276 80 [(3, vI v209946), (2, vI z209861), (0, .ref r0)] [vI z209977] _ H209971 _
                    refine wp_of e276 c276_80 (rw_istore (pc' := 82) (z := z209977) (L' := [(4, vI z209977), (3, vI v209946), (2, vI z209861), (0, .ref r0)]) rfl rfl rfl ?_)
                    refine wp_of e276 c276_82 (rw_iload (pc' := 84) (z := z209977) rfl rfl ?_)
                    refine wp_of e276 c276_84 (rw_iconst (pc' := 85) rfl ?_)
                    refine wp_of e276 c276_85 (rw_icmp_eq (p1 := 95) (p2 := 88) (by decide) rfl ⟨by omega, by omega⟩ ⟨by omega, by omega⟩ (fun c209981 => ?_) (fun c209981 => ?_))
                    · refine wp_of e276 c276_95 (rw_iinc (pc' := 98) (z := v209946) (L' := [(3, vI (v209946 + 1)), (4, vI z209977), (2, vI z209861), (0, .ref r0)]) rfl rfl rfl rfl ?_)
                      refine wp_of e276 c276_98 (rw_goto (p1 := 69) (by decide) ?_)
                      exact wp_lc (ks := [3, 4, 2, 0]) (wl_c rfl (wl_c rfl (wl_c rfl wl_n))) rfl (by decide) (ih209945 _ (by omega) (v209946 + 1) H209971 w209975 f209980 ⟨by omega, by omega⟩ rfl)
                    · refine wp_of e276 c276_88 (rw_aload_n (pc' := 89) (v := .ref r0) rfl rfl rfl ?_)
                      refine wp_of e276 c276_89 (rw_iload (pc' := 91) (z := z209977) rfl rfl ?_)
                      refine wp_of e276 c276_91 (xc_V (pc' := 94) (r := r0) (as := [vI z209977]) (st := []) (lm_9_58) rfl rfl (Nat.le_of_ble_eq_true rfl) w209975 g0 sh_42 (by decide) rfl (by decide) (s_209 w209975 g0 ⟨by omega, by omega⟩) (fun R209982 T209983 H209984 p209985 => ?_))
                      obtain ⟨e209986, w209988, f209989, z209990, e209987, b209991⟩ := p209985
                      subst e209986
                      subst e209987
                      have f209992 := f209979.tr f209989 rfl
                      show wp _ _ 276 94 [(4, vI z209977), (3, vI v209946), (2, vI z209861), (0, .ref r0)] [vI z209990] _ H209984 _
                      have k209993 : wKI H209984 r0 = wKI H209807 r0 := ((wKI_fr w209975 g0 f209989 rfl).trans ((wKI_fr w209948 g0 f209976 rfl).trans (wKI_fr w209811 g0 f209949 rfl)))
                      exact wp_ireturn e276 c276_94 rfl ⟨rfl, w209988, f209992, z209990, rfl, ⟨by omega, by omega⟩, by omega⟩
              exact wp_lc (ks := [3, 2, 1, 0]) (wl_c rfl (wl_c rfl (wl_c rfl wl_n))) rfl (by decide) (lp209943 _ 0 H209807 w209811 wfr.rf ⟨by omega, by omega⟩ rfl)
            · exfalso
              omega
          · refine wp_of e276 c276_50 (rw_iconst (pc' := 51) rfl ?_)
            refine wp_of e276 c276_51 (rw_istore_n (pc' := 52) (z := 5) (L' := [(1, vI 5), (0, .ref r0)]) rfl rfl rfl ?_)
            refine wp_of e276 c276_52 (rw_iload_n (pc' := 53) (z := 5) rfl rfl ?_)
            refine wp_of e276 c276_53 (rw_if_le (p1 := 62) (p2 := 56) (by decide) rfl ⟨by omega, by omega⟩ (fun c209994 => ?_) (fun c209994 => ?_))
            · exfalso
              omega
            · refine wp_of e276 c276_56 (rw_aload_n (pc' := 57) (v := .ref r0) rfl rfl rfl ?_)
              refine wp_of e276 c276_57 (rw_iload_n (pc' := 58) (z := 5) rfl rfl ?_)
              refine wp_of e276 c276_58 (xc_V (pc' := 61) (r := r0) (as := [vI 5]) (st := []) (lm_9_54) rfl rfl (Nat.le_of_ble_eq_true rfl) w209811 g0 sh_42 (by decide) rfl (by decide) (s_170 w209811 g0 ⟨by omega, by omega⟩) (fun R209995 T209996 H209997 p209998 => ?_))
              obtain ⟨e209999, w210001, f210002, z210003, e210000, b210004⟩ := p209998
              subst e209999
              subst e210000
              have f210005 := f209819.tr f210002 rfl
              show wp _ _ 276 61 [(1, vI 5), (0, .ref r0)] [vI z210003] _ H209997 _
              have k210006 : wKI H209997 r0 = wKI H209807 r0 := (wKI_fr w209811 g0 f210002 rfl)
              exact wp_ireturn e276 c276_61 rfl ⟨rfl, w210001, f210005, z210003, rfl, ⟨by omega, by omega⟩, by omega⟩
      · refine wp_of e276 c276_37 (rw_iconst (pc' := 38) rfl ?_)
        refine wp_of e276 c276_38 (rw_istore_n (pc' := 39) (z := 3) (L' := [(1, vI 3), (0, .ref r0)]) rfl rfl rfl ?_)
        refine wp_of e276 c276_39 (rw_iload_n (pc' := 40) (z := 3) rfl rfl ?_)
        refine wp_of e276 c276_40 (rw_if_ne (p1 := 52) (p2 := 43) (by decide) rfl ⟨by omega, by omega⟩ (fun c210007 => ?_) (fun c210007 => ?_))
        · refine wp_of e276 c276_52 (rw_iload_n (pc' := 53) (z := 3) rfl rfl ?_)
          refine wp_of e276 c276_53 (rw_if_le (p1 := 62) (p2 := 56) (by decide) rfl ⟨by omega, by omega⟩ (fun c210008 => ?_) (fun c210008 => ?_))
          · exfalso
            omega
          · refine wp_of e276 c276_56 (rw_aload_n (pc' := 57) (v := .ref r0) rfl rfl rfl ?_)
            refine wp_of e276 c276_57 (rw_iload_n (pc' := 58) (z := 3) rfl rfl ?_)
            refine wp_of e276 c276_58 (xc_V (pc' := 61) (r := r0) (as := [vI 3]) (st := []) (lm_9_54) rfl rfl (Nat.le_of_ble_eq_true rfl) w209811 g0 sh_42 (by decide) rfl (by decide) (s_170 w209811 g0 ⟨by omega, by omega⟩) (fun R210009 T210010 H210011 p210012 => ?_))
            obtain ⟨e210013, w210015, f210016, z210017, e210014, b210018⟩ := p210012
            subst e210013
            subst e210014
            have f210019 := f209819.tr f210016 rfl
            show wp _ _ 276 61 [(1, vI 3), (0, .ref r0)] [vI z210017] _ H210011 _
            have k210020 : wKI H210011 r0 = wKI H209807 r0 := (wKI_fr w209811 g0 f210016 rfl)
            exact wp_ireturn e276 c276_61 rfl ⟨rfl, w210015, f210019, z210017, rfl, ⟨by omega, by omega⟩, by omega⟩
        · exfalso
          omega
/-! StrikeAwakeModel.isStruck(I)Z -/
theorem e280 : wq_en 280 = some (9, 2, false, some FieldType.boolean) := rfl
theorem c280_0 : mc_cd 280 0 = some (.aload_n 0, 1) := by decide +kernel
theorem c280_1 : mc_cd 280 1 = some (.iload_n 1, 1) := by decide +kernel
theorem c280_2 : mc_cd 280 2 = some (.invokevirtual 373, 3) := by decide +kernel
theorem c280_5 : mc_cd 280 5 = some (.ifCond .eq 16, 3) := by decide +kernel
theorem c280_8 : mc_cd 280 8 = some (.aload_n 0, 1) := by decide +kernel
theorem c280_9 : mc_cd 280 9 = some (.getfield 17, 3) := by decide +kernel
theorem c280_12 : mc_cd 280 12 = some (.iload_n 1, 1) := by decide +kernel
theorem c280_13 : mc_cd 280 13 = some (.iaload, 1) := by decide +kernel
theorem c280_14 : mc_cd 280 14 = some (.ifCond .le 7, 3) := by decide +kernel
theorem c280_17 : mc_cd 280 17 = some (.iconst 1, 1) := by decide +kernel
theorem c280_18 : mc_cd 280 18 = some (.goto 4, 3) := by decide +kernel
theorem c280_21 : mc_cd 280 21 = some (.iconst 0, 1) := by decide +kernel
theorem c280_22 : mc_cd 280 22 = some (.ireturn, 1) := by decide +kernel
abbrev q_280 (r0 : Nat) (a1 : Int) (T : wq_T) (H : wq_H) : Option Value → wq_T → wq_H → Prop := fun r T' H' => T = T' ∧ H = H' ∧ ∃ z : Int, some (vI z) = r ∧ (0 ≤ z ∧ z ≤ 1) ∧ (z = 0 ∨ (H r0 3 ≠ -1 ∧ 0 ≤ a1 ∧ a1 ≤ 23))
set_option maxHeartbeats 4000000 in
theorem s_280 {kt : Nat → Option mc_E} {T : wq_T} {H : wq_H} {r0 : Nat} {a1 : Int} (hW : WT T H) (g0 : T.2.2.2 r0 = some 42) (i1 : (-2147483648) ≤ a1 ∧ a1 ≤ 2147483647) : wpc kt 2 280 [.ref r0, vI a1] T H (q_280 r0 a1 T H) := by
  refine wp_enter e280 (Nat.le_of_ble_eq_true rfl) rfl ?_
  show wp _ _ 280 0 [(0, .ref r0), (1, vI a1)] [] _ H _
  refine wp_of e280 c280_0 (rw_aload_n (pc' := 1) (v := .ref r0) rfl rfl rfl ?_)
  refine wp_of e280 c280_1 (rw_iload_n (pc' := 2) (z := a1) rfl rfl ?_)
  refine wp_of e280 c280_2 (xc_V (pc' := 5) (r := r0) (as := [vI a1]) (st := []) (lm_9_373) rfl rfl (Nat.le_of_ble_eq_true rfl) hW g0 sh_42 (by decide) rfl (by decide) (s_218 hW g0 ⟨by omega, by omega⟩) (fun R210038 T210039 H210040 p210041 => ?_))
  obtain ⟨e210042, e210044, z210046, e210043, b210047, p210045⟩ := p210041
  subst e210042
  subst e210043
  subst e210044
  show wp _ _ 280 5 [(0, .ref r0), (1, vI a1)] [vI z210046] _ H _
  refine wp_of e280 c280_5 (rw_if_eq (p1 := 21) (p2 := 8) (by decide) rfl ⟨by omega, by omega⟩ (fun c210048 => ?_) (fun c210048 => ?_))
  · refine wp_of e280 c280_21 (rw_iconst (pc' := 22) rfl ?_)
    exact wp_zreturn e280 c280_22 rfl (by omega) ⟨rfl, rfl, 0, rfl, ⟨by omega, by omega⟩, by omega⟩
  · refine wp_of e280 c280_8 (rw_aload_n (pc' := 9) (v := .ref r0) rfl rfl rfl ?_)
    refine wp_of e280 c280_9 (xg_R (pc' := 12) lf_9_17 hW g0 sh_42 (by decide) (by decide) ty_42_20 rfl rfl (fun r210049 q210050 g210051 => ?_))
    refine wp_of e280 c280_12 (rw_iload_n (pc' := 13) (z := a1) rfl rfl ?_)
    refine wp_of e280 c280_13 (xa_I (so := 0) (pc' := 14) hW g210051 sh_44 (by decide) (ty_44 _) (by omega) (by omega) rfl (fun b210052 b210053 => ?_))
    refine wp_of e280 c280_14 (rw_if_le (p1 := 21) (p2 := 17) (by decide) rfl ⟨by omega, by omega⟩ (fun c210054 => ?_) (fun c210054 => ?_))
    · refine wp_of e280 c280_21 (rw_iconst (pc' := 22) rfl ?_)
      exact wp_zreturn e280 c280_22 rfl (by omega) ⟨rfl, rfl, 0, rfl, ⟨by omega, by omega⟩, by omega⟩
    · refine wp_of e280 c280_17 (rw_iconst (pc' := 18) rfl ?_)
      refine wp_of e280 c280_18 (rw_goto (p1 := 22) (by decide) ?_)
      exact wp_zreturn e280 c280_22 rfl (by omega) ⟨rfl, rfl, 1, rfl, ⟨by omega, by omega⟩, by omega⟩
/-! StrikeAwakeModel.lost(I)I -/
theorem e281 : wq_en 281 = some (9, 2, false, some FieldType.int) := rfl
theorem c281_0 : mc_cd 281 0 = some (.aload_n 0, 1) := by decide +kernel
theorem c281_1 : mc_cd 281 1 = some (.iload_n 1, 1) := by decide +kernel
theorem c281_2 : mc_cd 281 2 = some (.invokevirtual 54, 3) := by decide +kernel
theorem c281_5 : mc_cd 281 5 = some (.pop, 1) := by decide +kernel
theorem c281_6 : mc_cd 281 6 = some (.sipush (-1000), 3) := by decide +kernel
theorem c281_9 : mc_cd 281 9 = some (.ireturn, 1) := by decide +kernel
abbrev q_281 (r0 : Nat) (a1 : Int) (T : wq_T) (H : wq_H) : Option Value → wq_T → wq_H → Prop := fun r T' H' => T = T' ∧ WT T H' ∧ wfr [(42, 1), (42, 2)] T H H' ∧ ∃ z : Int, some (vI z) = r ∧ ((-2147483648) ≤ z ∧ z ≤ 2147483647)
set_option maxHeartbeats 4000000 in
theorem s_281 {kt : Nat → Option mc_E} {T : wq_T} {H : wq_H} {r0 : Nat} {a1 : Int} (hW : WT T H) (g0 : T.2.2.2 r0 = some 42) (i1 : (-2147483648) ≤ a1 ∧ a1 ≤ 2147483647) : wpc kt 2 281 [.ref r0, vI a1] T H (q_281 r0 a1 T H) := by
  refine wp_enter e281 (Nat.le_of_ble_eq_true rfl) rfl ?_
  have f0 : wfr [(42, 1), (42, 2)] T H H := wfr.rf
  show wp _ _ 281 0 [(0, .ref r0), (1, vI a1)] [] _ H _
  refine wp_of e281 c281_0 (rw_aload_n (pc' := 1) (v := .ref r0) rfl rfl rfl ?_)
  refine wp_of e281 c281_1 (rw_iload_n (pc' := 2) (z := a1) rfl rfl ?_)
  refine wp_of e281 c281_2 (xc_V (pc' := 5) (r := r0) (as := [vI a1]) (st := []) (lm_9_54) rfl rfl (Nat.le_of_ble_eq_true rfl) hW g0 sh_42 (by decide) rfl (by decide) (s_170 hW g0 ⟨by omega, by omega⟩) (fun R210066 T210067 H210068 p210069 => ?_))
  obtain ⟨e210070, w210072, f210073, z210074, e210071, b210075⟩ := p210069
  subst e210070
  subst e210071
  have f210076 := f0.tr f210073 rfl
  show wp _ _ 281 5 [(0, .ref r0), (1, vI a1)] [vI z210074] _ H210068 _
  refine wp_of e281 c281_5 (rw_pop (pc' := 6) rfl rfl ?_)
  refine wp_of e281 c281_6 (rw_sipush (pc' := 9) (z := -1000) rfl (by decide) ?_)
  exact wp_ireturn e281 c281_9 rfl ⟨rfl, w210072, f210076, -1000, rfl, ⟨by omega, by omega⟩⟩
