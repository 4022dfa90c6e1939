/-! methods (own work, written by wip/gen2/sx.py) -/
/-! StrikeAwake.putOnTape(I)V -/
theorem e10 : wq_en 10 = some (0, 3, false, none) := rfl
theorem c10_0 : mc_cd 10 0 = some (.bipush 24, 2) := by decide +kernel
theorem c10_2 : mc_cd 10 2 = some (.istore_n 2, 1) := by decide +kernel
theorem c10_3 : mc_cd 10 3 = some (.iload_n 2, 1) := by decide +kernel
theorem c10_4 : mc_cd 10 4 = some (.ifCond .lt 42, 3) := by decide +kernel
theorem c10_7 : mc_cd 10 7 = some (.aload_n 0, 1) := by decide +kernel
theorem c10_8 : mc_cd 10 8 = some (.getfield 62, 3) := by decide +kernel
theorem c10_11 : mc_cd 10 11 = some (.sipush 900, 3) := by decide +kernel
theorem c10_14 : mc_cd 10 14 = some (.if_icmp .ge 32, 3) := by decide +kernel
theorem c10_17 : mc_cd 10 17 = some (.aload_n 0, 1) := by decide +kernel
theorem c10_18 : mc_cd 10 18 = some (.getfield 9, 3) := by decide +kernel
theorem c10_21 : mc_cd 10 21 = some (.aload_n 0, 1) := by decide +kernel
theorem c10_22 : mc_cd 10 22 = some (.getfield 62, 3) := by decide +kernel
theorem c10_25 : mc_cd 10 25 = some (.iload_n 1, 1) := by decide +kernel
theorem c10_26 : mc_cd 10 26 = some (.iload_n 2, 1) := by decide +kernel
theorem c10_27 : mc_cd 10 27 = some (.ishr, 1) := by decide +kernel
theorem c10_28 : mc_cd 10 28 = some (.i2b, 1) := by decide +kernel
theorem c10_29 : mc_cd 10 29 = some (.bastore, 1) := by decide +kernel
theorem c10_30 : mc_cd 10 30 = some (.aload_n 0, 1) := by decide +kernel
theorem c10_31 : mc_cd 10 31 = some (.dup, 1) := by decide +kernel
theorem c10_32 : mc_cd 10 32 = some (.getfield 62, 3) := by decide +kernel
theorem c10_35 : mc_cd 10 35 = some (.iconst 1, 1) := by decide +kernel
theorem c10_36 : mc_cd 10 36 = some (.iadd, 1) := by decide +kernel
theorem c10_37 : mc_cd 10 37 = some (.putfield 62, 3) := by decide +kernel
theorem c10_40 : mc_cd 10 40 = some (.iinc 2 (-8), 3) := by decide +kernel
theorem c10_43 : mc_cd 10 43 = some (.goto (-40), 3) := by decide +kernel
theorem c10_46 : mc_cd 10 46 = some (.return_, 1) := by decide +kernel
abbrev q_10 (r0 : Nat) (a1 : Int) (T : wq_T) (H : wq_H) : Option Value → wq_T → wq_H → Prop := fun r T' H' => T = T' ∧ WT T H' ∧ wfr [(1, 9), (2, 999)] T H H' ∧ none = r
set_option maxHeartbeats 4000000 in
theorem s_10 {kt : Nat → Option mc_E} {T : wq_T} {H : wq_H} {r0 : Nat} {a1 : Int} (hW : WT T H) (g0 : T.2.2.2 r0 = some 1) (i1 : (-2147483648) ≤ a1 ∧ a1 ≤ 2147483647) : wpc kt 1 10 [.ref r0, vI a1] T H (q_10 r0 a1 T H) := by
  refine wp_enter e10 (by decide) rfl ?_
  have f0 : wfr [(1, 9), (2, 999)] T H H := wfr.rf
  show wp _ _ 10 0 [(0, .ref r0), (1, vI a1)] [] _ H _
  refine wp_of e10 c10_0 (rw_bipush (pc' := 2) (z := 24) rfl (by decide) ?_)
  refine wp_of e10 c10_2 (rw_istore_n (pc' := 3) (z := 24) (L' := [(2, vI 24), (0, .ref r0), (1, vI a1)]) rfl rfl rfl ?_)
  have lp277 : ∀ (n278 : Nat) (v280 : Int) (H281 : wq_H), WT T H281 → wfr [(1, 9), (2, 999)] T H H281 → ((-8) ≤ v280 ∧ v280 ≤ 24) → (v280 - (-8)).toNat = n278 → wp kt 0 10 3 [(2, vI v280), (0, .ref r0), (1, vI a1)] [] T H281 (q_10 r0 a1 T H) := by
    intro n278
    induction n278 using Nat.strongRecOn with
    | _ n278 ih279 =>
      intro v280 H281 w282 f283 b284 m285
      have f286 := f0.tr f283 rfl
      refine wp_of e10 c10_3 (rw_iload_n (pc' := 4) (z := v280) rfl rfl ?_)
      refine wp_of e10 c10_4 (rw_if_lt (p1 := 46) (p2 := 7) (by decide) rfl ⟨by omega, by omega⟩ (fun c287 => ?_) (fun c287 => ?_))
      · exact wp_return e10 c10_46 rfl ⟨rfl, w282, f286, rfl⟩
      · refine wp_of e10 c10_7 (rw_aload_n (pc' := 8) (v := .ref r0) rfl rfl rfl ?_)
        refine wp_of e10 c10_8 (xg_I (pc' := 11) lf_0_62 w282 g0 sh_1 (by decide) (by decide) ty_1_9 rfl rfl (fun b288 b289 => ?_))
        refine wp_of e10 c10_11 (rw_sipush (pc' := 14) (z := 900) rfl (by decide) ?_)
        refine wp_of e10 c10_14 (rw_icmp_ge (p1 := 46) (p2 := 17) (by decide) rfl ⟨by omega, by omega⟩ ⟨by omega, by omega⟩ (fun c290 => ?_) (fun c290 => ?_))
        · exact wp_return e10 c10_46 rfl ⟨rfl, w282, f286, rfl⟩
        · refine wp_of e10 c10_17 (rw_aload_n (pc' := 18) (v := .ref r0) rfl rfl rfl ?_)
          refine wp_of e10 c10_18 (xg_R (pc' := 21) lf_0_9 w282 g0 sh_1 (by decide) (by decide) ty_1_0 rfl rfl (fun r291 q292 g293 => ?_))
          refine wp_of e10 c10_21 (rw_aload_n (pc' := 22) (v := .ref r0) rfl rfl rfl ?_)
          refine wp_of e10 c10_22 (xg_I (pc' := 25) lf_0_62 w282 g0 sh_1 (by decide) (by decide) ty_1_9 rfl rfl (fun b294 b295 => ?_))
          refine wp_of e10 c10_25 (rw_iload_n (pc' := 26) (z := a1) rfl rfl ?_)
          refine wp_of e10 c10_26 (rw_iload_n (pc' := 27) (z := v280) rfl rfl ?_)
          refine wp_of e10 c10_27 (rw_ishr (pc' := 28) rfl ?_)
          obtain ⟨v296, e297⟩ : ∃ x : Int, x = wq_shr a1 v280 := ⟨_, rfl⟩
          rw [← e297]
          have b298 : -2147483648 ≤ v296 ∧ v296 ≤ 2147483647 := by
            rw [e297]
            exact wI_shr _ _
          refine wp_of e10 c10_28 (rw_i2b (pc' := 29) rfl ?_)
          obtain ⟨v299, e300⟩ : ∃ x : Int, x = wq_i2b v296 := ⟨_, rfl⟩
          rw [← e300]
          have b301 : -128 ≤ v299 ∧ v299 ≤ 127 := by
            rw [e300]
            exact wq_i2b_b _
          refine wp_of e10 c10_29 (xs_B (pc' := 30) w282 g293 (by decide) sh_2 (by decide) (ty_2 _) (by omega) (by omega) ⟨by omega, by omega⟩ (by omega) (by omega) rfl (fun H302 e303 w304 => ?_))
          have f305 := f286.put' e303 g293 rfl
          have f306 := f283.put' e303 g293 rfl
          refine wp_of e10 c10_30 (rw_aload_n (pc' := 31) (v := .ref r0) rfl rfl rfl ?_)
          refine wp_of e10 c10_31 (rw_dup (pc' := 32) rfl rfl ?_)
          have k307 : H302 r0 9 = H281 r0 9 := (wq_u_t e303 g293 g0 rfl 9)
          refine wp_of e10 c10_32 (xg_I (pc' := 35) lf_0_62 w304 g0 sh_1 (by decide) (by decide) ty_1_9 rfl rfl (fun b308 b309 => ?_))
          refine wp_of e10 c10_35 (rw_iconst (pc' := 36) rfl ?_)
          refine wp_of e10 c10_36 (rw_iadd (pc' := 37) rfl ?_)
          refine wp_of e10 c10_37 (xp_I (pc' := 40) lf_0_62 w304 g0 sh_1 (by decide) (by decide) ty_1_9 rfl rfl (by omega) (by omega) ⟨by omega, by omega⟩ rfl (fun H310 e311 w312 => ?_))
          have f313 := f305.put' e311 g0 rfl
          have f314 := f306.put' e311 g0 rfl
          have k315 : H310 r0 9 = (H302 r0 9) + 1 := wq_u_s e311
          refine wp_of e10 c10_40 (rw_iinc (pc' := 43) (z := v280) (L' := [(2, vI (v280 + (-8))), (0, .ref r0), (1, vI a1)]) rfl rfl rfl rfl ?_)
          refine wp_of e10 c10_43 (rw_goto (p1 := 3) (by decide) ?_)
          exact wp_lc (ks := [2, 0, 1]) (wl_c rfl (wl_c rfl (wl_c rfl wl_n))) rfl (by decide) (ih279 _ (by omega) (v280 + (-8)) H310 w312 f314 ⟨by omega, by omega⟩ rfl)
  exact wp_lc (ks := [2, 0, 1]) (wl_c rfl (wl_c rfl (wl_c rfl wl_n))) rfl (by decide) (lp277 _ 24 H hW wfr.rf ⟨by omega, by omega⟩ rfl)

/-! StrikeAwake.feed(IIIII)I -/
theorem e9 : wq_en 9 = some (0, 6, false, some FieldType.int) := rfl
theorem c9_0 : mc_cd 9 0 = some (.aload_n 0, 1) := by decide +kernel
theorem c9_1 : mc_cd 9 1 = some (.getfield 62, 3) := by decide +kernel
theorem c9_4 : mc_cd 9 4 = some (.sipush 880, 3) := by decide +kernel
theorem c9_7 : mc_cd 9 7 = some (.if_icmp .le 5, 3) := by decide +kernel
theorem c9_10 : mc_cd 9 10 = some (.iconst (-1), 1) := by decide +kernel
theorem c9_11 : mc_cd 9 11 = some (.ireturn, 1) := by decide +kernel
theorem c9_12 : mc_cd 9 12 = some (.aload_n 0, 1) := by decide +kernel
theorem c9_13 : mc_cd 9 13 = some (.iload_n 1, 1) := by decide +kernel
theorem c9_14 : mc_cd 9 14 = some (.invokevirtual 66, 3) := by decide +kernel
theorem c9_17 : mc_cd 9 17 = some (.aload_n 0, 1) := by decide +kernel
theorem c9_18 : mc_cd 9 18 = some (.iload_n 2, 1) := by decide +kernel
theorem c9_19 : mc_cd 9 19 = some (.invokevirtual 66, 3) := by decide +kernel
theorem c9_22 : mc_cd 9 22 = some (.aload_n 0, 1) := by decide +kernel
theorem c9_23 : mc_cd 9 23 = some (.iload_n 3, 1) := by decide +kernel
theorem c9_24 : mc_cd 9 24 = some (.invokevirtual 66, 3) := by decide +kernel
theorem c9_27 : mc_cd 9 27 = some (.aload_n 0, 1) := by decide +kernel
theorem c9_28 : mc_cd 9 28 = some (.iload 4, 2) := by decide +kernel
theorem c9_30 : mc_cd 9 30 = some (.invokevirtual 66, 3) := by decide +kernel
theorem c9_33 : mc_cd 9 33 = some (.aload_n 0, 1) := by decide +kernel
theorem c9_34 : mc_cd 9 34 = some (.iload 5, 2) := by decide +kernel
theorem c9_36 : mc_cd 9 36 = some (.invokevirtual 66, 3) := by decide +kernel
theorem c9_39 : mc_cd 9 39 = some (.aload_n 0, 1) := by decide +kernel
theorem c9_40 : mc_cd 9 40 = some (.getfield 62, 3) := by decide +kernel
theorem c9_43 : mc_cd 9 43 = some (.ireturn, 1) := by decide +kernel
abbrev q_9 (r0 : Nat) (a1 : Int) (a2 : Int) (a3 : Int) (a4 : Int) (a5 : Int) (T : wq_T) (H : wq_H) : Option Value → wq_T → wq_H → Prop := fun r T' H' => T = T' ∧ WT T H' ∧ wfr [(1, 9), (2, 999)] T H H' ∧ ∃ z : Int, some (vI z) = r ∧ ((-2147483648) ≤ z ∧ z ≤ 2147483647)
set_option maxHeartbeats 4000000 in
theorem s_9 {kt : Nat → Option mc_E} {T : wq_T} {H : wq_H} {r0 : Nat} {a1 : Int} {a2 : Int} {a3 : Int} {a4 : Int} {a5 : Int} (hW : WT T H) (g0 : T.2.2.2 r0 = some 1) (i1 : (-2147483648) ≤ a1 ∧ a1 ≤ 2147483647) (i2 : (-2147483648) ≤ a2 ∧ a2 ≤ 2147483647) (i3 : (-2147483648) ≤ a3 ∧ a3 ≤ 2147483647) (i4 : (-2147483648) ≤ a4 ∧ a4 ≤ 2147483647) (i5 : (-2147483648) ≤ a5 ∧ a5 ≤ 2147483647) : wpc kt 2 9 [.ref r0, vI a1, vI a2, vI a3, vI a4, vI a5] T H (q_9 r0 a1 a2 a3 a4 a5 T H) := by
  refine wp_enter e9 (by decide) rfl ?_
  have f0 : wfr [(1, 9), (2, 999)] T H H := wfr.rf
  show wp _ _ 9 0 [(0, .ref r0), (1, vI a1), (2, vI a2), (3, vI a3), (4, vI a4), (5, vI a5)] [] _ H _
  refine wp_of e9 c9_0 (rw_aload_n (pc' := 1) (v := .ref r0) rfl rfl rfl ?_)
  refine wp_of e9 c9_1 (xg_I (pc' := 4) lf_0_62 hW g0 sh_1 (by decide) (by decide) ty_1_9 rfl rfl (fun b366 b367 => ?_))
  refine wp_of e9 c9_4 (rw_sipush (pc' := 7) (z := 880) rfl (by decide) ?_)
  refine wp_of e9 c9_7 (rw_icmp_le (p1 := 12) (p2 := 10) (by decide) rfl ⟨by omega, by omega⟩ ⟨by omega, by omega⟩ (fun c368 => ?_) (fun c368 => ?_))
  · refine wp_of e9 c9_12 (rw_aload_n (pc' := 13) (v := .ref r0) rfl rfl rfl ?_)
    refine wp_of e9 c9_13 (rw_iload_n (pc' := 14) (z := a1) rfl rfl ?_)
    refine wp_of e9 c9_14 (xc_V (pc' := 17) (r := r0) (as := [vI a1]) (st := []) (lm_0_66) rfl rfl (by show (_ : Nat) ≤ _; decide) hW g0 sh_1 (by decide) rfl (by decide) (s_10 hW g0 ⟨by omega, by omega⟩) (fun R369 T370 H371 p372 => ?_))
    obtain ⟨e373, w375, f376, e374⟩ := p372
    subst e373
    subst e374
    have f377 := f0.tr f376 rfl
    show wp _ _ 9 17 [(0, .ref r0), (1, vI a1), (2, vI a2), (3, vI a3), (4, vI a4), (5, vI a5)] [] _ H371 _
    refine wp_of e9 c9_17 (rw_aload_n (pc' := 18) (v := .ref r0) rfl rfl rfl ?_)
    refine wp_of e9 c9_18 (rw_iload_n (pc' := 19) (z := a2) rfl rfl ?_)
    refine wp_of e9 c9_19 (xc_V (pc' := 22) (r := r0) (as := [vI a2]) (st := []) (lm_0_66) rfl rfl (by show (_ : Nat) ≤ _; decide) w375 g0 sh_1 (by decide) rfl (by decide) (s_10 w375 g0 ⟨by omega, by omega⟩) (fun R378 T379 H380 p381 => ?_))
    obtain ⟨e382, w384, f385, e383⟩ := p381
    subst e382
    subst e383
    have f386 := f377.tr f385 rfl
    show wp _ _ 9 22 [(0, .ref r0), (1, vI a1), (2, vI a2), (3, vI a3), (4, vI a4), (5, vI a5)] [] _ H380 _
    refine wp_of e9 c9_22 (rw_aload_n (pc' := 23) (v := .ref r0) rfl rfl rfl ?_)
    refine wp_of e9 c9_23 (rw_iload_n (pc' := 24) (z := a3) rfl rfl ?_)
    refine wp_of e9 c9_24 (xc_V (pc' := 27) (r := r0) (as := [vI a3]) (st := []) (lm_0_66) rfl rfl (by show (_ : Nat) ≤ _; decide) w384 g0 sh_1 (by decide) rfl (by decide) (s_10 w384 g0 ⟨by omega, by omega⟩) (fun R387 T388 H389 p390 => ?_))
    obtain ⟨e391, w393, f394, e392⟩ := p390
    subst e391
    subst e392
    have f395 := f386.tr f394 rfl
    show wp _ _ 9 27 [(0, .ref r0), (1, vI a1), (2, vI a2), (3, vI a3), (4, vI a4), (5, vI a5)] [] _ H389 _
    refine wp_of e9 c9_27 (rw_aload_n (pc' := 28) (v := .ref r0) rfl rfl rfl ?_)
    refine wp_of e9 c9_28 (rw_iload (pc' := 30) (z := a4) rfl rfl ?_)
    refine wp_of e9 c9_30 (xc_V (pc' := 33) (r := r0) (as := [vI a4]) (st := []) (lm_0_66) rfl rfl (by show (_ : Nat) ≤ _; decide) w393 g0 sh_1 (by decide) rfl (by decide) (s_10 w393 g0 ⟨by omega, by omega⟩) (fun R396 T397 H398 p399 => ?_))
    obtain ⟨e400, w402, f403, e401⟩ := p399
    subst e400
    subst e401
    have f404 := f395.tr f403 rfl
    show wp _ _ 9 33 [(0, .ref r0), (1, vI a1), (2, vI a2), (3, vI a3), (4, vI a4), (5, vI a5)] [] _ H398 _
    refine wp_of e9 c9_33 (rw_aload_n (pc' := 34) (v := .ref r0) rfl rfl rfl ?_)
    refine wp_of e9 c9_34 (rw_iload (pc' := 36) (z := a5) rfl rfl ?_)
    refine wp_of e9 c9_36 (xc_V (pc' := 39) (r := r0) (as := [vI a5]) (st := []) (lm_0_66) rfl rfl (by show (_ : Nat) ≤ _; decide) w402 g0 sh_1 (by decide) rfl (by decide) (s_10 w402 g0 ⟨by omega, by omega⟩) (fun R405 T406 H407 p408 => ?_))
    obtain ⟨e409, w411, f412, e410⟩ := p408
    subst e409
    subst e410
    have f413 := f404.tr f412 rfl
    show wp _ _ 9 39 [(0, .ref r0), (1, vI a1), (2, vI a2), (3, vI a3), (4, vI a4), (5, vI a5)] [] _ H407 _
    refine wp_of e9 c9_39 (rw_aload_n (pc' := 40) (v := .ref r0) rfl rfl rfl ?_)
    refine wp_of e9 c9_40 (xg_I (pc' := 43) lf_0_62 w411 g0 sh_1 (by decide) (by decide) ty_1_9 rfl rfl (fun b414 b415 => ?_))
    exact wp_ireturn e9 c9_43 rfl ⟨rfl, w411, f413, H407 r0 9, rfl, ⟨by omega, by omega⟩⟩
  · refine wp_of e9 c9_10 (rw_iconst (pc' := 11) rfl ?_)
    exact wp_ireturn e9 c9_11 rfl ⟨rfl, hW, f0, -1, rfl, ⟨by omega, by omega⟩⟩

/-! StrikeAwake.hasBit(II)Z -/
theorem e36 : wq_en 36 = some (0, 2, false, some FieldType.boolean) := rfl
theorem c36_0 : mc_cd 36 0 = some (.iload_n 0, 1) := by decide +kernel
theorem c36_1 : mc_cd 36 1 = some (.iload_n 1, 1) := by decide +kernel
theorem c36_2 : mc_cd 36 2 = some (.ishr, 1) := by decide +kernel
theorem c36_3 : mc_cd 36 3 = some (.iconst 1, 1) := by decide +kernel
theorem c36_4 : mc_cd 36 4 = some (.iand, 1) := by decide +kernel
theorem c36_5 : mc_cd 36 5 = some (.ifCond .eq 7, 3) := by decide +kernel
theorem c36_8 : mc_cd 36 8 = some (.iconst 1, 1) := by decide +kernel
theorem c36_9 : mc_cd 36 9 = some (.goto 4, 3) := by decide +kernel
theorem c36_12 : mc_cd 36 12 = some (.iconst 0, 1) := by decide +kernel
theorem c36_13 : mc_cd 36 13 = some (.ireturn, 1) := by decide +kernel
abbrev q_36 (a0 : Int) (a1 : Int) (T : wq_T) (H : wq_H) : Option Value → wq_T → wq_H → Prop := fun r T' H' => T = T' ∧ H = H' ∧ ∃ z : Int, some (vI z) = r ∧ (0 ≤ z ∧ z ≤ 1)
set_option maxHeartbeats 4000000 in
theorem s_36 {kt : Nat → Option mc_E} {T : wq_T} {H : wq_H} {a0 : Int} {a1 : Int} (hW : WT T H) (i0 : (-2147483648) ≤ a0 ∧ a0 ≤ 2147483647) (i1 : (-2147483648) ≤ a1 ∧ a1 ≤ 2147483647) : wpc kt 1 36 [vI a0, vI a1] T H (q_36 a0 a1 T H) := by
  refine wp_enter e36 (by decide) rfl ?_
  show wp _ _ 36 0 [(0, vI a0), (1, vI a1)] [] _ H _
  refine wp_of e36 c36_0 (rw_iload_n (pc' := 1) (z := a0) rfl rfl ?_)
  refine wp_of e36 c36_1 (rw_iload_n (pc' := 2) (z := a1) rfl rfl ?_)
  refine wp_of e36 c36_2 (rw_ishr (pc' := 3) rfl ?_)
  obtain ⟨v421, e422⟩ : ∃ x : Int, x = wq_shr a0 a1 := ⟨_, rfl⟩
  rw [← e422]
  have b423 : -2147483648 ≤ v421 ∧ v421 ≤ 2147483647 := by
    rw [e422]
    exact wI_shr _ _
  refine wp_of e36 c36_3 (rw_iconst (pc' := 4) rfl ?_)
  refine wp_of e36 c36_4 (rw_iand (pc' := 5) rfl ?_)
  obtain ⟨v424, e425⟩ : ∃ x : Int, x = wq_and v421 1 := ⟨_, rfl⟩
  rw [← e425]
  have b426 : 0 ≤ v424 ∧ v424 ≤ 1 := by
    rw [e425]
    exact wq_and_b _ (by omega) (by omega)
  refine wp_of e36 c36_5 (rw_if_eq (p1 := 12) (p2 := 8) (by decide) rfl ⟨by omega, by omega⟩ (fun c427 => ?_) (fun c427 => ?_))
  · refine wp_of e36 c36_12 (rw_iconst (pc' := 13) rfl ?_)
    exact wp_ireturn e36 c36_13 rfl ⟨rfl, rfl, 0, rfl, ⟨by omega, by omega⟩⟩
  · refine wp_of e36 c36_8 (rw_iconst (pc' := 9) rfl ?_)
    refine wp_of e36 c36_9 (rw_goto (p1 := 13) (by decide) ?_)
    exact wp_ireturn e36 c36_13 rfl ⟨rfl, rfl, 1, rfl, ⟨by omega, by omega⟩⟩

/-! StrikeAwake$Parish.spanIn(II)I -/
theorem e96 : wq_en 96 = some (7, 5, false, some FieldType.int) := rfl
theorem c96_0 : mc_cd 96 0 = some (.aload_n 0, 1) := by decide +kernel
theorem c96_1 : mc_cd 96 1 = some (.getfield 11, 3) := by decide +kernel
theorem c96_4 : mc_cd 96 4 = some (.iload_n 2, 1) := by decide +kernel
theorem c96_5 : mc_cd 96 5 = some (.aaload, 1) := by decide +kernel
theorem c96_6 : mc_cd 96 6 = some (.getfield 107, 3) := by decide +kernel
theorem c96_9 : mc_cd 96 9 = some (.istore_n 3, 1) := by decide +kernel
theorem c96_10 : mc_cd 96 10 = some (.aload_n 0, 1) := by decide +kernel
theorem c96_11 : mc_cd 96 11 = some (.getfield 11, 3) := by decide +kernel
theorem c96_14 : mc_cd 96 14 = some (.iload_n 2, 1) := by decide +kernel
theorem c96_15 : mc_cd 96 15 = some (.aaload, 1) := by decide +kernel
theorem c96_16 : mc_cd 96 16 = some (.getfield 110, 3) := by decide +kernel
theorem c96_19 : mc_cd 96 19 = some (.istore 4, 2) := by decide +kernel
theorem c96_21 : mc_cd 96 21 = some (.iload_n 3, 1) := by decide +kernel
theorem c96_22 : mc_cd 96 22 = some (.ifCond .le 8, 3) := by decide +kernel
theorem c96_25 : mc_cd 96 25 = some (.iload 4, 2) := by decide +kernel
theorem c96_27 : mc_cd 96 27 = some (.ifCond .gt 5, 3) := by decide +kernel
theorem c96_30 : mc_cd 96 30 = some (.iconst (-1), 1) := by decide +kernel
theorem c96_31 : mc_cd 96 31 = some (.ireturn, 1) := by decide +kernel
theorem c96_32 : mc_cd 96 32 = some (.iload_n 1, 1) := by decide +kernel
theorem c96_33 : mc_cd 96 33 = some (.iload_n 3, 1) := by decide +kernel
theorem c96_34 : mc_cd 96 34 = some (.idiv, 1) := by decide +kernel
theorem c96_35 : mc_cd 96 35 = some (.iload 4, 2) := by decide +kernel
theorem c96_37 : mc_cd 96 37 = some (.irem, 1) := by decide +kernel
theorem c96_38 : mc_cd 96 38 = some (.ireturn, 1) := by decide +kernel
abbrev q_96 (r0 : Nat) (a1 : Int) (a2 : Int) (T : wq_T) (H : wq_H) : Option Value → wq_T → wq_H → Prop := fun r T' H' => T = T' ∧ H = H' ∧ ∃ z : Int, some (vI z) = r ∧ ((-1) ≤ z ∧ z ≤ 39)
set_option maxHeartbeats 4000000 in
theorem s_96 {kt : Nat → Option mc_E} {T : wq_T} {H : wq_H} {r0 : Nat} {a1 : Int} {a2 : Int} (hW : WT T H) (g0 : T.2.2.2 r0 = some 27) (i1 : 0 ≤ a1 ∧ a1 ≤ 2147483647) (i2 : 0 ≤ a2 ∧ a2 ≤ 5) : wpc kt 1 96 [.ref r0, vI a1, vI a2] T H (q_96 r0 a1 a2 T H) := by
  refine wp_enter e96 (by decide) rfl ?_
  show wp _ _ 96 0 [(0, .ref r0), (1, vI a1), (2, vI a2)] [] _ H _
  refine wp_of e96 c96_0 (rw_aload_n (pc' := 1) (v := .ref r0) rfl rfl rfl ?_)
  refine wp_of e96 c96_1 (xg_R (pc' := 4) lf_7_11 hW g0 sh_27 (by decide) (by decide) ty_27_0 rfl rfl (fun r444 q445 g446 => ?_))
  refine wp_of e96 c96_4 (rw_iload_n (pc' := 5) (z := a2) rfl rfl ?_)
  refine wp_of e96 c96_5 (xa_R (pc' := 6) (by decide) hW g446 sh_28 (by decide) (ty_28 _) (by omega) (by omega) rfl (fun r447 q448 g449 => ?_))
  refine wp_of e96 c96_6 (xg_I (pc' := 9) lf_7_107 hW g449 sh_35 (by decide) (by decide) ty_35_17 rfl rfl (fun b450 b451 => ?_))
  refine wp_of e96 c96_9 (rw_istore_n (pc' := 10) (z := H r447 17) (L' := [(3, vI (H r447 17)), (0, .ref r0), (1, vI a1), (2, vI a2)]) rfl rfl rfl ?_)
  refine wp_of e96 c96_10 (rw_aload_n (pc' := 11) (v := .ref r0) rfl rfl rfl ?_)
  refine wp_of e96 c96_11 (xg_K (pc' := 14) lf_7_11 hW g0 sh_27 (by decide) (by decide) rfl q445 rfl ?_)
  refine wp_of e96 c96_14 (rw_iload_n (pc' := 15) (z := a2) rfl rfl ?_)
  refine wp_of e96 c96_15 (xa_K (pc' := 16) (by decide) hW g446 sh_28 (by decide) (by omega) (by omega) q448 rfl ?_)
  refine wp_of e96 c96_16 (xg_I (pc' := 19) lf_7_110 hW g449 sh_35 (by decide) (by decide) ty_35_15 rfl rfl (fun b452 b453 => ?_))
  refine wp_of e96 c96_19 (rw_istore (pc' := 21) (z := H r447 15) (L' := [(4, vI (H r447 15)), (3, vI (H r447 17)), (0, .ref r0), (1, vI a1), (2, vI a2)]) rfl rfl rfl ?_)
  refine wp_of e96 c96_21 (rw_iload_n (pc' := 22) (z := H r447 17) rfl rfl ?_)
  refine wp_of e96 c96_22 (rw_if_le (p1 := 30) (p2 := 25) (by decide) rfl ⟨by omega, by omega⟩ (fun c454 => ?_) (fun c454 => ?_))
  · refine wp_of e96 c96_30 (rw_iconst (pc' := 31) rfl ?_)
    exact wp_ireturn e96 c96_31 rfl ⟨rfl, rfl, -1, rfl, ⟨by omega, by omega⟩⟩
  · refine wp_of e96 c96_25 (rw_iload (pc' := 27) (z := H r447 15) rfl rfl ?_)
    refine wp_of e96 c96_27 (rw_if_gt (p1 := 32) (p2 := 30) (by decide) rfl ⟨by omega, by omega⟩ (fun c455 => ?_) (fun c455 => ?_))
    · refine wp_of e96 c96_32 (rw_iload_n (pc' := 33) (z := a1) rfl rfl ?_)
      refine wp_of e96 c96_33 (rw_iload_n (pc' := 34) (z := H r447 17) rfl rfl ?_)
      refine wp_of e96 c96_34 (rw_idiv (pc' := 35) rfl ⟨by omega, by omega⟩ (by omega) ?_)
      obtain ⟨v456, e457⟩ : ∃ x : Int, x = wq_div a1 (H r447 17) := ⟨_, rfl⟩
      rw [← e457]
      have b458 : 0 ≤ v456 ∧ v456 ≤ a1 := by
        rw [e457]
        rw [wq_div_e ⟨by omega, by omega⟩ ⟨by omega, by omega⟩]; exact ⟨Int.ediv_nonneg (by omega) (by omega), Int.ediv_le_self _ (by omega)⟩
      refine wp_of e96 c96_35 (rw_iload (pc' := 37) (z := H r447 15) rfl rfl ?_)
      refine wp_of e96 c96_37 (rw_irem (pc' := 38) rfl ⟨by omega, by omega⟩ (by omega) ?_)
      obtain ⟨v459, e460⟩ : ∃ x : Int, x = wq_rem v456 (H r447 15) := ⟨_, rfl⟩
      rw [← e460]
      have b461 : 0 ≤ v459 ∧ v459 < (H r447 15) := by
        rw [e460]
        rw [wq_rem_e ⟨by omega, by omega⟩ ⟨by omega, by omega⟩]; exact ⟨Int.emod_nonneg _ (by omega), Int.emod_lt_of_pos _ (by omega)⟩
      exact wp_ireturn e96 c96_38 rfl ⟨rfl, rfl, v459, rfl, ⟨by omega, by omega⟩⟩
    · refine wp_of e96 c96_30 (rw_iconst (pc' := 31) rfl ?_)
      exact wp_ireturn e96 c96_31 rfl ⟨rfl, rfl, -1, rfl, ⟨by omega, by omega⟩⟩

/-! StrikeAwake$Parish.hoursStruckUpTo(I)I -/
theorem e46 : wq_en 46 = some (7, 4, false, some FieldType.int) := rfl
theorem c46_0 : mc_cd 46 0 = some (.iconst 0, 1) := by decide +kernel
theorem c46_1 : mc_cd 46 1 = some (.istore_n 2, 1) := by decide +kernel
theorem c46_2 : mc_cd 46 2 = some (.iconst 0, 1) := by decide +kernel
theorem c46_3 : mc_cd 46 3 = some (.istore_n 3, 1) := by decide +kernel
theorem c46_4 : mc_cd 46 4 = some (.iload_n 3, 1) := by decide +kernel
theorem c46_5 : mc_cd 46 5 = some (.aload_n 0, 1) := by decide +kernel
theorem c46_6 : mc_cd 46 6 = some (.getfield 65, 3) := by decide +kernel
theorem c46_9 : mc_cd 46 9 = some (.if_icmp .ge 35, 3) := by decide +kernel
theorem c46_12 : mc_cd 46 12 = some (.aload_n 0, 1) := by decide +kernel
theorem c46_13 : mc_cd 46 13 = some (.getfield 17, 3) := by decide +kernel
theorem c46_16 : mc_cd 46 16 = some (.aload_n 0, 1) := by decide +kernel
theorem c46_17 : mc_cd 46 17 = some (.getfield 21, 3) := by decide +kernel
theorem c46_20 : mc_cd 46 20 = some (.iload_n 3, 1) := by decide +kernel
theorem c46_21 : mc_cd 46 21 = some (.iaload, 1) := by decide +kernel
theorem c46_22 : mc_cd 46 22 = some (.iaload, 1) := by decide +kernel
theorem c46_23 : mc_cd 46 23 = some (.iload_n 1, 1) := by decide +kernel
theorem c46_24 : mc_cd 46 24 = some (.if_icmp .gt 14, 3) := by decide +kernel
theorem c46_27 : mc_cd 46 27 = some (.iload_n 2, 1) := by decide +kernel
theorem c46_28 : mc_cd 46 28 = some (.iconst 1, 1) := by decide +kernel
theorem c46_29 : mc_cd 46 29 = some (.aload_n 0, 1) := by decide +kernel
theorem c46_30 : mc_cd 46 30 = some (.getfield 21, 3) := by decide +kernel
theorem c46_33 : mc_cd 46 33 = some (.iload_n 3, 1) := by decide +kernel
theorem c46_34 : mc_cd 46 34 = some (.iaload, 1) := by decide +kernel
theorem c46_35 : mc_cd 46 35 = some (.ishl, 1) := by decide +kernel
theorem c46_36 : mc_cd 46 36 = some (.ior, 1) := by decide +kernel
theorem c46_37 : mc_cd 46 37 = some (.istore_n 2, 1) := by decide +kernel
theorem c46_38 : mc_cd 46 38 = some (.iinc 3 1, 3) := by decide +kernel
theorem c46_41 : mc_cd 46 41 = some (.goto (-37), 3) := by decide +kernel
theorem c46_44 : mc_cd 46 44 = some (.iload_n 2, 1) := by decide +kernel
theorem c46_45 : mc_cd 46 45 = some (.ireturn, 1) := by decide +kernel
abbrev q_46 (r0 : Nat) (a1 : Int) (T : wq_T) (H : wq_H) : Option Value → wq_T → wq_H → Prop := fun r T' H' => T = T' ∧ H = H' ∧ ∃ z : Int, some (vI z) = r ∧ ((-2147483648) ≤ z ∧ z ≤ 2147483647)
set_option maxHeartbeats 4000000 in
theorem s_46 {kt : Nat → Option mc_E} {T : wq_T} {H : wq_H} {r0 : Nat} {a1 : Int} (hW : WT T H) (g0 : T.2.2.2 r0 = some 27) (i1 : (-2147483648) ≤ a1 ∧ a1 ≤ 2147483647) : wpc kt 1 46 [.ref r0, vI a1] T H (q_46 r0 a1 T H) := by
  refine wp_enter e46 (by decide) rfl ?_
  show wp _ _ 46 0 [(0, .ref r0), (1, vI a1)] [] _ H _
  refine wp_of e46 c46_0 (rw_iconst (pc' := 1) rfl ?_)
  refine wp_of e46 c46_1 (rw_istore_n (pc' := 2) (z := 0) (L' := [(2, vI 0), (0, .ref r0), (1, vI a1)]) rfl rfl rfl ?_)
  refine wp_of e46 c46_2 (rw_iconst (pc' := 3) rfl ?_)
  refine wp_of e46 c46_3 (rw_istore_n (pc' := 4) (z := 0) (L' := [(3, vI 0), (2, vI 0), (0, .ref r0), (1, vI a1)]) rfl rfl rfl ?_)
  have lp1083 : ∀ (n1084 : Nat) (v1086 : Int) (v1087 : Int), (0 ≤ v1086 ∧ v1086 ≤ 24) → ((-2147483648) ≤ v1087 ∧ v1087 ≤ 2147483647) → (24 - v1086).toNat = n1084 → wp kt 0 46 4 [(3, vI v1086), (2, vI v1087), (0, .ref r0), (1, vI a1)] [] T H (q_46 r0 a1 T H) := by
    intro n1084
    induction n1084 using Nat.strongRecOn with
    | _ n1084 ih1085 =>
      intro v1086 v1087 b1090 b1091 m1092
      refine wp_of e46 c46_4 (rw_iload_n (pc' := 5) (z := v1086) rfl rfl ?_)
      refine wp_of e46 c46_5 (rw_aload_n (pc' := 6) (v := .ref r0) rfl rfl rfl ?_)
      refine wp_of e46 c46_6 (xg_I (pc' := 9) lf_7_65 hW g0 sh_27 (by decide) (by decide) ty_27_16 rfl rfl (fun b1093 b1094 => ?_))
      refine wp_of e46 c46_9 (rw_icmp_ge (p1 := 44) (p2 := 12) (by decide) rfl ⟨by omega, by omega⟩ ⟨by omega, by omega⟩ (fun c1095 => ?_) (fun c1095 => ?_))
      · refine wp_of e46 c46_44 (rw_iload_n (pc' := 45) (z := v1087) rfl rfl ?_)
        exact wp_ireturn e46 c46_45 rfl ⟨rfl, rfl, v1087, rfl, ⟨by omega, by omega⟩⟩
      · refine wp_of e46 c46_12 (rw_aload_n (pc' := 13) (v := .ref r0) rfl rfl rfl ?_)
        refine wp_of e46 c46_13 (xg_R (pc' := 16) lf_7_17 hW g0 sh_27 (by decide) (by decide) ty_27_1 rfl rfl (fun r1096 q1097 g1098 => ?_))
        refine wp_of e46 c46_16 (rw_aload_n (pc' := 17) (v := .ref r0) rfl rfl rfl ?_)
        refine wp_of e46 c46_17 (xg_R (pc' := 20) lf_7_21 hW g0 sh_27 (by decide) (by decide) ty_27_2 rfl rfl (fun r1099 q1100 g1101 => ?_))
        refine wp_of e46 c46_20 (rw_iload_n (pc' := 21) (z := v1086) rfl rfl ?_)
        refine wp_of e46 c46_21 (xa_I (so := 0) (pc' := 22) hW g1101 sh_30 (by decide) (ty_30 _) (by omega) (by omega) rfl (fun b1102 b1103 => ?_))
        refine wp_of e46 c46_22 (xa_I (so := 0) (pc' := 23) hW g1098 sh_29 (by decide) (ty_29 _) (by omega) (by omega) rfl (fun b1104 b1105 => ?_))
        refine wp_of e46 c46_23 (rw_iload_n (pc' := 24) (z := a1) rfl rfl ?_)
        refine wp_of e46 c46_24 (rw_icmp_gt (p1 := 38) (p2 := 27) (by decide) rfl ⟨by omega, by omega⟩ ⟨by omega, by omega⟩ (fun c1106 => ?_) (fun c1106 => ?_))
        · refine wp_of e46 c46_38 (rw_iinc (pc' := 41) (z := v1086) (L' := [(3, vI (v1086 + 1)), (2, vI v1087), (0, .ref r0), (1, vI a1)]) rfl rfl rfl rfl ?_)
          refine wp_of e46 c46_41 (rw_goto (p1 := 4) (by decide) ?_)
          exact wp_lc (ks := [3, 2, 0, 1]) (wl_c rfl (wl_c rfl (wl_c rfl (wl_c rfl wl_n)))) rfl (by decide) (ih1085 _ (by omega) (v1086 + 1) v1087 ⟨by omega, by omega⟩ ⟨by omega, by omega⟩ rfl)
        · refine wp_of e46 c46_27 (rw_iload_n (pc' := 28) (z := v1087) rfl rfl ?_)
          refine wp_of e46 c46_28 (rw_iconst (pc' := 29) rfl ?_)
          refine wp_of e46 c46_29 (rw_aload_n (pc' := 30) (v := .ref r0) rfl rfl rfl ?_)
          refine wp_of e46 c46_30 (xg_K (pc' := 33) lf_7_21 hW g0 sh_27 (by decide) (by decide) rfl q1100 rfl ?_)
          refine wp_of e46 c46_33 (rw_iload_n (pc' := 34) (z := v1086) rfl rfl ?_)
          refine wp_of e46 c46_34 (xa_I (so := 0) (pc' := 35) hW g1101 sh_30 (by decide) (ty_30 _) (by omega) (by omega) rfl (fun b1107 b1108 => ?_))
          refine wp_of e46 c46_35 (rw_ishl (pc' := 36) rfl ?_)
          obtain ⟨v1109, e1110⟩ : ∃ x : Int, x = wq_shl 1 (H r1099 v1086.toNat) := ⟨_, rfl⟩
          rw [← e1110]
          have b1111 : -2147483648 ≤ v1109 ∧ v1109 ≤ 2147483647 := by
            rw [e1110]
            exact wI_shl _ _
          refine wp_of e46 c46_36 (rw_ior (pc' := 37) rfl ?_)
          obtain ⟨v1112, e1113⟩ : ∃ x : Int, x = wq_or v1087 v1109 := ⟨_, rfl⟩
          rw [← e1113]
          have b1114 : -2147483648 ≤ v1112 ∧ v1112 ≤ 2147483647 := by
            rw [e1113]
            exact wI_or _ _
          refine wp_of e46 c46_37 (rw_istore_n (pc' := 38) (z := v1112) (L' := [(2, vI v1112), (3, vI v1086), (0, .ref r0), (1, vI a1)]) rfl rfl rfl ?_)
          refine wp_of e46 c46_38 (rw_iinc (pc' := 41) (z := v1086) (L' := [(3, vI (v1086 + 1)), (2, vI v1112), (0, .ref r0), (1, vI a1)]) rfl rfl rfl rfl ?_)
          refine wp_of e46 c46_41 (rw_goto (p1 := 4) (by decide) ?_)
          exact wp_lc (ks := [3, 2, 0, 1]) (wl_c rfl (wl_c rfl (wl_c rfl (wl_c rfl wl_n)))) rfl (by decide) (ih1085 _ (by omega) (v1086 + 1) v1112 ⟨by omega, by omega⟩ ⟨by omega, by omega⟩ rfl)
  exact wp_lc (ks := [3, 2, 0, 1]) (wl_c rfl (wl_c rfl (wl_c rfl (wl_c rfl wl_n)))) rfl (by decide) (lp1083 _ 0 0 ⟨by omega, by omega⟩ ⟨by omega, by omega⟩ rfl)

/-! StrikeAwakeModel.feed(IIIII)I -/
theorem e168 : wq_en 168 = some (9, 8, false, some FieldType.int) := rfl
theorem c168_0 : mc_cd 168 0 = some (.aload_n 0, 1) := by decide +kernel
theorem c168_1 : mc_cd 168 1 = some (.iconst 0, 1) := by decide +kernel
theorem c168_2 : mc_cd 168 2 = some (.putfield 48, 3) := by decide +kernel
theorem c168_5 : mc_cd 168 5 = some (.aload_n 0, 1) := by decide +kernel
theorem c168_6 : mc_cd 168 6 = some (.getfield 330, 3) := by decide +kernel
theorem c168_9 : mc_cd 168 9 = some (.bipush 20, 2) := by decide +kernel
theorem c168_11 : mc_cd 168 11 = some (.iadd, 1) := by decide +kernel
theorem c168_12 : mc_cd 168 12 = some (.sipush 900, 3) := by decide +kernel
theorem c168_15 : mc_cd 168 15 = some (.if_icmp .le 5, 3) := by decide +kernel
theorem c168_18 : mc_cd 168 18 = some (.iconst (-1), 1) := by decide +kernel
theorem c168_19 : mc_cd 168 19 = some (.ireturn, 1) := by decide +kernel
theorem c168_20 : mc_cd 168 20 = some (.iconst 0, 1) := by decide +kernel
theorem c168_21 : mc_cd 168 21 = some (.istore 6, 2) := by decide +kernel
theorem c168_23 : mc_cd 168 23 = some (.iload 6, 2) := by decide +kernel
theorem c168_25 : mc_cd 168 25 = some (.bipush 20, 2) := by decide +kernel
theorem c168_27 : mc_cd 168 27 = some (.if_icmp .ge 90, 3) := by decide +kernel
theorem c168_30 : mc_cd 168 30 = some (.iload 6, 2) := by decide +kernel
theorem c168_32 : mc_cd 168 32 = some (.iconst 4, 1) := by decide +kernel
theorem c168_33 : mc_cd 168 33 = some (.if_icmp .ge 7, 3) := by decide +kernel
theorem c168_36 : mc_cd 168 36 = some (.iload_n 1, 1) := by decide +kernel
theorem c168_37 : mc_cd 168 37 = some (.goto 39, 3) := by decide +kernel
theorem c168_40 : mc_cd 168 40 = some (.iload 6, 2) := by decide +kernel
theorem c168_42 : mc_cd 168 42 = some (.bipush 8, 2) := by decide +kernel
theorem c168_44 : mc_cd 168 44 = some (.if_icmp .ge 7, 3) := by decide +kernel
theorem c168_47 : mc_cd 168 47 = some (.iload_n 2, 1) := by decide +kernel
theorem c168_48 : mc_cd 168 48 = some (.goto 28, 3) := by decide +kernel
theorem c168_51 : mc_cd 168 51 = some (.iload 6, 2) := by decide +kernel
theorem c168_53 : mc_cd 168 53 = some (.bipush 12, 2) := by decide +kernel
theorem c168_55 : mc_cd 168 55 = some (.if_icmp .ge 7, 3) := by decide +kernel
theorem c168_58 : mc_cd 168 58 = some (.iload_n 3, 1) := by decide +kernel
theorem c168_59 : mc_cd 168 59 = some (.goto 17, 3) := by decide +kernel
theorem c168_62 : mc_cd 168 62 = some (.iload 6, 2) := by decide +kernel
theorem c168_64 : mc_cd 168 64 = some (.bipush 16, 2) := by decide +kernel
theorem c168_66 : mc_cd 168 66 = some (.if_icmp .ge 8, 3) := by decide +kernel
theorem c168_69 : mc_cd 168 69 = some (.iload 4, 2) := by decide +kernel
theorem c168_71 : mc_cd 168 71 = some (.goto 5, 3) := by decide +kernel
theorem c168_74 : mc_cd 168 74 = some (.iload 5, 2) := by decide +kernel
theorem c168_76 : mc_cd 168 76 = some (.istore 7, 2) := by decide +kernel
theorem c168_78 : mc_cd 168 78 = some (.aload_n 0, 1) := by decide +kernel
theorem c168_79 : mc_cd 168 79 = some (.getfield 13, 3) := by decide +kernel
theorem c168_82 : mc_cd 168 82 = some (.aload_n 0, 1) := by decide +kernel
theorem c168_83 : mc_cd 168 83 = some (.getfield 330, 3) := by decide +kernel
theorem c168_86 : mc_cd 168 86 = some (.iload 7, 2) := by decide +kernel
theorem c168_88 : mc_cd 168 88 = some (.bipush 24, 2) := by decide +kernel
theorem c168_90 : mc_cd 168 90 = some (.bipush 8, 2) := by decide +kernel
theorem c168_92 : mc_cd 168 92 = some (.iload 6, 2) := by decide +kernel
theorem c168_94 : mc_cd 168 94 = some (.iconst 4, 1) := by decide +kernel
theorem c168_95 : mc_cd 168 95 = some (.irem, 1) := by decide +kernel
theorem c168_96 : mc_cd 168 96 = some (.imul, 1) := by decide +kernel
theorem c168_97 : mc_cd 168 97 = some (.isub, 1) := by decide +kernel
theorem c168_98 : mc_cd 168 98 = some (.ishr, 1) := by decide +kernel
theorem c168_99 : mc_cd 168 99 = some (.i2b, 1) := by decide +kernel
theorem c168_100 : mc_cd 168 100 = some (.bastore, 1) := by decide +kernel
theorem c168_101 : mc_cd 168 101 = some (.aload_n 0, 1) := by decide +kernel
theorem c168_102 : mc_cd 168 102 = some (.dup, 1) := by decide +kernel
theorem c168_103 : mc_cd 168 103 = some (.getfield 330, 3) := by decide +kernel
theorem c168_106 : mc_cd 168 106 = some (.iconst 1, 1) := by decide +kernel
theorem c168_107 : mc_cd 168 107 = some (.iadd, 1) := by decide +kernel
theorem c168_108 : mc_cd 168 108 = some (.putfield 330, 3) := by decide +kernel
theorem c168_111 : mc_cd 168 111 = some (.iinc 6 1, 3) := by decide +kernel
theorem c168_114 : mc_cd 168 114 = some (.goto (-91), 3) := by decide +kernel
theorem c168_117 : mc_cd 168 117 = some (.aload_n 0, 1) := by decide +kernel
theorem c168_118 : mc_cd 168 118 = some (.getfield 330, 3) := by decide +kernel
theorem c168_121 : mc_cd 168 121 = some (.ireturn, 1) := by decide +kernel
abbrev q_168 (r0 : Nat) (a1 : Int) (a2 : Int) (a3 : Int) (a4 : Int) (a5 : Int) (T : wq_T) (H : wq_H) : Option Value → wq_T → wq_H → Prop := fun r T' H' => T = T' ∧ WT T H' ∧ wfr [(42, 0), (42, 6), (43, 999)] T H H' ∧ ∃ z : Int, some (vI z) = r ∧ ((-2147483648) ≤ z ∧ z ≤ 2147483647)
set_option maxHeartbeats 4000000 in
theorem s_168 {kt : Nat → Option mc_E} {T : wq_T} {H : wq_H} {r0 : Nat} {a1 : Int} {a2 : Int} {a3 : Int} {a4 : Int} {a5 : Int} (hW : WT T H) (g0 : T.2.2.2 r0 = some 42) (i1 : (-2147483648) ≤ a1 ∧ a1 ≤ 2147483647) (i2 : (-2147483648) ≤ a2 ∧ a2 ≤ 2147483647) (i3 : (-2147483648) ≤ a3 ∧ a3 ≤ 2147483647) (i4 : (-2147483648) ≤ a4 ∧ a4 ≤ 2147483647) (i5 : (-2147483648) ≤ a5 ∧ a5 ≤ 2147483647) : wpc kt 1 168 [.ref r0, vI a1, vI a2, vI a3, vI a4, vI a5] T H (q_168 r0 a1 a2 a3 a4 a5 T H) := by
  refine wp_enter e168 (by decide) rfl ?_
  have f0 : wfr [(42, 0), (42, 6), (43, 999)] T H H := wfr.rf
  show wp _ _ 168 0 [(0, .ref r0), (1, vI a1), (2, vI a2), (3, vI a3), (4, vI a4), (5, vI a5)] [] _ H _
  refine wp_of e168 c168_0 (rw_aload_n (pc' := 1) (v := .ref r0) rfl rfl rfl ?_)
  refine wp_of e168 c168_1 (rw_iconst (pc' := 2) rfl ?_)
  refine wp_of e168 c168_2 (xp_I (pc' := 5) lf_9_48 hW g0 sh_42 (by decide) (by decide) ty_42_0 rfl rfl (by omega) (by omega) ⟨by omega, by omega⟩ rfl (fun H1981 e1982 w1983 => ?_))
  have f1984 := f0.put' e1982 g0 rfl
  have k1985 : H1981 r0 0 = 0 := wq_u_s e1982
  refine wp_of e168 c168_5 (rw_aload_n (pc' := 6) (v := .ref r0) rfl rfl rfl ?_)
  refine wp_of e168 c168_6 (xg_I (pc' := 9) lf_9_330 w1983 g0 sh_42 (by decide) (by decide) ty_42_6 rfl rfl (fun b1986 b1987 => ?_))
  refine wp_of e168 c168_9 (rw_bipush (pc' := 11) (z := 20) rfl (by decide) ?_)
  refine wp_of e168 c168_11 (rw_iadd (pc' := 12) rfl ?_)
  refine wp_of e168 c168_12 (rw_sipush (pc' := 15) (z := 900) rfl (by decide) ?_)
  refine wp_of e168 c168_15 (rw_icmp_le (p1 := 20) (p2 := 18) (by decide) rfl ⟨by omega, by omega⟩ ⟨by omega, by omega⟩ (fun c1988 => ?_) (fun c1988 => ?_))
  · refine wp_of e168 c168_20 (rw_iconst (pc' := 21) rfl ?_)
    refine wp_of e168 c168_21 (rw_istore (pc' := 23) (z := 0) (L' := [(6, vI 0), (0, .ref r0), (1, vI a1), (2, vI a2), (3, vI a3), (4, vI a4), (5, vI a5)]) rfl rfl rfl ?_)
    have lp2724 : ∀ (n2725 : Nat) (v2727 : Int) (H2728 : wq_H), WT T H2728 → wfr [(42, 6), (43, 999)] T H1981 H2728 → (0 ≤ v2727 ∧ v2727 ≤ 20) → (20 - v2727).toNat = n2725 → wp kt 0 168 23 [(6, vI v2727), (0, .ref r0), (1, vI a1), (2, vI a2), (3, vI a3), (4, vI a4), (5, vI a5)] [] T H2728 (q_168 r0 a1 a2 a3 a4 a5 T H) := by
      intro n2725
      induction n2725 using Nat.strongRecOn with
      | _ n2725 ih2726 =>
        intro v2727 H2728 w2729 f2730 b2731 m2732
        have f2733 := f1984.tr f2730 rfl
        refine wp_of e168 c168_23 (rw_iload (pc' := 25) (z := v2727) rfl rfl ?_)
        refine wp_of e168 c168_25 (rw_bipush (pc' := 27) (z := 20) rfl (by decide) ?_)
        refine wp_of e168 c168_27 (rw_icmp_ge (p1 := 117) (p2 := 30) (by decide) rfl ⟨by omega, by omega⟩ ⟨by omega, by omega⟩ (fun c2734 => ?_) (fun c2734 => ?_))
        · refine wp_of e168 c168_117 (rw_aload_n (pc' := 118) (v := .ref r0) rfl rfl rfl ?_)
          refine wp_of e168 c168_118 (xg_I (pc' := 121) lf_9_330 w2729 g0 sh_42 (by decide) (by decide) ty_42_6 rfl rfl (fun b2735 b2736 => ?_))
          exact wp_ireturn e168 c168_121 rfl ⟨rfl, w2729, f2733, H2728 r0 6, rfl, ⟨by omega, by omega⟩⟩
        · refine wp_of e168 c168_30 (rw_iload (pc' := 32) (z := v2727) rfl rfl ?_)
          refine wp_of e168 c168_32 (rw_iconst (pc' := 33) rfl ?_)
          refine wp_of e168 c168_33 (rw_icmp_ge (p1 := 40) (p2 := 36) (by decide) rfl ⟨by omega, by omega⟩ ⟨by omega, by omega⟩ (fun c2737 => ?_) (fun c2737 => ?_))
          · refine wp_of e168 c168_40 (rw_iload (pc' := 42) (z := v2727) rfl rfl ?_)
            refine wp_of e168 c168_42 (rw_bipush (pc' := 44) (z := 8) rfl (by decide) ?_)
            refine wp_of e168 c168_44 (rw_icmp_ge (p1 := 51) (p2 := 47) (by decide) rfl ⟨by omega, by omega⟩ ⟨by omega, by omega⟩ (fun c2738 => ?_) (fun c2738 => ?_))
            · refine wp_of e168 c168_51 (rw_iload (pc' := 53) (z := v2727) rfl rfl ?_)
              refine wp_of e168 c168_53 (rw_bipush (pc' := 55) (z := 12) rfl (by decide) ?_)
              refine wp_of e168 c168_55 (rw_icmp_ge (p1 := 62) (p2 := 58) (by decide) rfl ⟨by omega, by omega⟩ ⟨by omega, by omega⟩ (fun c2739 => ?_) (fun c2739 => ?_))
              · refine wp_of e168 c168_62 (rw_iload (pc' := 64) (z := v2727) rfl rfl ?_)
                refine wp_of e168 c168_64 (rw_bipush (pc' := 66) (z := 16) rfl (by decide) ?_)
                refine wp_of e168 c168_66 (rw_icmp_ge (p1 := 74) (p2 := 69) (by decide) rfl ⟨by omega, by omega⟩ ⟨by omega, by omega⟩ (fun c2740 => ?_) (fun c2740 => ?_))
                · refine wp_of e168 c168_74 (rw_iload (pc' := 76) (z := a5) rfl rfl ?_)
                  refine wp_of e168 c168_76 (rw_istore (pc' := 78) (z := a5) (L' := [(7, vI a5), (6, vI v2727), (0, .ref r0), (1, vI a1), (2, vI a2), (3, vI a3), (4, vI a4), (5, vI a5)]) rfl rfl rfl ?_)
                  refine wp_of e168 c168_78 (rw_aload_n (pc' := 79) (v := .ref r0) rfl rfl rfl ?_)
                  refine wp_of e168 c168_79 (xg_R (pc' := 82) lf_9_13 w2729 g0 sh_42 (by decide) (by decide) ty_42_5 rfl rfl (fun r2741 q2742 g2743 => ?_))
                  refine wp_of e168 c168_82 (rw_aload_n (pc' := 83) (v := .ref r0) rfl rfl rfl ?_)
                  refine wp_of e168 c168_83 (xg_I (pc' := 86) lf_9_330 w2729 g0 sh_42 (by decide) (by decide) ty_42_6 rfl rfl (fun b2744 b2745 => ?_))
                  refine wp_of e168 c168_86 (rw_iload (pc' := 88) (z := a5) rfl rfl ?_)
                  refine wp_of e168 c168_88 (rw_bipush (pc' := 90) (z := 24) rfl (by decide) ?_)
                  refine wp_of e168 c168_90 (rw_bipush (pc' := 92) (z := 8) rfl (by decide) ?_)
                  refine wp_of e168 c168_92 (rw_iload (pc' := 94) (z := v2727) rfl rfl ?_)
                  refine wp_of e168 c168_94 (rw_iconst (pc' := 95) rfl ?_)
                  refine wp_of e168 c168_95 (rw_irem (pc' := 96) rfl ⟨by omega, by omega⟩ (by omega) ?_)
                  obtain ⟨v2746, e2747⟩ : ∃ x : Int, x = wq_rem v2727 4 := ⟨_, rfl⟩
                  rw [← e2747]
                  have b2748 : 0 ≤ v2746 ∧ v2746 < 4 := by
                    rw [e2747]
                    rw [wq_rem_e ⟨by omega, by omega⟩ ⟨by omega, by omega⟩]; exact ⟨Int.emod_nonneg _ (by omega), Int.emod_lt_of_pos _ (by omega)⟩
                  refine wp_of e168 c168_96 (rw_imul (pc' := 97) rfl ?_)
                  refine wp_of e168 c168_97 (rw_isub (pc' := 98) rfl ?_)
                  refine wp_of e168 c168_98 (rw_ishr (pc' := 99) rfl ?_)
                  obtain ⟨v2749, e2750⟩ : ∃ x : Int, x = wq_shr a5 (24 - (8 * v2746)) := ⟨_, rfl⟩
                  rw [← e2750]
                  have b2751 : -2147483648 ≤ v2749 ∧ v2749 ≤ 2147483647 := by
                    rw [e2750]
                    exact wI_shr _ _
                  refine wp_of e168 c168_99 (rw_i2b (pc' := 100) rfl ?_)
                  obtain ⟨v2752, e2753⟩ : ∃ x : Int, x = wq_i2b v2749 := ⟨_, rfl⟩
                  rw [← e2753]
                  have b2754 : -128 ≤ v2752 ∧ v2752 ≤ 127 := by
                    rw [e2753]
                    exact wq_i2b_b _
                  refine wp_of e168 c168_100 (xs_B (pc' := 101) w2729 g2743 (by decide) sh_43 (by decide) (ty_43 _) (by omega) (by omega) ⟨by omega, by omega⟩ (by omega) (by omega) rfl (fun H2755 e2756 w2757 => ?_))
                  have f2758 := f2733.put' e2756 g2743 rfl
                  have f2759 := f2730.put' e2756 g2743 rfl
                  refine wp_of e168 c168_101 (rw_aload_n (pc' := 102) (v := .ref r0) rfl rfl rfl ?_)
                  refine wp_of e168 c168_102 (rw_dup (pc' := 103) rfl rfl ?_)
                  have k2760 : H2755 r0 6 = H2728 r0 6 := (wq_u_t e2756 g2743 g0 rfl 6)
                  refine wp_of e168 c168_103 (xg_I (pc' := 106) lf_9_330 w2757 g0 sh_42 (by decide) (by decide) ty_42_6 rfl rfl (fun b2761 b2762 => ?_))
                  refine wp_of e168 c168_106 (rw_iconst (pc' := 107) rfl ?_)
                  refine wp_of e168 c168_107 (rw_iadd (pc' := 108) rfl ?_)
                  refine wp_of e168 c168_108 (xp_I (pc' := 111) lf_9_330 w2757 g0 sh_42 (by decide) (by decide) ty_42_6 rfl rfl (by omega) (by omega) ⟨by omega, by omega⟩ rfl (fun H2763 e2764 w2765 => ?_))
                  have f2766 := f2758.put' e2764 g0 rfl
                  have f2767 := f2759.put' e2764 g0 rfl
                  have k2768 : H2763 r0 6 = (H2755 r0 6) + 1 := wq_u_s e2764
                  refine wp_of e168 c168_111 (rw_iinc (pc' := 114) (z := v2727) (L' := [(6, vI (v2727 + 1)), (7, vI a5), (0, .ref r0), (1, vI a1), (2, vI a2), (3, vI a3), (4, vI a4), (5, vI a5)]) rfl rfl rfl rfl ?_)
                  refine wp_of e168 c168_114 (rw_goto (p1 := 23) (by decide) ?_)
                  exact wp_lc (ks := [6, 7, 0, 1, 2, 3, 4, 5]) (wl_c rfl (wl_c rfl (wl_c rfl (wl_c rfl (wl_c rfl (wl_c rfl (wl_c rfl wl_n))))))) rfl (by decide) (ih2726 _ (by omega) (v2727 + 1) H2763 w2765 f2767 ⟨by omega, by omega⟩ rfl)
                · refine wp_of e168 c168_69 (rw_iload (pc' := 71) (z := a4) rfl rfl ?_)
                  refine wp_of e168 c168_71 (rw_goto (p1 := 76) (by decide) ?_)
                  refine wp_of e168 c168_76 (rw_istore (pc' := 78) (z := a4) (L' := [(7, vI a4), (6, vI v2727), (0, .ref r0), (1, vI a1), (2, vI a2), (3, vI a3), (4, vI a4), (5, vI a5)]) rfl rfl rfl ?_)
                  refine wp_of e168 c168_78 (rw_aload_n (pc' := 79) (v := .ref r0) rfl rfl rfl ?_)
                  refine wp_of e168 c168_79 (xg_R (pc' := 82) lf_9_13 w2729 g0 sh_42 (by decide) (by decide) ty_42_5 rfl rfl (fun r2769 q2770 g2771 => ?_))
                  refine wp_of e168 c168_82 (rw_aload_n (pc' := 83) (v := .ref r0) rfl rfl rfl ?_)
                  refine wp_of e168 c168_83 (xg_I (pc' := 86) lf_9_330 w2729 g0 sh_42 (by decide) (by decide) ty_42_6 rfl rfl (fun b2772 b2773 => ?_))
                  refine wp_of e168 c168_86 (rw_iload (pc' := 88) (z := a4) rfl rfl ?_)
                  refine wp_of e168 c168_88 (rw_bipush (pc' := 90) (z := 24) rfl (by decide) ?_)
                  refine wp_of e168 c168_90 (rw_bipush (pc' := 92) (z := 8) rfl (by decide) ?_)
                  refine wp_of e168 c168_92 (rw_iload (pc' := 94) (z := v2727) rfl rfl ?_)
                  refine wp_of e168 c168_94 (rw_iconst (pc' := 95) rfl ?_)
                  refine wp_of e168 c168_95 (rw_irem (pc' := 96) rfl ⟨by omega, by omega⟩ (by omega) ?_)
                  obtain ⟨v2774, e2775⟩ : ∃ x : Int, x = wq_rem v2727 4 := ⟨_, rfl⟩
                  rw [← e2775]
                  have b2776 : 0 ≤ v2774 ∧ v2774 < 4 := by
                    rw [e2775]
                    rw [wq_rem_e ⟨by omega, by omega⟩ ⟨by omega, by omega⟩]; exact ⟨Int.emod_nonneg _ (by omega), Int.emod_lt_of_pos _ (by omega)⟩
                  refine wp_of e168 c168_96 (rw_imul (pc' := 97) rfl ?_)
                  refine wp_of e168 c168_97 (rw_isub (pc' := 98) rfl ?_)
                  refine wp_of e168 c168_98 (rw_ishr (pc' := 99) rfl ?_)
                  obtain ⟨v2777, e2778⟩ : ∃ x : Int, x = wq_shr a4 (24 - (8 * v2774)) := ⟨_, rfl⟩
                  rw [← e2778]
                  have b2779 : -2147483648 ≤ v2777 ∧ v2777 ≤ 2147483647 := by
                    rw [e2778]
                    exact wI_shr _ _
                  refine wp_of e168 c168_99 (rw_i2b (pc' := 100) rfl ?_)
                  obtain ⟨v2780, e2781⟩ : ∃ x : Int, x = wq_i2b v2777 := ⟨_, rfl⟩
                  rw [← e2781]
                  have b2782 : -128 ≤ v2780 ∧ v2780 ≤ 127 := by
                    rw [e2781]
                    exact wq_i2b_b _
                  refine wp_of e168 c168_100 (xs_B (pc' := 101) w2729 g2771 (by decide) sh_43 (by decide) (ty_43 _) (by omega) (by omega) ⟨by omega, by omega⟩ (by omega) (by omega) rfl (fun H2783 e2784 w2785 => ?_))
                  have f2786 := f2733.put' e2784 g2771 rfl
                  have f2787 := f2730.put' e2784 g2771 rfl
                  refine wp_of e168 c168_101 (rw_aload_n (pc' := 102) (v := .ref r0) rfl rfl rfl ?_)
                  refine wp_of e168 c168_102 (rw_dup (pc' := 103) rfl rfl ?_)
                  have k2788 : H2783 r0 6 = H2728 r0 6 := (wq_u_t e2784 g2771 g0 rfl 6)
                  refine wp_of e168 c168_103 (xg_I (pc' := 106) lf_9_330 w2785 g0 sh_42 (by decide) (by decide) ty_42_6 rfl rfl (fun b2789 b2790 => ?_))
                  refine wp_of e168 c168_106 (rw_iconst (pc' := 107) rfl ?_)
                  refine wp_of e168 c168_107 (rw_iadd (pc' := 108) rfl ?_)
                  refine wp_of e168 c168_108 (xp_I (pc' := 111) lf_9_330 w2785 g0 sh_42 (by decide) (by decide) ty_42_6 rfl rfl (by omega) (by omega) ⟨by omega, by omega⟩ rfl (fun H2791 e2792 w2793 => ?_))
                  have f2794 := f2786.put' e2792 g0 rfl
                  have f2795 := f2787.put' e2792 g0 rfl
                  have k2796 : H2791 r0 6 = (H2783 r0 6) + 1 := wq_u_s e2792
                  refine wp_of e168 c168_111 (rw_iinc (pc' := 114) (z := v2727) (L' := [(6, vI (v2727 + 1)), (7, vI a4), (0, .ref r0), (1, vI a1), (2, vI a2), (3, vI a3), (4, vI a4), (5, vI a5)]) rfl rfl rfl rfl ?_)
                  refine wp_of e168 c168_114 (rw_goto (p1 := 23) (by decide) ?_)
                  exact wp_lc (ks := [6, 7, 0, 1, 2, 3, 4, 5]) (wl_c rfl (wl_c rfl (wl_c rfl (wl_c rfl (wl_c rfl (wl_c rfl (wl_c rfl wl_n))))))) rfl (by decide) (ih2726 _ (by omega) (v2727 + 1) H2791 w2793 f2795 ⟨by omega, by omega⟩ rfl)
              · refine wp_of e168 c168_58 (rw_iload_n (pc' := 59) (z := a3) rfl rfl ?_)
                refine wp_of e168 c168_59 (rw_goto (p1 := 76) (by decide) ?_)
                refine wp_of e168 c168_76 (rw_istore (pc' := 78) (z := a3) (L' := [(7, vI a3), (6, vI v2727), (0, .ref r0), (1, vI a1), (2, vI a2), (3, vI a3), (4, vI a4), (5, vI a5)]) rfl rfl rfl ?_)
                refine wp_of e168 c168_78 (rw_aload_n (pc' := 79) (v := .ref r0) rfl rfl rfl ?_)
                refine wp_of e168 c168_79 (xg_R (pc' := 82) lf_9_13 w2729 g0 sh_42 (by decide) (by decide) ty_42_5 rfl rfl (fun r2797 q2798 g2799 => ?_))
                refine wp_of e168 c168_82 (rw_aload_n (pc' := 83) (v := .ref r0) rfl rfl rfl ?_)
                refine wp_of e168 c168_83 (xg_I (pc' := 86) lf_9_330 w2729 g0 sh_42 (by decide) (by decide) ty_42_6 rfl rfl (fun b2800 b2801 => ?_))
                refine wp_of e168 c168_86 (rw_iload (pc' := 88) (z := a3) rfl rfl ?_)
                refine wp_of e168 c168_88 (rw_bipush (pc' := 90) (z := 24) rfl (by decide) ?_)
                refine wp_of e168 c168_90 (rw_bipush (pc' := 92) (z := 8) rfl (by decide) ?_)
                refine wp_of e168 c168_92 (rw_iload (pc' := 94) (z := v2727) rfl rfl ?_)
                refine wp_of e168 c168_94 (rw_iconst (pc' := 95) rfl ?_)
                refine wp_of e168 c168_95 (rw_irem (pc' := 96) rfl ⟨by omega, by omega⟩ (by omega) ?_)
                obtain ⟨v2802, e2803⟩ : ∃ x : Int, x = wq_rem v2727 4 := ⟨_, rfl⟩
                rw [← e2803]
                have b2804 : 0 ≤ v2802 ∧ v2802 < 4 := by
                  rw [e2803]
                  rw [wq_rem_e ⟨by omega, by omega⟩ ⟨by omega, by omega⟩]; exact ⟨Int.emod_nonneg _ (by omega), Int.emod_lt_of_pos _ (by omega)⟩
                refine wp_of e168 c168_96 (rw_imul (pc' := 97) rfl ?_)
                refine wp_of e168 c168_97 (rw_isub (pc' := 98) rfl ?_)
                refine wp_of e168 c168_98 (rw_ishr (pc' := 99) rfl ?_)
                obtain ⟨v2805, e2806⟩ : ∃ x : Int, x = wq_shr a3 (24 - (8 * v2802)) := ⟨_, rfl⟩
                rw [← e2806]
                have b2807 : -2147483648 ≤ v2805 ∧ v2805 ≤ 2147483647 := by
                  rw [e2806]
                  exact wI_shr _ _
                refine wp_of e168 c168_99 (rw_i2b (pc' := 100) rfl ?_)
                obtain ⟨v2808, e2809⟩ : ∃ x : Int, x = wq_i2b v2805 := ⟨_, rfl⟩
                rw [← e2809]
                have b2810 : -128 ≤ v2808 ∧ v2808 ≤ 127 := by
                  rw [e2809]
                  exact wq_i2b_b _
                refine wp_of e168 c168_100 (xs_B (pc' := 101) w2729 g2799 (by decide) sh_43 (by decide) (ty_43 _) (by omega) (by omega) ⟨by omega, by omega⟩ (by omega) (by omega) rfl (fun H2811 e2812 w2813 => ?_))
                have f2814 := f2733.put' e2812 g2799 rfl
                have f2815 := f2730.put' e2812 g2799 rfl
                refine wp_of e168 c168_101 (rw_aload_n (pc' := 102) (v := .ref r0) rfl rfl rfl ?_)
                refine wp_of e168 c168_102 (rw_dup (pc' := 103) rfl rfl ?_)
                have k2816 : H2811 r0 6 = H2728 r0 6 := (wq_u_t e2812 g2799 g0 rfl 6)
                refine wp_of e168 c168_103 (xg_I (pc' := 106) lf_9_330 w2813 g0 sh_42 (by decide) (by decide) ty_42_6 rfl rfl (fun b2817 b2818 => ?_))
                refine wp_of e168 c168_106 (rw_iconst (pc' := 107) rfl ?_)
                refine wp_of e168 c168_107 (rw_iadd (pc' := 108) rfl ?_)
                refine wp_of e168 c168_108 (xp_I (pc' := 111) lf_9_330 w2813 g0 sh_42 (by decide) (by decide) ty_42_6 rfl rfl (by omega) (by omega) ⟨by omega, by omega⟩ rfl (fun H2819 e2820 w2821 => ?_))
                have f2822 := f2814.put' e2820 g0 rfl
                have f2823 := f2815.put' e2820 g0 rfl
                have k2824 : H2819 r0 6 = (H2811 r0 6) + 1 := wq_u_s e2820
                refine wp_of e168 c168_111 (rw_iinc (pc' := 114) (z := v2727) (L' := [(6, vI (v2727 + 1)), (7, vI a3), (0, .ref r0), (1, vI a1), (2, vI a2), (3, vI a3), (4, vI a4), (5, vI a5)]) rfl rfl rfl rfl ?_)
                refine wp_of e168 c168_114 (rw_goto (p1 := 23) (by decide) ?_)
                exact wp_lc (ks := [6, 7, 0, 1, 2, 3, 4, 5]) (wl_c rfl (wl_c rfl (wl_c rfl (wl_c rfl (wl_c rfl (wl_c rfl (wl_c rfl wl_n))))))) rfl (by decide) (ih2726 _ (by omega) (v2727 + 1) H2819 w2821 f2823 ⟨by omega, by omega⟩ rfl)
            · refine wp_of e168 c168_47 (rw_iload_n (pc' := 48) (z := a2) rfl rfl ?_)
              refine wp_of e168 c168_48 (rw_goto (p1 := 76) (by decide) ?_)
              refine wp_of e168 c168_76 (rw_istore (pc' := 78) (z := a2) (L' := [(7, vI a2), (6, vI v2727), (0, .ref r0), (1, vI a1), (2, vI a2), (3, vI a3), (4, vI a4), (5, vI a5)]) rfl rfl rfl ?_)
              refine wp_of e168 c168_78 (rw_aload_n (pc' := 79) (v := .ref r0) rfl rfl rfl ?_)
              refine wp_of e168 c168_79 (xg_R (pc' := 82) lf_9_13 w2729 g0 sh_42 (by decide) (by decide) ty_42_5 rfl rfl (fun r2825 q2826 g2827 => ?_))
              refine wp_of e168 c168_82 (rw_aload_n (pc' := 83) (v := .ref r0) rfl rfl rfl ?_)
              refine wp_of e168 c168_83 (xg_I (pc' := 86) lf_9_330 w2729 g0 sh_42 (by decide) (by decide) ty_42_6 rfl rfl (fun b2828 b2829 => ?_))
              refine wp_of e168 c168_86 (rw_iload (pc' := 88) (z := a2) rfl rfl ?_)
              refine wp_of e168 c168_88 (rw_bipush (pc' := 90) (z := 24) rfl (by decide) ?_)
              refine wp_of e168 c168_90 (rw_bipush (pc' := 92) (z := 8) rfl (by decide) ?_)
              refine wp_of e168 c168_92 (rw_iload (pc' := 94) (z := v2727) rfl rfl ?_)
              refine wp_of e168 c168_94 (rw_iconst (pc' := 95) rfl ?_)
              refine wp_of e168 c168_95 (rw_irem (pc' := 96) rfl ⟨by omega, by omega⟩ (by omega) ?_)
              obtain ⟨v2830, e2831⟩ : ∃ x : Int, x = wq_rem v2727 4 := ⟨_, rfl⟩
              rw [← e2831]
              have b2832 : 0 ≤ v2830 ∧ v2830 < 4 := by
                rw [e2831]
                rw [wq_rem_e ⟨by omega, by omega⟩ ⟨by omega, by omega⟩]; exact ⟨Int.emod_nonneg _ (by omega), Int.emod_lt_of_pos _ (by omega)⟩
              refine wp_of e168 c168_96 (rw_imul (pc' := 97) rfl ?_)
              refine wp_of e168 c168_97 (rw_isub (pc' := 98) rfl ?_)
              refine wp_of e168 c168_98 (rw_ishr (pc' := 99) rfl ?_)
              obtain ⟨v2833, e2834⟩ : ∃ x : Int, x = wq_shr a2 (24 - (8 * v2830)) := ⟨_, rfl⟩
              rw [← e2834]
              have b2835 : -2147483648 ≤ v2833 ∧ v2833 ≤ 2147483647 := by
                rw [e2834]
                exact wI_shr _ _
              refine wp_of e168 c168_99 (rw_i2b (pc' := 100) rfl ?_)
              obtain ⟨v2836, e2837⟩ : ∃ x : Int, x = wq_i2b v2833 := ⟨_, rfl⟩
              rw [← e2837]
              have b2838 : -128 ≤ v2836 ∧ v2836 ≤ 127 := by
                rw [e2837]
                exact wq_i2b_b _
              refine wp_of e168 c168_100 (xs_B (pc' := 101) w2729 g2827 (by decide) sh_43 (by decide) (ty_43 _) (by omega) (by omega) ⟨by omega, by omega⟩ (by omega) (by omega) rfl (fun H2839 e2840 w2841 => ?_))
              have f2842 := f2733.put' e2840 g2827 rfl
              have f2843 := f2730.put' e2840 g2827 rfl
              refine wp_of e168 c168_101 (rw_aload_n (pc' := 102) (v := .ref r0) rfl rfl rfl ?_)
              refine wp_of e168 c168_102 (rw_dup (pc' := 103) rfl rfl ?_)
              have k2844 : H2839 r0 6 = H2728 r0 6 := (wq_u_t e2840 g2827 g0 rfl 6)
              refine wp_of e168 c168_103 (xg_I (pc' := 106) lf_9_330 w2841 g0 sh_42 (by decide) (by decide) ty_42_6 rfl rfl (fun b2845 b2846 => ?_))
              refine wp_of e168 c168_106 (rw_iconst (pc' := 107) rfl ?_)
              refine wp_of e168 c168_107 (rw_iadd (pc' := 108) rfl ?_)
              refine wp_of e168 c168_108 (xp_I (pc' := 111) lf_9_330 w2841 g0 sh_42 (by decide) (by decide) ty_42_6 rfl rfl (by omega) (by omega) ⟨by omega, by omega⟩ rfl (fun H2847 e2848 w2849 => ?_))
              have f2850 := f2842.put' e2848 g0 rfl
              have f2851 := f2843.put' e2848 g0 rfl
              have k2852 : H2847 r0 6 = (H2839 r0 6) + 1 := wq_u_s e2848
              refine wp_of e168 c168_111 (rw_iinc (pc' := 114) (z := v2727) (L' := [(6, vI (v2727 + 1)), (7, vI a2), (0, .ref r0), (1, vI a1), (2, vI a2), (3, vI a3), (4, vI a4), (5, vI a5)]) rfl rfl rfl rfl ?_)
              refine wp_of e168 c168_114 (rw_goto (p1 := 23) (by decide) ?_)
              exact wp_lc (ks := [6, 7, 0, 1, 2, 3, 4, 5]) (wl_c rfl (wl_c rfl (wl_c rfl (wl_c rfl (wl_c rfl (wl_c rfl (wl_c rfl wl_n))))))) rfl (by decide) (ih2726 _ (by omega) (v2727 + 1) H2847 w2849 f2851 ⟨by omega, by omega⟩ rfl)
          · refine wp_of e168 c168_36 (rw_iload_n (pc' := 37) (z := a1) rfl rfl ?_)
            refine wp_of e168 c168_37 (rw_goto (p1 := 76) (by decide) ?_)
            refine wp_of e168 c168_76 (rw_istore (pc' := 78) (z := a1) (L' := [(7, vI a1), (6, vI v2727), (0, .ref r0), (1, vI a1), (2, vI a2), (3, vI a3), (4, vI a4), (5, vI a5)]) rfl rfl rfl ?_)
            refine wp_of e168 c168_78 (rw_aload_n (pc' := 79) (v := .ref r0) rfl rfl rfl ?_)
            refine wp_of e168 c168_79 (xg_R (pc' := 82) lf_9_13 w2729 g0 sh_42 (by decide) (by decide) ty_42_5 rfl rfl (fun r2853 q2854 g2855 => ?_))
            refine wp_of e168 c168_82 (rw_aload_n (pc' := 83) (v := .ref r0) rfl rfl rfl ?_)
            refine wp_of e168 c168_83 (xg_I (pc' := 86) lf_9_330 w2729 g0 sh_42 (by decide) (by decide) ty_42_6 rfl rfl (fun b2856 b2857 => ?_))
            refine wp_of e168 c168_86 (rw_iload (pc' := 88) (z := a1) rfl rfl ?_)
            refine wp_of e168 c168_88 (rw_bipush (pc' := 90) (z := 24) rfl (by decide) ?_)
            refine wp_of e168 c168_90 (rw_bipush (pc' := 92) (z := 8) rfl (by decide) ?_)
            refine wp_of e168 c168_92 (rw_iload (pc' := 94) (z := v2727) rfl rfl ?_)
            refine wp_of e168 c168_94 (rw_iconst (pc' := 95) rfl ?_)
            refine wp_of e168 c168_95 (rw_irem (pc' := 96) rfl ⟨by omega, by omega⟩ (by omega) ?_)
            obtain ⟨v2858, e2859⟩ : ∃ x : Int, x = wq_rem v2727 4 := ⟨_, rfl⟩
            rw [← e2859]
            have b2860 : 0 ≤ v2858 ∧ v2858 < 4 := by
              rw [e2859]
              rw [wq_rem_e ⟨by omega, by omega⟩ ⟨by omega, by omega⟩]; exact ⟨Int.emod_nonneg _ (by omega), Int.emod_lt_of_pos _ (by omega)⟩
            refine wp_of e168 c168_96 (rw_imul (pc' := 97) rfl ?_)
            refine wp_of e168 c168_97 (rw_isub (pc' := 98) rfl ?_)
            refine wp_of e168 c168_98 (rw_ishr (pc' := 99) rfl ?_)
            obtain ⟨v2861, e2862⟩ : ∃ x : Int, x = wq_shr a1 (24 - (8 * v2858)) := ⟨_, rfl⟩
            rw [← e2862]
            have b2863 : -2147483648 ≤ v2861 ∧ v2861 ≤ 2147483647 := by
              rw [e2862]
              exact wI_shr _ _
            refine wp_of e168 c168_99 (rw_i2b (pc' := 100) rfl ?_)
            obtain ⟨v2864, e2865⟩ : ∃ x : Int, x = wq_i2b v2861 := ⟨_, rfl⟩
            rw [← e2865]
            have b2866 : -128 ≤ v2864 ∧ v2864 ≤ 127 := by
              rw [e2865]
              exact wq_i2b_b _
            refine wp_of e168 c168_100 (xs_B (pc' := 101) w2729 g2855 (by decide) sh_43 (by decide) (ty_43 _) (by omega) (by omega) ⟨by omega, by omega⟩ (by omega) (by omega) rfl (fun H2867 e2868 w2869 => ?_))
            have f2870 := f2733.put' e2868 g2855 rfl
            have f2871 := f2730.put' e2868 g2855 rfl
            refine wp_of e168 c168_101 (rw_aload_n (pc' := 102) (v := .ref r0) rfl rfl rfl ?_)
            refine wp_of e168 c168_102 (rw_dup (pc' := 103) rfl rfl ?_)
            have k2872 : H2867 r0 6 = H2728 r0 6 := (wq_u_t e2868 g2855 g0 rfl 6)
            refine wp_of e168 c168_103 (xg_I (pc' := 106) lf_9_330 w2869 g0 sh_42 (by decide) (by decide) ty_42_6 rfl rfl (fun b2873 b2874 => ?_))
            refine wp_of e168 c168_106 (rw_iconst (pc' := 107) rfl ?_)
            refine wp_of e168 c168_107 (rw_iadd (pc' := 108) rfl ?_)
            refine wp_of e168 c168_108 (xp_I (pc' := 111) lf_9_330 w2869 g0 sh_42 (by decide) (by decide) ty_42_6 rfl rfl (by omega) (by omega) ⟨by omega, by omega⟩ rfl (fun H2875 e2876 w2877 => ?_))
            have f2878 := f2870.put' e2876 g0 rfl
            have f2879 := f2871.put' e2876 g0 rfl
            have k2880 : H2875 r0 6 = (H2867 r0 6) + 1 := wq_u_s e2876
            refine wp_of e168 c168_111 (rw_iinc (pc' := 114) (z := v2727) (L' := [(6, vI (v2727 + 1)), (7, vI a1), (0, .ref r0), (1, vI a1), (2, vI a2), (3, vI a3), (4, vI a4), (5, vI a5)]) rfl rfl rfl rfl ?_)
            refine wp_of e168 c168_114 (rw_goto (p1 := 23) (by decide) ?_)
            exact wp_lc (ks := [6, 7, 0, 1, 2, 3, 4, 5]) (wl_c rfl (wl_c rfl (wl_c rfl (wl_c rfl (wl_c rfl (wl_c rfl (wl_c rfl wl_n))))))) rfl (by decide) (ih2726 _ (by omega) (v2727 + 1) H2875 w2877 f2879 ⟨by omega, by omega⟩ rfl)
    exact wp_lc (ks := [6, 0, 1, 2, 3, 4, 5]) (wl_c rfl (wl_c rfl (wl_c rfl (wl_c rfl (wl_c rfl (wl_c rfl (wl_c rfl wl_n))))))) rfl (by decide) (lp2724 _ 0 H1981 w1983 wfr.rf ⟨by omega, by omega⟩ rfl)
  · refine wp_of e168 c168_18 (rw_iconst (pc' := 19) rfl ?_)
    exact wp_ireturn e168 c168_19 rfl ⟨rfl, w1983, f1984, -1, rfl, ⟨by omega, by omega⟩⟩
