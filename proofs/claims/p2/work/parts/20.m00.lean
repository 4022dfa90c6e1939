/-! methods (own work, written by wip/gen2/sx.py) -/
/-! StrikeAwake.putOnTape(I)V -/
theorem e10 : wq_en 10 = some (0, 3, false, none) := rfl
theorem c10_0 : mc_cd 10 0 = some (.bipush 24, 2) := by decide +kernel
theorem c10_2 : mc_cd 10 2 = some (.istore_n 2, 1) := by decide +kernel
theorem c10_3 : mc_cd 10 3 = some (.iload_n 2, 1) := by decide +kernel
theorem c10_4 : mc_cd 10 4 = some (.ifCond .lt 42, 3) := by decide +kernel
theorem c10_7 : mc_cd 10 7 = some (.aload_n 0, 1) := by decide +kernel
theorem c10_8 : mc_cd 10 8 = some (.getfield 62, 3) := by decide +kernel
theorem c10_11 : mc_cd 10 11 = some (.sipush 900, 3) := by decide +kernel
theorem c10_14 : mc_cd 10 14 = some (.if_icmp .ge 32, 3) := by decide +kernel
theorem c10_17 : mc_cd 10 17 = some (.aload_n 0, 1) := by decide +kernel
theorem c10_18 : mc_cd 10 18 = some (.getfield 9, 3) := by decide +kernel
theorem c10_21 : mc_cd 10 21 = some (.aload_n 0, 1) := by decide +kernel
theorem c10_22 : mc_cd 10 22 = some (.getfield 62, 3) := by decide +kernel
theorem c10_25 : mc_cd 10 25 = some (.iload_n 1, 1) := by decide +kernel
theorem c10_26 : mc_cd 10 26 = some (.iload_n 2, 1) := by decide +kernel
theorem c10_27 : mc_cd 10 27 = some (.ishr, 1) := by decide +kernel
theorem c10_28 : mc_cd 10 28 = some (.i2b, 1) := by decide +kernel
theorem c10_29 : mc_cd 10 29 = some (.bastore, 1) := by decide +kernel
theorem c10_30 : mc_cd 10 30 = some (.aload_n 0, 1) := by decide +kernel
theorem c10_31 : mc_cd 10 31 = some (.dup, 1) := by decide +kernel
theorem c10_32 : mc_cd 10 32 = some (.getfield 62, 3) := by decide +kernel
theorem c10_35 : mc_cd 10 35 = some (.iconst 1, 1) := by decide +kernel
theorem c10_36 : mc_cd 10 36 = some (.iadd, 1) := by decide +kernel
theorem c10_37 : mc_cd 10 37 = some (.putfield 62, 3) := by decide +kernel
theorem c10_40 : mc_cd 10 40 = some (.iinc 2 (-8), 3) := by decide +kernel
theorem c10_43 : mc_cd 10 43 = some (.goto (-40), 3) := by decide +kernel
theorem c10_46 : mc_cd 10 46 = some (.return_, 1) := by decide +kernel
abbrev q_10 (r0 : Nat) (a1 : Int) (T : wq_T) (H : wq_H) : Option Value → wq_T → wq_H → Prop := fun r T' H' => T = T' ∧ WT T H' ∧ wfr [(1, 9), (2, 999)] T H H' ∧ none = r
set_option maxHeartbeats 4000000 in
theorem s_10 {kt : Nat → Option mc_E} {T : wq_T} {H : wq_H} {r0 : Nat} {a1 : Int} (hW : WT T H) (g0 : T.2.2.2 r0 = some 1) (i1 : (-2147483648) ≤ a1 ∧ a1 ≤ 2147483647) : wpc kt 1 10 [.ref r0, vI a1] T H (q_10 r0 a1 T H) := by
  refine wp_enter e10 (Nat.le_of_ble_eq_true rfl) rfl ?_
  have f0 : wfr [(1, 9), (2, 999)] T H H := wfr.rf
  show wp _ _ 10 0 [(0, .ref r0), (1, vI a1)] [] _ H _
  refine wp_of e10 c10_0 (rw_bipush (pc' := 2) (z := 24) rfl (by decide) ?_)
  refine wp_of e10 c10_2 (rw_istore_n (pc' := 3) (z := 24) (L' := [(2, vI 24), (0, .ref r0), (1, vI a1)]) rfl rfl rfl ?_)
  have lp277 : ∀ (n278 : Nat) (v280 : Int) (H281 : wq_H), WT T H281 → wfr [(1, 9), (2, 999)] T H H281 → ((-8) ≤ v280 ∧ v280 ≤ 24) → (v280 - (-8)).toNat = n278 → wp kt 0 10 3 [(2, vI v280), (0, .ref r0), (1, vI a1)] [] T H281 (q_10 r0 a1 T H) := by
    intro n278
    induction n278 using Nat.strongRecOn with
    | _ n278 ih279 =>
      intro v280 H281 w282 f283 b284 m285
      have f286 := f0.tr f283 rfl
      refine wp_of e10 c10_3 (rw_iload_n (pc' := 4) (z := v280) rfl rfl ?_)
      refine wp_of e10 c10_4 (rw_if_lt (p1 := 46) (p2 := 7) (by decide) rfl ⟨by omega, by omega⟩ (fun c287 => ?_) (fun c287 => ?_))
      · exact wp_return e10 c10_46 rfl ⟨rfl, w282, f286, rfl⟩
      · refine wp_of e10 c10_7 (rw_aload_n (pc' := 8) (v := .ref r0) rfl rfl rfl ?_)
        refine wp_of e10 c10_8 (xg_I (pc' := 11) lf_0_62 w282 g0 sh_1 (by decide) (by decide) ty_1_9 rfl rfl (fun b288 b289 => ?_))
        refine wp_of e10 c10_11 (rw_sipush (pc' := 14) (z := 900) rfl (by decide) ?_)
        refine wp_of e10 c10_14 (rw_icmp_ge (p1 := 46) (p2 := 17) (by decide) rfl ⟨by omega, by omega⟩ ⟨by omega, by omega⟩ (fun c290 => ?_) (fun c290 => ?_))
        · exact wp_return e10 c10_46 rfl ⟨rfl, w282, f286, rfl⟩
        · refine wp_of e10 c10_17 (rw_aload_n (pc' := 18) (v := .ref r0) rfl rfl rfl ?_)
          refine wp_of e10 c10_18 (xg_R (pc' := 21) lf_0_9 w282 g0 sh_1 (by decide) (by decide) ty_1_0 rfl rfl (fun r291 q292 g293 => ?_))
          refine wp_of e10 c10_21 (rw_aload_n (pc' := 22) (v := .ref r0) rfl rfl rfl ?_)
          refine wp_of e10 c10_22 (xg_I (pc' := 25) lf_0_62 w282 g0 sh_1 (by decide) (by decide) ty_1_9 rfl rfl (fun b294 b295 => ?_))
          refine wp_of e10 c10_25 (rw_iload_n (pc' := 26) (z := a1) rfl rfl ?_)
          refine wp_of e10 c10_26 (rw_iload_n (pc' := 27) (z := v280) rfl rfl ?_)
          refine wp_of e10 c10_27 (rw_ishr (pc' := 28) rfl ?_)
          obtain ⟨v296, e297⟩ : ∃ x : Int, x = wq_shr a1 v280 := ⟨_, rfl⟩
          rw [← e297]
          have b298 : -2147483648 ≤ v296 ∧ v296 ≤ 2147483647 := by
            rw [e297]
            exact wI_shr _ _
          refine wp_of e10 c10_28 (rw_i2b (pc' := 29) rfl ?_)
          obtain ⟨v299, e300⟩ : ∃ x : Int, x = wq_i2b v296 := ⟨_, rfl⟩
          rw [← e300]
          have b301 : -128 ≤ v299 ∧ v299 ≤ 127 := by
            rw [e300]
            exact wq_i2b_b _
          refine wp_of e10 c10_29 (xs_B (pc' := 30) w282 g293 (by decide) sh_2 (by decide) (ty_2 _) (by omega) (by omega) ⟨by omega, by omega⟩ (by omega) (by omega) rfl (fun H302 e303 w304 => ?_))
          have f305 := f286.put' e303 g293 rfl
          have f306 := f283.put' e303 g293 rfl
          refine wp_of e10 c10_30 (rw_aload_n (pc' := 31) (v := .ref r0) rfl rfl rfl ?_)
          refine wp_of e10 c10_31 (rw_dup (pc' := 32) rfl rfl ?_)
          have k307 : H302 r0 9 = H281 r0 9 := (wq_u_t e303 g293 g0 rfl 9)
          refine wp_of e10 c10_32 (xg_I (pc' := 35) lf_0_62 w304 g0 sh_1 (by decide) (by decide) ty_1_9 rfl rfl (fun b308 b309 => ?_))
          refine wp_of e10 c10_35 (rw_iconst (pc' := 36) rfl ?_)
          refine wp_of e10 c10_36 (rw_iadd (pc' := 37) rfl ?_)
          refine wp_of e10 c10_37 (xp_I (pc' := 40) lf_0_62 w304 g0 sh_1 (by decide) (by decide) ty_1_9 rfl rfl (by omega) (by omega) ⟨by omega, by omega⟩ rfl (fun H310 e311 w312 => ?_))
          have f313 := f305.put' e311 g0 rfl
          have f314 := f306.put' e311 g0 rfl
          have k315 : H310 r0 9 = (H302 r0 9) + 1 := wq_u_s e311
          refine wp_of e10 c10_40 (rw_iinc (pc' := 43) (z := v280) (L' := [(2, vI (v280 + (-8))), (0, .ref r0), (1, vI a1)]) rfl rfl rfl rfl ?_)
          refine wp_of e10 c10_43 (rw_goto (p1 := 3) (by decide) ?_)
          exact wp_lc (ks := [2, 0, 1]) (wl_c rfl (wl_c rfl (wl_c rfl wl_n))) rfl (by decide) (ih279 _ (by omega) (v280 + (-8)) H310 w312 f314 ⟨by omega, by omega⟩ rfl)
  exact wp_lc (ks := [2, 0, 1]) (wl_c rfl (wl_c rfl (wl_c rfl wl_n))) rfl (by decide) (lp277 _ 24 H hW wfr.rf ⟨by omega, by omega⟩ rfl)
/-! StrikeAwake.feed(IIIII)I -/
theorem e9 : wq_en 9 = some (0, 6, false, some FieldType.int) := rfl
theorem c9_0 : mc_cd 9 0 = some (.aload_n 0, 1) := by decide +kernel
theorem c9_1 : mc_cd 9 1 = some (.getfield 62, 3) := by decide +kernel
theorem c9_4 : mc_cd 9 4 = some (.sipush 880, 3) := by decide +kernel
theorem c9_7 : mc_cd 9 7 = some (.if_icmp .le 5, 3) := by decide +kernel
theorem c9_10 : mc_cd 9 10 = some (.iconst (-1), 1) := by decide +kernel
theorem c9_11 : mc_cd 9 11 = some (.ireturn, 1) := by decide +kernel
theorem c9_12 : mc_cd 9 12 = some (.aload_n 0, 1) := by decide +kernel
theorem c9_13 : mc_cd 9 13 = some (.iload_n 1, 1) := by decide +kernel
theorem c9_14 : mc_cd 9 14 = some (.invokevirtual 66, 3) := by decide +kernel
theorem c9_17 : mc_cd 9 17 = some (.aload_n 0, 1) := by decide +kernel
theorem c9_18 : mc_cd 9 18 = some (.iload_n 2, 1) := by decide +kernel
theorem c9_19 : mc_cd 9 19 = some (.invokevirtual 66, 3) := by decide +kernel
theorem c9_22 : mc_cd 9 22 = some (.aload_n 0, 1) := by decide +kernel
theorem c9_23 : mc_cd 9 23 = some (.iload_n 3, 1) := by decide +kernel
theorem c9_24 : mc_cd 9 24 = some (.invokevirtual 66, 3) := by decide +kernel
theorem c9_27 : mc_cd 9 27 = some (.aload_n 0, 1) := by decide +kernel
theorem c9_28 : mc_cd 9 28 = some (.iload 4, 2) := by decide +kernel
theorem c9_30 : mc_cd 9 30 = some (.invokevirtual 66, 3) := by decide +kernel
theorem c9_33 : mc_cd 9 33 = some (.aload_n 0, 1) := by decide +kernel
theorem c9_34 : mc_cd 9 34 = some (.iload 5, 2) := by decide +kernel
theorem c9_36 : mc_cd 9 36 = some (.invokevirtual 66, 3) := by decide +kernel
theorem c9_39 : mc_cd 9 39 = some (.aload_n 0, 1) := by decide +kernel
theorem c9_40 : mc_cd 9 40 = some (.getfield 62, 3) := by decide +kernel
theorem c9_43 : mc_cd 9 43 = some (.ireturn, 1) := by decide +kernel
abbrev q_9 (r0 : Nat) (a1 : Int) (a2 : Int) (a3 : Int) (a4 : Int) (a5 : Int) (T : wq_T) (H : wq_H) : Option Value → wq_T → wq_H → Prop := fun r T' H' => T = T' ∧ WT T H' ∧ wfr [(1, 9), (2, 999)] T H H' ∧ ∃ z : Int, some (vI z) = r ∧ ((-2147483648) ≤ z ∧ z ≤ 2147483647)
set_option maxHeartbeats 4000000 in
theorem s_9 {kt : Nat → Option mc_E} {T : wq_T} {H : wq_H} {r0 : Nat} {a1 : Int} {a2 : Int} {a3 : Int} {a4 : Int} {a5 : Int} (hW : WT T H) (g0 : T.2.2.2 r0 = some 1) (i1 : (-2147483648) ≤ a1 ∧ a1 ≤ 2147483647) (i2 : (-2147483648) ≤ a2 ∧ a2 ≤ 2147483647) (i3 : (-2147483648) ≤ a3 ∧ a3 ≤ 2147483647) (i4 : (-2147483648) ≤ a4 ∧ a4 ≤ 2147483647) (i5 : (-2147483648) ≤ a5 ∧ a5 ≤ 2147483647) : wpc kt 2 9 [.ref r0, vI a1, vI a2, vI a3, vI a4, vI a5] T H (q_9 r0 a1 a2 a3 a4 a5 T H) := by
  refine wp_enter e9 (Nat.le_of_ble_eq_true rfl) rfl ?_
  have f0 : wfr [(1, 9), (2, 999)] T H H := wfr.rf
  show wp _ _ 9 0 [(0, .ref r0), (1, vI a1), (2, vI a2), (3, vI a3), (4, vI a4), (5, vI a5)] [] _ H _
  refine wp_of e9 c9_0 (rw_aload_n (pc' := 1) (v := .ref r0) rfl rfl rfl ?_)
  refine wp_of e9 c9_1 (xg_I (pc' := 4) lf_0_62 hW g0 sh_1 (by decide) (by decide) ty_1_9 rfl rfl (fun b366 b367 => ?_))
  refine wp_of e9 c9_4 (rw_sipush (pc' := 7) (z := 880) rfl (by decide) ?_)
  refine wp_of e9 c9_7 (rw_icmp_le (p1 := 12) (p2 := 10) (by decide) rfl ⟨by omega, by omega⟩ ⟨by omega, by omega⟩ (fun c368 => ?_) (fun c368 => ?_))
  · refine wp_of e9 c9_12 (rw_aload_n (pc' := 13) (v := .ref r0) rfl rfl rfl ?_)
    refine wp_of e9 c9_13 (rw_iload_n (pc' := 14) (z := a1) rfl rfl ?_)
    refine wp_of e9 c9_14 (xc_V (pc' := 17) (r := r0) (as := [vI a1]) (st := []) (lm_0_66) rfl rfl (Nat.le_of_ble_eq_true rfl) hW g0 sh_1 (by decide) rfl (by decide) (s_10 hW g0 ⟨by omega, by omega⟩) (fun R369 T370 H371 p372 => ?_))
    obtain ⟨e373, w375, f376, e374⟩ := p372
    subst e373
    subst e374
    have f377 := f0.tr f376 rfl
    show wp _ _ 9 17 [(0, .ref r0), (1, vI a1), (2, vI a2), (3, vI a3), (4, vI a4), (5, vI a5)] [] _ H371 _
    refine wp_of e9 c9_17 (rw_aload_n (pc' := 18) (v := .ref r0) rfl rfl rfl ?_)
    refine wp_of e9 c9_18 (rw_iload_n (pc' := 19) (z := a2) rfl rfl ?_)
    refine wp_of e9 c9_19 (xc_V (pc' := 22) (r := r0) (as := [vI a2]) (st := []) (lm_0_66) rfl rfl (Nat.le_of_ble_eq_true rfl) w375 g0 sh_1 (by decide) rfl (by decide) (s_10 w375 g0 ⟨by omega, by omega⟩) (fun R378 T379 H380 p381 => ?_))
    obtain ⟨e382, w384, f385, e383⟩ := p381
    subst e382
    subst e383
    have f386 := f377.tr f385 rfl
    show wp _ _ 9 22 [(0, .ref r0), (1, vI a1), (2, vI a2), (3, vI a3), (4, vI a4), (5, vI a5)] [] _ H380 _
    refine wp_of e9 c9_22 (rw_aload_n (pc' := 23) (v := .ref r0) rfl rfl rfl ?_)
    refine wp_of e9 c9_23 (rw_iload_n (pc' := 24) (z := a3) rfl rfl ?_)
    refine wp_of e9 c9_24 (xc_V (pc' := 27) (r := r0) (as := [vI a3]) (st := []) (lm_0_66) rfl rfl (Nat.le_of_ble_eq_true rfl) w384 g0 sh_1 (by decide) rfl (by decide) (s_10 w384 g0 ⟨by omega, by omega⟩) (fun R387 T388 H389 p390 => ?_))
    obtain ⟨e391, w393, f394, e392⟩ := p390
    subst e391
    subst e392
    have f395 := f386.tr f394 rfl
    show wp _ _ 9 27 [(0, .ref r0), (1, vI a1), (2, vI a2), (3, vI a3), (4, vI a4), (5, vI a5)] [] _ H389 _
    refine wp_of e9 c9_27 (rw_aload_n (pc' := 28) (v := .ref r0) rfl rfl rfl ?_)
    refine wp_of e9 c9_28 (rw_iload (pc' := 30) (z := a4) rfl rfl ?_)
    refine wp_of e9 c9_30 (xc_V (pc' := 33) (r := r0) (as := [vI a4]) (st := []) (lm_0_66) rfl rfl (Nat.le_of_ble_eq_true rfl) w393 g0 sh_1 (by decide) rfl (by decide) (s_10 w393 g0 ⟨by omega, by omega⟩) (fun R396 T397 H398 p399 => ?_))
    obtain ⟨e400, w402, f403, e401⟩ := p399
    subst e400
    subst e401
    have f404 := f395.tr f403 rfl
    show wp _ _ 9 33 [(0, .ref r0), (1, vI a1), (2, vI a2), (3, vI a3), (4, vI a4), (5, vI a5)] [] _ H398 _
    refine wp_of e9 c9_33 (rw_aload_n (pc' := 34) (v := .ref r0) rfl rfl rfl ?_)
    refine wp_of e9 c9_34 (rw_iload (pc' := 36) (z := a5) rfl rfl ?_)
    refine wp_of e9 c9_36 (xc_V (pc' := 39) (r := r0) (as := [vI a5]) (st := []) (lm_0_66) rfl rfl (Nat.le_of_ble_eq_true rfl) w402 g0 sh_1 (by decide) rfl (by decide) (s_10 w402 g0 ⟨by omega, by omega⟩) (fun R405 T406 H407 p408 => ?_))
    obtain ⟨e409, w411, f412, e410⟩ := p408
    subst e409
    subst e410
    have f413 := f404.tr f412 rfl
    show wp _ _ 9 39 [(0, .ref r0), (1, vI a1), (2, vI a2), (3, vI a3), (4, vI a4), (5, vI a5)] [] _ H407 _
    refine wp_of e9 c9_39 (rw_aload_n (pc' := 40) (v := .ref r0) rfl rfl rfl ?_)
    refine wp_of e9 c9_40 (xg_I (pc' := 43) lf_0_62 w411 g0 sh_1 (by decide) (by decide) ty_1_9 rfl rfl (fun b414 b415 => ?_))
    exact wp_ireturn e9 c9_43 rfl ⟨rfl, w411, f413, H407 r0 9, rfl, ⟨by omega, by omega⟩⟩
  · refine wp_of e9 c9_10 (rw_iconst (pc' := 11) rfl ?_)
    exact wp_ireturn e9 c9_11 rfl ⟨rfl, hW, f0, -1, rfl, ⟨by omega, by omega⟩⟩
/-! StrikeAwake.refuse(I)I -/
theorem e12 : wq_en 12 = some (0, 2, false, some FieldType.int) := rfl
theorem c12_0 : mc_cd 12 0 = some (.aload_n 0, 1) := by decide +kernel
theorem c12_1 : mc_cd 12 1 = some (.iload_n 1, 1) := by decide +kernel
theorem c12_2 : mc_cd 12 2 = some (.putfield 102, 3) := by decide +kernel
theorem c12_5 : mc_cd 12 5 = some (.iconst (-1), 1) := by decide +kernel
theorem c12_6 : mc_cd 12 6 = some (.ireturn, 1) := by decide +kernel
abbrev q_12 (r0 : Nat) (a1 : Int) (T : wq_T) (H : wq_H) : Option Value → wq_T → wq_H → Prop := fun r T' H' => T = T' ∧ WT T H' ∧ wfr [(1, 10)] T H H' ∧ ∃ z : Int, some (vI z) = r ∧ ((-2147483648) ≤ z ∧ z ≤ 2147483647)
set_option maxHeartbeats 4000000 in
theorem s_12 {kt : Nat → Option mc_E} {T : wq_T} {H : wq_H} {r0 : Nat} {a1 : Int} (hW : WT T H) (g0 : T.2.2.2 r0 = some 1) (i1 : (-2147483648) ≤ a1 ∧ a1 ≤ 2147483647) : wpc kt 1 12 [.ref r0, vI a1] T H (q_12 r0 a1 T H) := by
  refine wp_enter e12 (Nat.le_of_ble_eq_true rfl) rfl ?_
  have f0 : wfr [(1, 10)] T H H := wfr.rf
  show wp _ _ 12 0 [(0, .ref r0), (1, vI a1)] [] _ H _
  refine wp_of e12 c12_0 (rw_aload_n (pc' := 1) (v := .ref r0) rfl rfl rfl ?_)
  refine wp_of e12 c12_1 (rw_iload_n (pc' := 2) (z := a1) rfl rfl ?_)
  refine wp_of e12 c12_2 (xp_I (pc' := 5) lf_0_102 hW g0 sh_1 (by decide) (by decide) ty_1_10 rfl rfl (by omega) (by omega) ⟨by omega, by omega⟩ rfl (fun H421 e422 w423 => ?_))
  have f424 := f0.put' e422 g0 rfl
  have k425 : H421 r0 10 = a1 := wq_u_s e422
  refine wp_of e12 c12_5 (rw_iconst (pc' := 6) rfl ?_)
  exact wp_ireturn e12 c12_6 rfl ⟨rfl, w423, f424, -1, rfl, ⟨by omega, by omega⟩⟩
/-! StrikeAwake$Parish.clear()V -/
theorem e14 : wq_en 14 = some (7, 2, false, none) := rfl
theorem c14_0 : mc_cd 14 0 = some (.aload_n 0, 1) := by decide +kernel
theorem c14_1 : mc_cd 14 1 = some (.iconst 0, 1) := by decide +kernel
theorem c14_2 : mc_cd 14 2 = some (.putfield 41, 3) := by decide +kernel
theorem c14_5 : mc_cd 14 5 = some (.aload_n 0, 1) := by decide +kernel
theorem c14_6 : mc_cd 14 6 = some (.iconst 0, 1) := by decide +kernel
theorem c14_7 : mc_cd 14 7 = some (.putfield 44, 3) := by decide +kernel
theorem c14_10 : mc_cd 14 10 = some (.aload_n 0, 1) := by decide +kernel
theorem c14_11 : mc_cd 14 11 = some (.iconst 0, 1) := by decide +kernel
theorem c14_12 : mc_cd 14 12 = some (.putfield 47, 3) := by decide +kernel
theorem c14_15 : mc_cd 14 15 = some (.aload_n 0, 1) := by decide +kernel
theorem c14_16 : mc_cd 14 16 = some (.iconst 0, 1) := by decide +kernel
theorem c14_17 : mc_cd 14 17 = some (.putfield 50, 3) := by decide +kernel
theorem c14_20 : mc_cd 14 20 = some (.aload_n 0, 1) := by decide +kernel
theorem c14_21 : mc_cd 14 21 = some (.iconst 0, 1) := by decide +kernel
theorem c14_22 : mc_cd 14 22 = some (.putfield 53, 3) := by decide +kernel
theorem c14_25 : mc_cd 14 25 = some (.aload_n 0, 1) := by decide +kernel
theorem c14_26 : mc_cd 14 26 = some (.iconst 0, 1) := by decide +kernel
theorem c14_27 : mc_cd 14 27 = some (.putfield 56, 3) := by decide +kernel
theorem c14_30 : mc_cd 14 30 = some (.aload_n 0, 1) := by decide +kernel
theorem c14_31 : mc_cd 14 31 = some (.iconst 0, 1) := by decide +kernel
theorem c14_32 : mc_cd 14 32 = some (.putfield 59, 3) := by decide +kernel
theorem c14_35 : mc_cd 14 35 = some (.aload_n 0, 1) := by decide +kernel
theorem c14_36 : mc_cd 14 36 = some (.iconst 0, 1) := by decide +kernel
theorem c14_37 : mc_cd 14 37 = some (.putfield 62, 3) := by decide +kernel
theorem c14_40 : mc_cd 14 40 = some (.aload_n 0, 1) := by decide +kernel
theorem c14_41 : mc_cd 14 41 = some (.bipush (-2), 2) := by decide +kernel
theorem c14_43 : mc_cd 14 43 = some (.putfield 37, 3) := by decide +kernel
theorem c14_46 : mc_cd 14 46 = some (.aload_n 0, 1) := by decide +kernel
theorem c14_47 : mc_cd 14 47 = some (.iconst 0, 1) := by decide +kernel
theorem c14_48 : mc_cd 14 48 = some (.putfield 65, 3) := by decide +kernel
theorem c14_51 : mc_cd 14 51 = some (.aload_n 0, 1) := by decide +kernel
theorem c14_52 : mc_cd 14 52 = some (.iconst 0, 1) := by decide +kernel
theorem c14_53 : mc_cd 14 53 = some (.putfield 68, 3) := by decide +kernel
theorem c14_56 : mc_cd 14 56 = some (.aload_n 0, 1) := by decide +kernel
theorem c14_57 : mc_cd 14 57 = some (.lconst 0, 1) := by decide +kernel
theorem c14_58 : mc_cd 14 58 = some (.putfield 71, 3) := by decide +kernel
theorem c14_61 : mc_cd 14 61 = some (.iconst 0, 1) := by decide +kernel
theorem c14_62 : mc_cd 14 62 = some (.istore_n 1, 1) := by decide +kernel
theorem c14_63 : mc_cd 14 63 = some (.iload_n 1, 1) := by decide +kernel
theorem c14_64 : mc_cd 14 64 = some (.bipush 24, 2) := by decide +kernel
theorem c14_66 : mc_cd 14 66 = some (.if_icmp .ge 17, 3) := by decide +kernel
theorem c14_69 : mc_cd 14 69 = some (.aload_n 0, 1) := by decide +kernel
theorem c14_70 : mc_cd 14 70 = some (.getfield 17, 3) := by decide +kernel
theorem c14_73 : mc_cd 14 73 = some (.iload_n 1, 1) := by decide +kernel
theorem c14_74 : mc_cd 14 74 = some (.bipush (-2), 2) := by decide +kernel
theorem c14_76 : mc_cd 14 76 = some (.iastore, 1) := by decide +kernel
theorem c14_77 : mc_cd 14 77 = some (.iinc 1 1, 3) := by decide +kernel
theorem c14_80 : mc_cd 14 80 = some (.goto (-17), 3) := by decide +kernel
theorem c14_83 : mc_cd 14 83 = some (.return_, 1) := by decide +kernel
abbrev q_14 (r0 : Nat) (T : wq_T) (H : wq_H) : Option Value → wq_T → wq_H → Prop := fun r T' H' => T = T' ∧ WT T H' ∧ wfr [(27, 7), (27, 8), (27, 9), (27, 10), (27, 11), (27, 12), (27, 13), (27, 14), (27, 15), (27, 16), (27, 17), (27, 18), (29, 999)] T H H' ∧ none = r
set_option maxHeartbeats 4000000 in
theorem s_14 {kt : Nat → Option mc_E} {T : wq_T} {H : wq_H} {r0 : Nat} (hW : WT T H) (g0 : T.2.2.2 r0 = some 27) : wpc kt 1 14 [.ref r0] T H (q_14 r0 T H) := by
  refine wp_enter e14 (Nat.le_of_ble_eq_true rfl) rfl ?_
  have f0 : wfr [(27, 7), (27, 8), (27, 9), (27, 10), (27, 11), (27, 12), (27, 13), (27, 14), (27, 15), (27, 16), (27, 17), (27, 18), (29, 999)] T H H := wfr.rf
  show wp _ _ 14 0 [(0, .ref r0)] [] _ H _
  refine wp_of e14 c14_0 (rw_aload_n (pc' := 1) (v := .ref r0) rfl rfl rfl ?_)
  refine wp_of e14 c14_1 (rw_iconst (pc' := 2) rfl ?_)
  refine wp_of e14 c14_2 (xp_I (pc' := 5) lf_7_41 hW g0 sh_27 (by decide) (by decide) ty_27_7 rfl rfl (by omega) (by omega) ⟨by omega, by omega⟩ rfl (fun H559 e560 w561 => ?_))
  have f562 := f0.put' e560 g0 rfl
  have k563 : H559 r0 7 = 0 := wq_u_s e560
  refine wp_of e14 c14_5 (rw_aload_n (pc' := 6) (v := .ref r0) rfl rfl rfl ?_)
  refine wp_of e14 c14_6 (rw_iconst (pc' := 7) rfl ?_)
  refine wp_of e14 c14_7 (xp_I (pc' := 10) lf_7_44 w561 g0 sh_27 (by decide) (by decide) ty_27_8 rfl rfl (by omega) (by omega) ⟨by omega, by omega⟩ rfl (fun H564 e565 w566 => ?_))
  have f567 := f562.put' e565 g0 rfl
  have k568 : H564 r0 8 = 0 := wq_u_s e565
  refine wp_of e14 c14_10 (rw_aload_n (pc' := 11) (v := .ref r0) rfl rfl rfl ?_)
  refine wp_of e14 c14_11 (rw_iconst (pc' := 12) rfl ?_)
  refine wp_of e14 c14_12 (xp_I (pc' := 15) lf_7_47 w566 g0 sh_27 (by decide) (by decide) ty_27_9 rfl rfl (by omega) (by omega) ⟨by omega, by omega⟩ rfl (fun H569 e570 w571 => ?_))
  have f572 := f567.put' e570 g0 rfl
  have k573 : H569 r0 9 = 0 := wq_u_s e570
  refine wp_of e14 c14_15 (rw_aload_n (pc' := 16) (v := .ref r0) rfl rfl rfl ?_)
  refine wp_of e14 c14_16 (rw_iconst (pc' := 17) rfl ?_)
  refine wp_of e14 c14_17 (xp_I (pc' := 20) lf_7_50 w571 g0 sh_27 (by decide) (by decide) ty_27_10 rfl rfl (by omega) (by omega) ⟨by omega, by omega⟩ rfl (fun H574 e575 w576 => ?_))
  have f577 := f572.put' e575 g0 rfl
  have k578 : H574 r0 10 = 0 := wq_u_s e575
  refine wp_of e14 c14_20 (rw_aload_n (pc' := 21) (v := .ref r0) rfl rfl rfl ?_)
  refine wp_of e14 c14_21 (rw_iconst (pc' := 22) rfl ?_)
  refine wp_of e14 c14_22 (xp_I (pc' := 25) lf_7_53 w576 g0 sh_27 (by decide) (by decide) ty_27_11 rfl rfl (by omega) (by omega) ⟨by omega, by omega⟩ rfl (fun H579 e580 w581 => ?_))
  have f582 := f577.put' e580 g0 rfl
  have k583 : H579 r0 11 = 0 := wq_u_s e580
  refine wp_of e14 c14_25 (rw_aload_n (pc' := 26) (v := .ref r0) rfl rfl rfl ?_)
  refine wp_of e14 c14_26 (rw_iconst (pc' := 27) rfl ?_)
  refine wp_of e14 c14_27 (xp_I (pc' := 30) lf_7_56 w581 g0 sh_27 (by decide) (by decide) ty_27_12 rfl rfl (by omega) (by omega) ⟨by omega, by omega⟩ rfl (fun H584 e585 w586 => ?_))
  have f587 := f582.put' e585 g0 rfl
  have k588 : H584 r0 12 = 0 := wq_u_s e585
  refine wp_of e14 c14_30 (rw_aload_n (pc' := 31) (v := .ref r0) rfl rfl rfl ?_)
  refine wp_of e14 c14_31 (rw_iconst (pc' := 32) rfl ?_)
  refine wp_of e14 c14_32 (xp_I (pc' := 35) lf_7_59 w586 g0 sh_27 (by decide) (by decide) ty_27_13 rfl rfl (by omega) (by omega) ⟨by omega, by omega⟩ rfl (fun H589 e590 w591 => ?_))
  have f592 := f587.put' e590 g0 rfl
  have k593 : H589 r0 13 = 0 := wq_u_s e590
  refine wp_of e14 c14_35 (rw_aload_n (pc' := 36) (v := .ref r0) rfl rfl rfl ?_)
  refine wp_of e14 c14_36 (rw_iconst (pc' := 37) rfl ?_)
  refine wp_of e14 c14_37 (xp_I (pc' := 40) lf_7_62 w591 g0 sh_27 (by decide) (by decide) ty_27_14 rfl rfl (by omega) (by omega) ⟨by omega, by omega⟩ rfl (fun H594 e595 w596 => ?_))
  have f597 := f592.put' e595 g0 rfl
  have k598 : H594 r0 14 = 0 := wq_u_s e595
  refine wp_of e14 c14_40 (rw_aload_n (pc' := 41) (v := .ref r0) rfl rfl rfl ?_)
  refine wp_of e14 c14_41 (rw_bipush (pc' := 43) (z := -2) rfl (by decide) ?_)
  refine wp_of e14 c14_43 (xp_I (pc' := 46) lf_7_37 w596 g0 sh_27 (by decide) (by decide) ty_27_15 rfl rfl (by omega) (by omega) ⟨by omega, by omega⟩ rfl (fun H599 e600 w601 => ?_))
  have f602 := f597.put' e600 g0 rfl
  have k603 : H599 r0 15 = -2 := wq_u_s e600
  refine wp_of e14 c14_46 (rw_aload_n (pc' := 47) (v := .ref r0) rfl rfl rfl ?_)
  refine wp_of e14 c14_47 (rw_iconst (pc' := 48) rfl ?_)
  refine wp_of e14 c14_48 (xp_I (pc' := 51) lf_7_65 w601 g0 sh_27 (by decide) (by decide) ty_27_16 rfl rfl (by omega) (by omega) ⟨by omega, by omega⟩ rfl (fun H604 e605 w606 => ?_))
  have f607 := f602.put' e605 g0 rfl
  have k608 : H604 r0 16 = 0 := wq_u_s e605
  refine wp_of e14 c14_51 (rw_aload_n (pc' := 52) (v := .ref r0) rfl rfl rfl ?_)
  refine wp_of e14 c14_52 (rw_iconst (pc' := 53) rfl ?_)
  refine wp_of e14 c14_53 (xp_I (pc' := 56) lf_7_68 w606 g0 sh_27 (by decide) (by decide) ty_27_17 rfl rfl (by omega) (by omega) ⟨by omega, by omega⟩ rfl (fun H609 e610 w611 => ?_))
  have f612 := f607.put' e610 g0 rfl
  have k613 : H609 r0 17 = 0 := wq_u_s e610
  refine wp_of e14 c14_56 (rw_aload_n (pc' := 57) (v := .ref r0) rfl rfl rfl ?_)
  refine wp_of e14 c14_57 (rw_lconst (pc' := 58) (z := 0) rfl rfl ?_)
  refine wp_of e14 c14_58 (xp_L (pc' := 61) lf_7_71 w611 g0 sh_27 (by decide) (by decide) ty_27_18 rfl rfl (by omega) (by omega) ⟨by omega, by omega⟩ rfl (fun H614 e615 w616 => ?_))
  have f617 := f612.put' e615 g0 rfl
  have k618 : H614 r0 18 = 0 := wq_u_s e615
  refine wp_of e14 c14_61 (rw_iconst (pc' := 62) rfl ?_)
  refine wp_of e14 c14_62 (rw_istore_n (pc' := 63) (z := 0) (L' := [(1, vI 0), (0, .ref r0)]) rfl rfl rfl ?_)
  have lp683 : ∀ (n684 : Nat) (v686 : Int) (H687 : wq_H), WT T H687 → wfr [(29, 999)] T H614 H687 → (0 ≤ v686 ∧ v686 ≤ 24) → (24 - v686).toNat = n684 → wp kt 0 14 63 [(1, vI v686), (0, .ref r0)] [] T H687 (q_14 r0 T H) := by
    intro n684
    induction n684 using Nat.strongRecOn with
    | _ n684 ih685 =>
      intro v686 H687 w688 f689 b690 m691
      have f692 := f617.tr f689 rfl
      refine wp_of e14 c14_63 (rw_iload_n (pc' := 64) (z := v686) rfl rfl ?_)
      refine wp_of e14 c14_64 (rw_bipush (pc' := 66) (z := 24) rfl (by decide) ?_)
      refine wp_of e14 c14_66 (rw_icmp_ge (p1 := 83) (p2 := 69) (by decide) rfl ⟨by omega, by omega⟩ ⟨by omega, by omega⟩ (fun c693 => ?_) (fun c693 => ?_))
      · exact wp_return e14 c14_83 rfl ⟨rfl, w688, f692, rfl⟩
      · refine wp_of e14 c14_69 (rw_aload_n (pc' := 70) (v := .ref r0) rfl rfl rfl ?_)
        refine wp_of e14 c14_70 (xg_R (pc' := 73) lf_7_17 w688 g0 sh_27 (by decide) (by decide) ty_27_1 rfl rfl (fun r694 q695 g696 => ?_))
        refine wp_of e14 c14_73 (rw_iload_n (pc' := 74) (z := v686) rfl rfl ?_)
        refine wp_of e14 c14_74 (rw_bipush (pc' := 76) (z := -2) rfl (by decide) ?_)
        refine wp_of e14 c14_76 (xs_I (pc' := 77) w688 g696 (by decide) sh_29 (by decide) (ty_29 _) (by omega) (by omega) ⟨by omega, by omega⟩ (by omega) (by omega) rfl (fun H697 e698 w699 => ?_))
        have f700 := f692.put' e698 g696 rfl
        have f701 := f689.put' e698 g696 rfl
        refine wp_of e14 c14_77 (rw_iinc (pc' := 80) (z := v686) (L' := [(1, vI (v686 + 1)), (0, .ref r0)]) rfl rfl rfl rfl ?_)
        refine wp_of e14 c14_80 (rw_goto (p1 := 63) (by decide) ?_)
        exact wp_lc (ks := [1, 0]) (wl_c rfl (wl_c rfl wl_n)) rfl (by decide) (ih685 _ (by omega) (v686 + 1) H697 w699 f701 ⟨by omega, by omega⟩ rfl)
  exact wp_lc (ks := [1, 0]) (wl_c rfl (wl_c rfl wl_n)) rfl (by decide) (lp683 _ 0 H614 w616 wfr.rf ⟨by omega, by omega⟩ rfl)
/-! StrikeAwake$Tokens.advance()V -/
theorem e16 : wq_en 16 = some (2, 4, false, none) := rfl
theorem c16_0 : mc_cd 16 0 = some (.aload_n 0, 1) := by decide +kernel
theorem c16_1 : mc_cd 16 1 = some (.getfield 23, 3) := by decide +kernel
theorem c16_4 : mc_cd 16 4 = some (.istore_n 1, 1) := by decide +kernel
theorem c16_5 : mc_cd 16 5 = some (.iload_n 1, 1) := by decide +kernel
theorem c16_6 : mc_cd 16 6 = some (.aload_n 0, 1) := by decide +kernel
theorem c16_7 : mc_cd 16 7 = some (.getfield 19, 3) := by decide +kernel
theorem c16_10 : mc_cd 16 10 = some (.if_icmp .ge 20, 3) := by decide +kernel
theorem c16_13 : mc_cd 16 13 = some (.aload_n 0, 1) := by decide +kernel
theorem c16_14 : mc_cd 16 14 = some (.getfield 7, 3) := by decide +kernel
theorem c16_17 : mc_cd 16 17 = some (.iload_n 1, 1) := by decide +kernel
theorem c16_18 : mc_cd 16 18 = some (.baload, 1) := by decide +kernel
theorem c16_19 : mc_cd 16 19 = some (.bipush 32, 2) := by decide +kernel
theorem c16_21 : mc_cd 16 21 = some (.if_icmp .ne 9, 3) := by decide +kernel
theorem c16_24 : mc_cd 16 24 = some (.iinc 1 1, 3) := by decide +kernel
theorem c16_27 : mc_cd 16 27 = some (.goto (-22), 3) := by decide +kernel
theorem c16_30 : mc_cd 16 30 = some (.aload_n 0, 1) := by decide +kernel
theorem c16_31 : mc_cd 16 31 = some (.iload_n 1, 1) := by decide +kernel
theorem c16_32 : mc_cd 16 32 = some (.putfield 29, 3) := by decide +kernel
theorem c16_35 : mc_cd 16 35 = some (.aload_n 0, 1) := by decide +kernel
theorem c16_36 : mc_cd 16 36 = some (.lconst 0, 1) := by decide +kernel
theorem c16_37 : mc_cd 16 37 = some (.putfield 32, 3) := by decide +kernel
theorem c16_40 : mc_cd 16 40 = some (.iload_n 1, 1) := by decide +kernel
theorem c16_41 : mc_cd 16 41 = some (.aload_n 0, 1) := by decide +kernel
theorem c16_42 : mc_cd 16 42 = some (.getfield 19, 3) := by decide +kernel
theorem c16_45 : mc_cd 16 45 = some (.if_icmp .ge 56, 3) := by decide +kernel
theorem c16_48 : mc_cd 16 48 = some (.aload_n 0, 1) := by decide +kernel
theorem c16_49 : mc_cd 16 49 = some (.getfield 7, 3) := by decide +kernel
theorem c16_52 : mc_cd 16 52 = some (.iload_n 1, 1) := by decide +kernel
theorem c16_53 : mc_cd 16 53 = some (.baload, 1) := by decide +kernel
theorem c16_54 : mc_cd 16 54 = some (.bipush 97, 2) := by decide +kernel
theorem c16_56 : mc_cd 16 56 = some (.if_icmp .lt 45, 3) := by decide +kernel
theorem c16_59 : mc_cd 16 59 = some (.aload_n 0, 1) := by decide +kernel
theorem c16_60 : mc_cd 16 60 = some (.getfield 7, 3) := by decide +kernel
theorem c16_63 : mc_cd 16 63 = some (.iload_n 1, 1) := by decide +kernel
theorem c16_64 : mc_cd 16 64 = some (.baload, 1) := by decide +kernel
theorem c16_65 : mc_cd 16 65 = some (.bipush 122, 2) := by decide +kernel
theorem c16_67 : mc_cd 16 67 = some (.if_icmp .gt 34, 3) := by decide +kernel
theorem c16_70 : mc_cd 16 70 = some (.aload_n 0, 1) := by decide +kernel
theorem c16_71 : mc_cd 16 71 = some (.aload_n 0, 1) := by decide +kernel
theorem c16_72 : mc_cd 16 72 = some (.getfield 32, 3) := by decide +kernel
theorem c16_75 : mc_cd 16 75 = some (.ldc2_w 36, 3) := by decide +kernel
theorem c16_78 : mc_cd 16 78 = some (.lmul, 1) := by decide +kernel
theorem c16_79 : mc_cd 16 79 = some (.aload_n 0, 1) := by decide +kernel
theorem c16_80 : mc_cd 16 80 = some (.getfield 7, 3) := by decide +kernel
theorem c16_83 : mc_cd 16 83 = some (.iload_n 1, 1) := by decide +kernel
theorem c16_84 : mc_cd 16 84 = some (.baload, 1) := by decide +kernel
theorem c16_85 : mc_cd 16 85 = some (.bipush 97, 2) := by decide +kernel
theorem c16_87 : mc_cd 16 87 = some (.isub, 1) := by decide +kernel
theorem c16_88 : mc_cd 16 88 = some (.iconst 1, 1) := by decide +kernel
theorem c16_89 : mc_cd 16 89 = some (.iadd, 1) := by decide +kernel
theorem c16_90 : mc_cd 16 90 = some (.i2l, 1) := by decide +kernel
theorem c16_91 : mc_cd 16 91 = some (.ladd, 1) := by decide +kernel
theorem c16_92 : mc_cd 16 92 = some (.putfield 32, 3) := by decide +kernel
theorem c16_95 : mc_cd 16 95 = some (.iinc 1 1, 3) := by decide +kernel
theorem c16_98 : mc_cd 16 98 = some (.goto (-58), 3) := by decide +kernel
theorem c16_101 : mc_cd 16 101 = some (.iload_n 1, 1) := by decide +kernel
theorem c16_102 : mc_cd 16 102 = some (.aload_n 0, 1) := by decide +kernel
theorem c16_103 : mc_cd 16 103 = some (.getfield 29, 3) := by decide +kernel
theorem c16_106 : mc_cd 16 106 = some (.isub, 1) := by decide +kernel
theorem c16_107 : mc_cd 16 107 = some (.istore_n 2, 1) := by decide +kernel
theorem c16_108 : mc_cd 16 108 = some (.aload_n 0, 1) := by decide +kernel
theorem c16_109 : mc_cd 16 109 = some (.iconst 0, 1) := by decide +kernel
theorem c16_110 : mc_cd 16 110 = some (.putfield 38, 3) := by decide +kernel
theorem c16_113 : mc_cd 16 113 = some (.iload_n 1, 1) := by decide +kernel
theorem c16_114 : mc_cd 16 114 = some (.aload_n 0, 1) := by decide +kernel
theorem c16_115 : mc_cd 16 115 = some (.getfield 19, 3) := by decide +kernel
theorem c16_118 : mc_cd 16 118 = some (.if_icmp .ge 56, 3) := by decide +kernel
theorem c16_121 : mc_cd 16 121 = some (.iload_n 2, 1) := by decide +kernel
theorem c16_122 : mc_cd 16 122 = some (.ifCond .ne 52, 3) := by decide +kernel
theorem c16_125 : mc_cd 16 125 = some (.aload_n 0, 1) := by decide +kernel
theorem c16_126 : mc_cd 16 126 = some (.getfield 7, 3) := by decide +kernel
theorem c16_129 : mc_cd 16 129 = some (.iload_n 1, 1) := by decide +kernel
theorem c16_130 : mc_cd 16 130 = some (.baload, 1) := by decide +kernel
theorem c16_131 : mc_cd 16 131 = some (.bipush 48, 2) := by decide +kernel
theorem c16_133 : mc_cd 16 133 = some (.if_icmp .lt 41, 3) := by decide +kernel
theorem c16_136 : mc_cd 16 136 = some (.aload_n 0, 1) := by decide +kernel
theorem c16_137 : mc_cd 16 137 = some (.getfield 7, 3) := by decide +kernel
theorem c16_140 : mc_cd 16 140 = some (.iload_n 1, 1) := by decide +kernel
theorem c16_141 : mc_cd 16 141 = some (.baload, 1) := by decide +kernel
theorem c16_142 : mc_cd 16 142 = some (.bipush 57, 2) := by decide +kernel
theorem c16_144 : mc_cd 16 144 = some (.if_icmp .gt 30, 3) := by decide +kernel
theorem c16_147 : mc_cd 16 147 = some (.aload_n 0, 1) := by decide +kernel
theorem c16_148 : mc_cd 16 148 = some (.aload_n 0, 1) := by decide +kernel
theorem c16_149 : mc_cd 16 149 = some (.getfield 38, 3) := by decide +kernel
theorem c16_152 : mc_cd 16 152 = some (.bipush 10, 2) := by decide +kernel
theorem c16_154 : mc_cd 16 154 = some (.imul, 1) := by decide +kernel
theorem c16_155 : mc_cd 16 155 = some (.aload_n 0, 1) := by decide +kernel
theorem c16_156 : mc_cd 16 156 = some (.getfield 7, 3) := by decide +kernel
theorem c16_159 : mc_cd 16 159 = some (.iload_n 1, 1) := by decide +kernel
theorem c16_160 : mc_cd 16 160 = some (.baload, 1) := by decide +kernel
theorem c16_161 : mc_cd 16 161 = some (.bipush 48, 2) := by decide +kernel
theorem c16_163 : mc_cd 16 163 = some (.isub, 1) := by decide +kernel
theorem c16_164 : mc_cd 16 164 = some (.iadd, 1) := by decide +kernel
theorem c16_165 : mc_cd 16 165 = some (.putfield 38, 3) := by decide +kernel
theorem c16_168 : mc_cd 16 168 = some (.iinc 1 1, 3) := by decide +kernel
theorem c16_171 : mc_cd 16 171 = some (.goto (-58), 3) := by decide +kernel
theorem c16_174 : mc_cd 16 174 = some (.iload_n 1, 1) := by decide +kernel
theorem c16_175 : mc_cd 16 175 = some (.aload_n 0, 1) := by decide +kernel
theorem c16_176 : mc_cd 16 176 = some (.getfield 29, 3) := by decide +kernel
theorem c16_179 : mc_cd 16 179 = some (.isub, 1) := by decide +kernel
theorem c16_180 : mc_cd 16 180 = some (.iload_n 2, 1) := by decide +kernel
theorem c16_181 : mc_cd 16 181 = some (.isub, 1) := by decide +kernel
theorem c16_182 : mc_cd 16 182 = some (.istore_n 3, 1) := by decide +kernel
theorem c16_183 : mc_cd 16 183 = some (.iload_n 2, 1) := by decide +kernel
theorem c16_184 : mc_cd 16 184 = some (.ifCond .le 21, 3) := by decide +kernel
theorem c16_187 : mc_cd 16 187 = some (.aload_n 0, 1) := by decide +kernel
theorem c16_188 : mc_cd 16 188 = some (.iload_n 2, 1) := by decide +kernel
theorem c16_189 : mc_cd 16 189 = some (.bipush 8, 2) := by decide +kernel
theorem c16_191 : mc_cd 16 191 = some (.if_icmp .gt 7, 3) := by decide +kernel
theorem c16_194 : mc_cd 16 194 = some (.iconst 1, 1) := by decide +kernel
theorem c16_195 : mc_cd 16 195 = some (.goto 4, 3) := by decide +kernel
theorem c16_198 : mc_cd 16 198 = some (.iconst 5, 1) := by decide +kernel
theorem c16_199 : mc_cd 16 199 = some (.putfield 41, 3) := by decide +kernel
theorem c16_202 : mc_cd 16 202 = some (.goto 78, 3) := by decide +kernel
theorem c16_205 : mc_cd 16 205 = some (.iload_n 3, 1) := by decide +kernel
theorem c16_206 : mc_cd 16 206 = some (.ifCond .le 20, 3) := by decide +kernel
theorem c16_209 : mc_cd 16 209 = some (.aload_n 0, 1) := by decide +kernel
theorem c16_210 : mc_cd 16 210 = some (.iload_n 3, 1) := by decide +kernel
theorem c16_211 : mc_cd 16 211 = some (.iconst 3, 1) := by decide +kernel
theorem c16_212 : mc_cd 16 212 = some (.if_icmp .gt 7, 3) := by decide +kernel
theorem c16_215 : mc_cd 16 215 = some (.iconst 2, 1) := by decide +kernel
theorem c16_216 : mc_cd 16 216 = some (.goto 4, 3) := by decide +kernel
theorem c16_219 : mc_cd 16 219 = some (.iconst 5, 1) := by decide +kernel
theorem c16_220 : mc_cd 16 220 = some (.putfield 41, 3) := by decide +kernel
theorem c16_223 : mc_cd 16 223 = some (.goto 57, 3) := by decide +kernel
theorem c16_226 : mc_cd 16 226 = some (.iload_n 1, 1) := by decide +kernel
theorem c16_227 : mc_cd 16 227 = some (.aload_n 0, 1) := by decide +kernel
theorem c16_228 : mc_cd 16 228 = some (.getfield 19, 3) := by decide +kernel
theorem c16_231 : mc_cd 16 231 = some (.if_icmp .ge 44, 3) := by decide +kernel
theorem c16_234 : mc_cd 16 234 = some (.aload_n 0, 1) := by decide +kernel
theorem c16_235 : mc_cd 16 235 = some (.aload_n 0, 1) := by decide +kernel
theorem c16_236 : mc_cd 16 236 = some (.getfield 7, 3) := by decide +kernel
theorem c16_239 : mc_cd 16 239 = some (.iload_n 1, 1) := by decide +kernel
theorem c16_240 : mc_cd 16 240 = some (.baload, 1) := by decide +kernel
theorem c16_241 : mc_cd 16 241 = some (.bipush 59, 2) := by decide +kernel
theorem c16_243 : mc_cd 16 243 = some (.if_icmp .ne 7, 3) := by decide +kernel
theorem c16_246 : mc_cd 16 246 = some (.iconst 3, 1) := by decide +kernel
theorem c16_247 : mc_cd 16 247 = some (.goto 19, 3) := by decide +kernel
theorem c16_250 : mc_cd 16 250 = some (.aload_n 0, 1) := by decide +kernel
theorem c16_251 : mc_cd 16 251 = some (.getfield 7, 3) := by decide +kernel
theorem c16_254 : mc_cd 16 254 = some (.iload_n 1, 1) := by decide +kernel
theorem c16_255 : mc_cd 16 255 = some (.baload, 1) := by decide +kernel
theorem c16_256 : mc_cd 16 256 = some (.bipush 44, 2) := by decide +kernel
theorem c16_258 : mc_cd 16 258 = some (.if_icmp .ne 7, 3) := by decide +kernel
theorem c16_261 : mc_cd 16 261 = some (.iconst 4, 1) := by decide +kernel
theorem c16_262 : mc_cd 16 262 = some (.goto 4, 3) := by decide +kernel
theorem c16_265 : mc_cd 16 265 = some (.iconst 5, 1) := by decide +kernel
theorem c16_266 : mc_cd 16 266 = some (.putfield 41, 3) := by decide +kernel
theorem c16_269 : mc_cd 16 269 = some (.iinc 1 1, 3) := by decide +kernel
theorem c16_272 : mc_cd 16 272 = some (.goto 8, 3) := by decide +kernel
theorem c16_275 : mc_cd 16 275 = some (.aload_n 0, 1) := by decide +kernel
theorem c16_276 : mc_cd 16 276 = some (.iconst 0, 1) := by decide +kernel
theorem c16_277 : mc_cd 16 277 = some (.putfield 41, 3) := by decide +kernel
theorem c16_280 : mc_cd 16 280 = some (.aload_n 0, 1) := by decide +kernel
theorem c16_281 : mc_cd 16 281 = some (.iload_n 1, 1) := by decide +kernel
theorem c16_282 : mc_cd 16 282 = some (.putfield 23, 3) := by decide +kernel
theorem c16_285 : mc_cd 16 285 = some (.return_, 1) := by decide +kernel
abbrev q_16 (r0 : Nat) (rb : Nat) (T : wq_T) (H : wq_H) : Option Value → wq_T → wq_H → Prop := fun r T' H' => T = T' ∧ WT T H' ∧ wfr [(4, 2), (4, 3), (4, 4), (4, 5), (4, 6)] T H H' ∧ none = r
set_option maxHeartbeats 4000000 in
theorem s_16 {kt : Nat → Option mc_E} {T : wq_T} {H : wq_H} {r0 : Nat} {rb : Nat} (hW : WT T H) (g0 : T.2.2.2 r0 = some 4) (qrb : H r0 0 = (rb : Int)) (grb : T.2.2.2 rb = some 2) : wpc kt 1 16 [.ref r0] T H (q_16 r0 rb T H) := by
  refine wp_enter e16 (Nat.le_of_ble_eq_true rfl) rfl ?_
  have f0 : wfr [(4, 2), (4, 3), (4, 4), (4, 5), (4, 6)] T H H := wfr.rf
  show wp _ _ 16 0 [(0, .ref r0)] [] _ H _
  refine wp_of e16 c16_0 (rw_aload_n (pc' := 1) (v := .ref r0) rfl rfl rfl ?_)
  refine wp_of e16 c16_1 (xg_I (pc' := 4) lf_2_23 hW g0 sh_4 (by decide) (by decide) ty_4_2 rfl rfl (fun b3345 b3346 => ?_))
  refine wp_of e16 c16_4 (rw_istore_n (pc' := 5) (z := H r0 2) (L' := [(1, vI (H r0 2)), (0, .ref r0)]) rfl rfl rfl ?_)
  have lp3355 : ∀ (n3356 : Nat) (v3358 : Int), (0 ≤ v3358 ∧ v3358 ≤ 900) → (900 - v3358).toNat = n3356 → wp kt 0 16 5 [(1, vI v3358), (0, .ref r0)] [] T H (q_16 r0 rb T H) := by
    intro n3356
    induction n3356 using Nat.strongRecOn with
    | _ n3356 ih3357 =>
      intro v3358 b3361 m3362
      refine wp_of e16 c16_5 (rw_iload_n (pc' := 6) (z := v3358) rfl rfl ?_)
      refine wp_of e16 c16_6 (rw_aload_n (pc' := 7) (v := .ref r0) rfl rfl rfl ?_)
      refine wp_of e16 c16_7 (xg_I (pc' := 10) lf_2_19 hW g0 sh_4 (by decide) (by decide) ty_4_1 rfl rfl (fun b3363 b3364 => ?_))
      refine wp_of e16 c16_10 (rw_icmp_ge (p1 := 30) (p2 := 13) (by decide) rfl ⟨by omega, by omega⟩ ⟨by omega, by omega⟩ (fun c3365 => ?_) (fun c3365 => ?_))
      · refine wp_of e16 c16_30 (rw_aload_n (pc' := 31) (v := .ref r0) rfl rfl rfl ?_)
        refine wp_of e16 c16_31 (rw_iload_n (pc' := 32) (z := v3358) rfl rfl ?_)
        refine wp_of e16 c16_32 (xp_I (pc' := 35) lf_2_29 hW g0 sh_4 (by decide) (by decide) ty_4_4 rfl rfl (by omega) (by omega) ⟨by omega, by omega⟩ rfl (fun H3366 e3367 w3368 => ?_))
        have f3369 := f0.put' e3367 g0 rfl
        have k3370 : H3366 r0 4 = v3358 := wq_u_s e3367
        refine wp_of e16 c16_35 (rw_aload_n (pc' := 36) (v := .ref r0) rfl rfl rfl ?_)
        refine wp_of e16 c16_36 (rw_lconst (pc' := 37) (z := 0) rfl rfl ?_)
        refine wp_of e16 c16_37 (xp_L (pc' := 40) lf_2_32 w3368 g0 sh_4 (by decide) (by decide) ty_4_6 rfl rfl (by omega) (by omega) ⟨by omega, by omega⟩ rfl (fun H3371 e3372 w3373 => ?_))
        have f3374 := f3369.put' e3372 g0 rfl
        have k3375 : H3371 r0 6 = 0 := wq_u_s e3372
        have lp3423 : ∀ (n3424 : Nat) (v3426 : Int) (H3427 : wq_H), WT T H3427 → wfr [(4, 6)] T H3371 H3427 → (0 ≤ v3426 ∧ v3426 ≤ 900) → (900 - v3426).toNat = n3424 → wp kt 0 16 40 [(1, vI v3426), (0, .ref r0)] [] T H3427 (q_16 r0 rb T H) := by
          intro n3424
          induction n3424 using Nat.strongRecOn with
          | _ n3424 ih3425 =>
            intro v3426 H3427 w3428 f3429 b3430 m3431
            have f3432 := f3374.tr f3429 rfl
            refine wp_of e16 c16_40 (rw_iload_n (pc' := 41) (z := v3426) rfl rfl ?_)
            refine wp_of e16 c16_41 (rw_aload_n (pc' := 42) (v := .ref r0) rfl rfl rfl ?_)
            have k3433 : H3427 r0 1 = H r0 1 := ((f3429 r0 1 _ g0 rfl).trans ((wq_u_j e3372 rfl).trans (wq_u_j e3367 rfl)))
            refine wp_of e16 c16_42 (xg_I (pc' := 45) lf_2_19 w3428 g0 sh_4 (by decide) (by decide) ty_4_1 rfl rfl (fun b3434 b3435 => ?_))
            refine wp_of e16 c16_45 (rw_icmp_ge (p1 := 101) (p2 := 48) (by decide) rfl ⟨by omega, by omega⟩ ⟨by omega, by omega⟩ (fun c3436 => ?_) (fun c3436 => ?_))
            · refine wp_of e16 c16_101 (rw_iload_n (pc' := 102) (z := v3426) rfl rfl ?_)
              refine wp_of e16 c16_102 (rw_aload_n (pc' := 103) (v := .ref r0) rfl rfl rfl ?_)
              have k3437 : H3427 r0 4 = H3366 r0 4 := ((f3429 r0 4 _ g0 rfl).trans (wq_u_j e3372 rfl))
              refine wp_of e16 c16_103 (xg_I (pc' := 106) lf_2_29 w3428 g0 sh_4 (by decide) (by decide) ty_4_4 rfl rfl (fun b3438 b3439 => ?_))
              refine wp_of e16 c16_106 (rw_isub (pc' := 107) rfl ?_)
              refine wp_of e16 c16_107 (rw_istore_n (pc' := 108) (z := v3426 - (H3427 r0 4)) (L' := [(2, vI (v3426 - (H3427 r0 4))), (1, vI v3426), (0, .ref r0)]) rfl rfl rfl ?_)
              refine wp_of e16 c16_108 (rw_aload_n (pc' := 109) (v := .ref r0) rfl rfl rfl ?_)
              refine wp_of e16 c16_109 (rw_iconst (pc' := 110) rfl ?_)
              refine wp_of e16 c16_110 (xp_I (pc' := 113) lf_2_38 w3428 g0 sh_4 (by decide) (by decide) ty_4_5 rfl rfl (by omega) (by omega) ⟨by omega, by omega⟩ rfl (fun H3440 e3441 w3442 => ?_))
              have f3443 := f3432.put' e3441 g0 rfl
              have k3444 : H3440 r0 5 = 0 := wq_u_s e3441
              have lp3494 : ∀ (n3495 : Nat) (v3497 : Int) (H3498 : wq_H), WT T H3498 → wfr [(4, 5)] T H3440 H3498 → (0 ≤ v3497 ∧ v3497 ≤ 900) → (900 - v3497).toNat = n3495 → wp kt 0 16 113 [(1, vI v3497), (2, vI (v3426 - (H3427 r0 4))), (0, .ref r0)] [] T H3498 (q_16 r0 rb T H) := by
                intro n3495
                induction n3495 using Nat.strongRecOn with
                | _ n3495 ih3496 =>
                  intro v3497 H3498 w3499 f3500 b3501 m3502
                  have f3503 := f3443.tr f3500 rfl
                  refine wp_of e16 c16_113 (rw_iload_n (pc' := 114) (z := v3497) rfl rfl ?_)
                  refine wp_of e16 c16_114 (rw_aload_n (pc' := 115) (v := .ref r0) rfl rfl rfl ?_)
                  have k3504 : H3498 r0 1 = H3427 r0 1 := ((f3500 r0 1 _ g0 rfl).trans (wq_u_j e3441 rfl))
                  refine wp_of e16 c16_115 (xg_I (pc' := 118) lf_2_19 w3499 g0 sh_4 (by decide) (by decide) ty_4_1 rfl rfl (fun b3505 b3506 => ?_))
                  refine wp_of e16 c16_118 (rw_icmp_ge (p1 := 174) (p2 := 121) (by decide) rfl ⟨by omega, by omega⟩ ⟨by omega, by omega⟩ (fun c3507 => ?_) (fun c3507 => ?_))
                  · refine wp_of e16 c16_174 (rw_iload_n (pc' := 175) (z := v3497) rfl rfl ?_)
                    refine wp_of e16 c16_175 (rw_aload_n (pc' := 176) (v := .ref r0) rfl rfl rfl ?_)
                    have k3508 : H3498 r0 4 = H3427 r0 4 := ((f3500 r0 4 _ g0 rfl).trans (wq_u_j e3441 rfl))
                    refine wp_of e16 c16_176 (xg_I (pc' := 179) lf_2_29 w3499 g0 sh_4 (by decide) (by decide) ty_4_4 rfl rfl (fun b3509 b3510 => ?_))
                    refine wp_of e16 c16_179 (rw_isub (pc' := 180) rfl ?_)
                    refine wp_of e16 c16_180 (rw_iload_n (pc' := 181) (z := v3426 - (H3427 r0 4)) rfl rfl ?_)
                    refine wp_of e16 c16_181 (rw_isub (pc' := 182) rfl ?_)
                    refine wp_of e16 c16_182 (rw_istore_n (pc' := 183) (z := (v3497 - (H3498 r0 4)) - (v3426 - (H3427 r0 4))) (L' := [(3, vI ((v3497 - (H3498 r0 4)) - (v3426 - (H3427 r0 4)))), (1, vI v3497), (2, vI (v3426 - (H3427 r0 4))), (0, .ref r0)]) rfl rfl rfl ?_)
                    refine wp_of e16 c16_183 (rw_iload_n (pc' := 184) (z := v3426 - (H3427 r0 4)) rfl rfl ?_)
                    refine wp_of e16 c16_184 (rw_if_le (p1 := 205) (p2 := 187) (by decide) rfl ⟨by omega, by omega⟩ (fun c3511 => ?_) (fun c3511 => ?_))
                    · refine wp_of e16 c16_205 (rw_iload_n (pc' := 206) (z := (v3497 - (H3498 r0 4)) - (v3426 - (H3427 r0 4))) rfl rfl ?_)
                      refine wp_of e16 c16_206 (rw_if_le (p1 := 226) (p2 := 209) (by decide) rfl ⟨by omega, by omega⟩ (fun c3512 => ?_) (fun c3512 => ?_))
                      · refine wp_of e16 c16_226 (rw_iload_n (pc' := 227) (z := v3497) rfl rfl ?_)
                        refine wp_of e16 c16_227 (rw_aload_n (pc' := 228) (v := .ref r0) rfl rfl rfl ?_)
                        refine wp_of e16 c16_228 (xg_I (pc' := 231) lf_2_19 w3499 g0 sh_4 (by decide) (by decide) ty_4_1 rfl rfl (fun b3513 b3514 => ?_))
                        refine wp_of e16 c16_231 (rw_icmp_ge (p1 := 275) (p2 := 234) (by decide) rfl ⟨by omega, by omega⟩ ⟨by omega, by omega⟩ (fun c3515 => ?_) (fun c3515 => ?_))
                        · refine wp_of e16 c16_275 (rw_aload_n (pc' := 276) (v := .ref r0) rfl rfl rfl ?_)
                          refine wp_of e16 c16_276 (rw_iconst (pc' := 277) rfl ?_)
                          refine wp_of e16 c16_277 (xp_I (pc' := 280) lf_2_41 w3499 g0 sh_4 (by decide) (by decide) ty_4_3 rfl rfl (by omega) (by omega) ⟨by omega, by omega⟩ rfl (fun H3516 e3517 w3518 => ?_))
                          have f3519 := f3503.put' e3517 g0 rfl
                          have k3520 : H3516 r0 3 = 0 := wq_u_s e3517
                          refine wp_of e16 c16_280 (rw_aload_n (pc' := 281) (v := .ref r0) rfl rfl rfl ?_)
                          refine wp_of e16 c16_281 (rw_iload_n (pc' := 282) (z := v3497) rfl rfl ?_)
                          refine wp_of e16 c16_282 (xp_I (pc' := 285) lf_2_23 w3518 g0 sh_4 (by decide) (by decide) ty_4_2 rfl rfl (by omega) (by omega) ⟨by omega, by omega⟩ rfl (fun H3521 e3522 w3523 => ?_))
                          have f3524 := f3519.put' e3522 g0 rfl
                          have k3525 : H3521 r0 2 = v3497 := wq_u_s e3522
                          exact wp_return e16 c16_285 rfl ⟨rfl, w3523, f3524, rfl⟩
                        · refine wp_of e16 c16_234 (rw_aload_n (pc' := 235) (v := .ref r0) rfl rfl rfl ?_)
                          refine wp_of e16 c16_235 (rw_aload_n (pc' := 236) (v := .ref r0) rfl rfl rfl ?_)
                          have k3526 : H3498 r0 0 = H r0 0 := ((f3500 r0 0 _ g0 rfl).trans ((wq_u_j e3441 rfl).trans ((f3429 r0 0 _ g0 rfl).trans ((wq_u_j e3372 rfl).trans (wq_u_j e3367 rfl)))))
                          have q3527 : H3498 r0 0 = (rb : Int) := k3526.trans qrb
                          refine wp_of e16 c16_236 (xg_K (pc' := 239) lf_2_7 w3499 g0 sh_4 (by decide) (by decide) rfl q3527 rfl ?_)
                          refine wp_of e16 c16_239 (rw_iload_n (pc' := 240) (z := v3497) rfl rfl ?_)
                          refine wp_of e16 c16_240 (xa_B (by decide) (pc' := 241) w3499 grb sh_2 (by decide) (ty_2 _) (by omega) (by omega) rfl (fun b3528 b3529 => ?_))
                          refine wp_of e16 c16_241 (rw_bipush (pc' := 243) (z := 59) rfl (by decide) ?_)
                          refine wp_of e16 c16_243 (rw_icmp_ne (p1 := 250) (p2 := 246) (by decide) rfl ⟨by omega, by omega⟩ ⟨by omega, by omega⟩ (fun c3530 => ?_) (fun c3530 => ?_))
                          · refine wp_of e16 c16_250 (rw_aload_n (pc' := 251) (v := .ref r0) rfl rfl rfl ?_)
                            refine wp_of e16 c16_251 (xg_K (pc' := 254) lf_2_7 w3499 g0 sh_4 (by decide) (by decide) rfl q3527 rfl ?_)
                            refine wp_of e16 c16_254 (rw_iload_n (pc' := 255) (z := v3497) rfl rfl ?_)
                            refine wp_of e16 c16_255 (xa_B (by decide) (pc' := 256) w3499 grb sh_2 (by decide) (ty_2 _) (by omega) (by omega) rfl (fun b3531 b3532 => ?_))
                            refine wp_of e16 c16_256 (rw_bipush (pc' := 258) (z := 44) rfl (by decide) ?_)
                            refine wp_of e16 c16_258 (rw_icmp_ne (p1 := 265) (p2 := 261) (by decide) rfl ⟨by omega, by omega⟩ ⟨by omega, by omega⟩ (fun c3533 => ?_) (fun c3533 => ?_))
                            · refine wp_of e16 c16_265 (rw_iconst (pc' := 266) rfl ?_)
                              refine wp_of e16 c16_266 (xp_I (pc' := 269) lf_2_41 w3499 g0 sh_4 (by decide) (by decide) ty_4_3 rfl rfl (by omega) (by omega) ⟨by omega, by omega⟩ rfl (fun H3534 e3535 w3536 => ?_))
                              have f3537 := f3503.put' e3535 g0 rfl
                              have k3538 : H3534 r0 3 = 5 := wq_u_s e3535
                              refine wp_of e16 c16_269 (rw_iinc (pc' := 272) (z := v3497) (L' := [(1, vI (v3497 + 1)), (3, vI ((v3497 - (H3498 r0 4)) - (v3426 - (H3427 r0 4)))), (2, vI (v3426 - (H3427 r0 4))), (0, .ref r0)]) rfl rfl rfl rfl ?_)
                              refine wp_of e16 c16_272 (rw_goto (p1 := 280) (by decide) ?_)
                              refine wp_of e16 c16_280 (rw_aload_n (pc' := 281) (v := .ref r0) rfl rfl rfl ?_)
                              refine wp_of e16 c16_281 (rw_iload_n (pc' := 282) (z := v3497 + 1) rfl rfl ?_)
                              refine wp_of e16 c16_282 (xp_I (pc' := 285) lf_2_23 w3536 g0 sh_4 (by decide) (by decide) ty_4_2 rfl rfl (by omega) (by omega) ⟨by omega, by omega⟩ rfl (fun H3539 e3540 w3541 => ?_))
                              have f3542 := f3537.put' e3540 g0 rfl
                              have k3543 : H3539 r0 2 = v3497 + 1 := wq_u_s e3540
                              exact wp_return e16 c16_285 rfl ⟨rfl, w3541, f3542, rfl⟩
                            · refine wp_of e16 c16_261 (rw_iconst (pc' := 262) rfl ?_)
                              refine wp_of e16 c16_262 (rw_goto (p1 := 266) (by decide) ?_)
                              refine wp_of e16 c16_266 (xp_I (pc' := 269) lf_2_41 w3499 g0 sh_4 (by decide) (by decide) ty_4_3 rfl rfl (by omega) (by omega) ⟨by omega, by omega⟩ rfl (fun H3544 e3545 w3546 => ?_))
                              have f3547 := f3503.put' e3545 g0 rfl
                              have k3548 : H3544 r0 3 = 4 := wq_u_s e3545
                              refine wp_of e16 c16_269 (rw_iinc (pc' := 272) (z := v3497) (L' := [(1, vI (v3497 + 1)), (3, vI ((v3497 - (H3498 r0 4)) - (v3426 - (H3427 r0 4)))), (2, vI (v3426 - (H3427 r0 4))), (0, .ref r0)]) rfl rfl rfl rfl ?_)
                              refine wp_of e16 c16_272 (rw_goto (p1 := 280) (by decide) ?_)
                              refine wp_of e16 c16_280 (rw_aload_n (pc' := 281) (v := .ref r0) rfl rfl rfl ?_)
                              refine wp_of e16 c16_281 (rw_iload_n (pc' := 282) (z := v3497 + 1) rfl rfl ?_)
                              refine wp_of e16 c16_282 (xp_I (pc' := 285) lf_2_23 w3546 g0 sh_4 (by decide) (by decide) ty_4_2 rfl rfl (by omega) (by omega) ⟨by omega, by omega⟩ rfl (fun H3549 e3550 w3551 => ?_))
                              have f3552 := f3547.put' e3550 g0 rfl
                              have k3553 : H3549 r0 2 = v3497 + 1 := wq_u_s e3550
                              exact wp_return e16 c16_285 rfl ⟨rfl, w3551, f3552, rfl⟩
                          · refine wp_of e16 c16_246 (rw_iconst (pc' := 247) rfl ?_)
                            refine wp_of e16 c16_247 (rw_goto (p1 := 266) (by decide) ?_)
                            refine wp_of e16 c16_266 (xp_I (pc' := 269) lf_2_41 w3499 g0 sh_4 (by decide) (by decide) ty_4_3 rfl rfl (by omega) (by omega) ⟨by omega, by omega⟩ rfl (fun H3554 e3555 w3556 => ?_))
                            have f3557 := f3503.put' e3555 g0 rfl
                            have k3558 : H3554 r0 3 = 3 := wq_u_s e3555
                            refine wp_of e16 c16_269 (rw_iinc (pc' := 272) (z := v3497) (L' := [(1, vI (v3497 + 1)), (3, vI ((v3497 - (H3498 r0 4)) - (v3426 - (H3427 r0 4)))), (2, vI (v3426 - (H3427 r0 4))), (0, .ref r0)]) rfl rfl rfl rfl ?_)
                            refine wp_of e16 c16_272 (rw_goto (p1 := 280) (by decide) ?_)
                            refine wp_of e16 c16_280 (rw_aload_n (pc' := 281) (v := .ref r0) rfl rfl rfl ?_)
                            refine wp_of e16 c16_281 (rw_iload_n (pc' := 282) (z := v3497 + 1) rfl rfl ?_)
                            refine wp_of e16 c16_282 (xp_I (pc' := 285) lf_2_23 w3556 g0 sh_4 (by decide) (by decide) ty_4_2 rfl rfl (by omega) (by omega) ⟨by omega, by omega⟩ rfl (fun H3559 e3560 w3561 => ?_))
                            have f3562 := f3557.put' e3560 g0 rfl
                            have k3563 : H3559 r0 2 = v3497 + 1 := wq_u_s e3560
                            exact wp_return e16 c16_285 rfl ⟨rfl, w3561, f3562, rfl⟩
                      · refine wp_of e16 c16_209 (rw_aload_n (pc' := 210) (v := .ref r0) rfl rfl rfl ?_)
                        refine wp_of e16 c16_210 (rw_iload_n (pc' := 211) (z := (v3497 - (H3498 r0 4)) - (v3426 - (H3427 r0 4))) rfl rfl ?_)
                        refine wp_of e16 c16_211 (rw_iconst (pc' := 212) rfl ?_)
                        refine wp_of e16 c16_212 (rw_icmp_gt (p1 := 219) (p2 := 215) (by decide) rfl ⟨by omega, by omega⟩ ⟨by omega, by omega⟩ (fun c3564 => ?_) (fun c3564 => ?_))
                        · refine wp_of e16 c16_219 (rw_iconst (pc' := 220) rfl ?_)
                          refine wp_of e16 c16_220 (xp_I (pc' := 223) lf_2_41 w3499 g0 sh_4 (by decide) (by decide) ty_4_3 rfl rfl (by omega) (by omega) ⟨by omega, by omega⟩ rfl (fun H3565 e3566 w3567 => ?_))
                          have f3568 := f3503.put' e3566 g0 rfl
                          have k3569 : H3565 r0 3 = 5 := wq_u_s e3566
                          refine wp_of e16 c16_223 (rw_goto (p1 := 280) (by decide) ?_)
                          refine wp_of e16 c16_280 (rw_aload_n (pc' := 281) (v := .ref r0) rfl rfl rfl ?_)
                          refine wp_of e16 c16_281 (rw_iload_n (pc' := 282) (z := v3497) rfl rfl ?_)
                          refine wp_of e16 c16_282 (xp_I (pc' := 285) lf_2_23 w3567 g0 sh_4 (by decide) (by decide) ty_4_2 rfl rfl (by omega) (by omega) ⟨by omega, by omega⟩ rfl (fun H3570 e3571 w3572 => ?_))
                          have f3573 := f3568.put' e3571 g0 rfl
                          have k3574 : H3570 r0 2 = v3497 := wq_u_s e3571
                          exact wp_return e16 c16_285 rfl ⟨rfl, w3572, f3573, rfl⟩
                        · refine wp_of e16 c16_215 (rw_iconst (pc' := 216) rfl ?_)
                          refine wp_of e16 c16_216 (rw_goto (p1 := 220) (by decide) ?_)
                          refine wp_of e16 c16_220 (xp_I (pc' := 223) lf_2_41 w3499 g0 sh_4 (by decide) (by decide) ty_4_3 rfl rfl (by omega) (by omega) ⟨by omega, by omega⟩ rfl (fun H3575 e3576 w3577 => ?_))
                          have f3578 := f3503.put' e3576 g0 rfl
                          have k3579 : H3575 r0 3 = 2 := wq_u_s e3576
                          refine wp_of e16 c16_223 (rw_goto (p1 := 280) (by decide) ?_)
                          refine wp_of e16 c16_280 (rw_aload_n (pc' := 281) (v := .ref r0) rfl rfl rfl ?_)
                          refine wp_of e16 c16_281 (rw_iload_n (pc' := 282) (z := v3497) rfl rfl ?_)
                          refine wp_of e16 c16_282 (xp_I (pc' := 285) lf_2_23 w3577 g0 sh_4 (by decide) (by decide) ty_4_2 rfl rfl (by omega) (by omega) ⟨by omega, by omega⟩ rfl (fun H3580 e3581 w3582 => ?_))
                          have f3583 := f3578.put' e3581 g0 rfl
                          have k3584 : H3580 r0 2 = v3497 := wq_u_s e3581
                          exact wp_return e16 c16_285 rfl ⟨rfl, w3582, f3583, rfl⟩
                    · refine wp_of e16 c16_187 (rw_aload_n (pc' := 188) (v := .ref r0) rfl rfl rfl ?_)
                      refine wp_of e16 c16_188 (rw_iload_n (pc' := 189) (z := v3426 - (H3427 r0 4)) rfl rfl ?_)
                      refine wp_of e16 c16_189 (rw_bipush (pc' := 191) (z := 8) rfl (by decide) ?_)
                      refine wp_of e16 c16_191 (rw_icmp_gt (p1 := 198) (p2 := 194) (by decide) rfl ⟨by omega, by omega⟩ ⟨by omega, by omega⟩ (fun c3585 => ?_) (fun c3585 => ?_))
                      · refine wp_of e16 c16_198 (rw_iconst (pc' := 199) rfl ?_)
                        refine wp_of e16 c16_199 (xp_I (pc' := 202) lf_2_41 w3499 g0 sh_4 (by decide) (by decide) ty_4_3 rfl rfl (by omega) (by omega) ⟨by omega, by omega⟩ rfl (fun H3586 e3587 w3588 => ?_))
                        have f3589 := f3503.put' e3587 g0 rfl
                        have k3590 : H3586 r0 3 = 5 := wq_u_s e3587
                        refine wp_of e16 c16_202 (rw_goto (p1 := 280) (by decide) ?_)
                        refine wp_of e16 c16_280 (rw_aload_n (pc' := 281) (v := .ref r0) rfl rfl rfl ?_)
                        refine wp_of e16 c16_281 (rw_iload_n (pc' := 282) (z := v3497) rfl rfl ?_)
                        refine wp_of e16 c16_282 (xp_I (pc' := 285) lf_2_23 w3588 g0 sh_4 (by decide) (by decide) ty_4_2 rfl rfl (by omega) (by omega) ⟨by omega, by omega⟩ rfl (fun H3591 e3592 w3593 => ?_))
                        have f3594 := f3589.put' e3592 g0 rfl
                        have k3595 : H3591 r0 2 = v3497 := wq_u_s e3592
                        exact wp_return e16 c16_285 rfl ⟨rfl, w3593, f3594, rfl⟩
                      · refine wp_of e16 c16_194 (rw_iconst (pc' := 195) rfl ?_)
                        refine wp_of e16 c16_195 (rw_goto (p1 := 199) (by decide) ?_)
                        refine wp_of e16 c16_199 (xp_I (pc' := 202) lf_2_41 w3499 g0 sh_4 (by decide) (by decide) ty_4_3 rfl rfl (by omega) (by omega) ⟨by omega, by omega⟩ rfl (fun H3596 e3597 w3598 => ?_))
                        have f3599 := f3503.put' e3597 g0 rfl
                        have k3600 : H3596 r0 3 = 1 := wq_u_s e3597
                        refine wp_of e16 c16_202 (rw_goto (p1 := 280) (by decide) ?_)
                        refine wp_of e16 c16_280 (rw_aload_n (pc' := 281) (v := .ref r0) rfl rfl rfl ?_)
                        refine wp_of e16 c16_281 (rw_iload_n (pc' := 282) (z := v3497) rfl rfl ?_)
                        refine wp_of e16 c16_282 (xp_I (pc' := 285) lf_2_23 w3598 g0 sh_4 (by decide) (by decide) ty_4_2 rfl rfl (by omega) (by omega) ⟨by omega, by omega⟩ rfl (fun H3601 e3602 w3603 => ?_))
                        have f3604 := f3599.put' e3602 g0 rfl
                        have k3605 : H3601 r0 2 = v3497 := wq_u_s e3602
                        exact wp_return e16 c16_285 rfl ⟨rfl, w3603, f3604, rfl⟩
                  · refine wp_of e16 c16_121 (rw_iload_n (pc' := 122) (z := v3426 - (H3427 r0 4)) rfl rfl ?_)
                    refine wp_of e16 c16_122 (rw_if_ne (p1 := 174) (p2 := 125) (by decide) rfl ⟨by omega, by omega⟩ (fun c3606 => ?_) (fun c3606 => ?_))
                    · refine wp_of e16 c16_174 (rw_iload_n (pc' := 175) (z := v3497) rfl rfl ?_)
                      refine wp_of e16 c16_175 (rw_aload_n (pc' := 176) (v := .ref r0) rfl rfl rfl ?_)
                      have k3607 : H3498 r0 4 = H3427 r0 4 := ((f3500 r0 4 _ g0 rfl).trans (wq_u_j e3441 rfl))
                      refine wp_of e16 c16_176 (xg_I (pc' := 179) lf_2_29 w3499 g0 sh_4 (by decide) (by decide) ty_4_4 rfl rfl (fun b3608 b3609 => ?_))
                      refine wp_of e16 c16_179 (rw_isub (pc' := 180) rfl ?_)
                      refine wp_of e16 c16_180 (rw_iload_n (pc' := 181) (z := v3426 - (H3427 r0 4)) rfl rfl ?_)
                      refine wp_of e16 c16_181 (rw_isub (pc' := 182) rfl ?_)
                      refine wp_of e16 c16_182 (rw_istore_n (pc' := 183) (z := (v3497 - (H3498 r0 4)) - (v3426 - (H3427 r0 4))) (L' := [(3, vI ((v3497 - (H3498 r0 4)) - (v3426 - (H3427 r0 4)))), (1, vI v3497), (2, vI (v3426 - (H3427 r0 4))), (0, .ref r0)]) rfl rfl rfl ?_)
                      refine wp_of e16 c16_183 (rw_iload_n (pc' := 184) (z := v3426 - (H3427 r0 4)) rfl rfl ?_)
                      refine wp_of e16 c16_184 (rw_if_le (p1 := 205) (p2 := 187) (by decide) rfl ⟨by omega, by omega⟩ (fun c3610 => ?_) (fun c3610 => ?_))
                      · refine wp_of e16 c16_205 (rw_iload_n (pc' := 206) (z := (v3497 - (H3498 r0 4)) - (v3426 - (H3427 r0 4))) rfl rfl ?_)
                        refine wp_of e16 c16_206 (rw_if_le (p1 := 226) (p2 := 209) (by decide) rfl ⟨by omega, by omega⟩ (fun c3611 => ?_) (fun c3611 => ?_))
                        · refine wp_of e16 c16_226 (rw_iload_n (pc' := 227) (z := v3497) rfl rfl ?_)
                          refine wp_of e16 c16_227 (rw_aload_n (pc' := 228) (v := .ref r0) rfl rfl rfl ?_)
                          refine wp_of e16 c16_228 (xg_I (pc' := 231) lf_2_19 w3499 g0 sh_4 (by decide) (by decide) ty_4_1 rfl rfl (fun b3612 b3613 => ?_))
                          refine wp_of e16 c16_231 (rw_icmp_ge (p1 := 275) (p2 := 234) (by decide) rfl ⟨by omega, by omega⟩ ⟨by omega, by omega⟩ (fun c3614 => ?_) (fun c3614 => ?_))
                          · refine wp_of e16 c16_275 (rw_aload_n (pc' := 276) (v := .ref r0) rfl rfl rfl ?_)
                            refine wp_of e16 c16_276 (rw_iconst (pc' := 277) rfl ?_)
                            refine wp_of e16 c16_277 (xp_I (pc' := 280) lf_2_41 w3499 g0 sh_4 (by decide) (by decide) ty_4_3 rfl rfl (by omega) (by omega) ⟨by omega, by omega⟩ rfl (fun H3615 e3616 w3617 => ?_))
                            have f3618 := f3503.put' e3616 g0 rfl
                            have k3619 : H3615 r0 3 = 0 := wq_u_s e3616
                            refine wp_of e16 c16_280 (rw_aload_n (pc' := 281) (v := .ref r0) rfl rfl rfl ?_)
                            refine wp_of e16 c16_281 (rw_iload_n (pc' := 282) (z := v3497) rfl rfl ?_)
                            refine wp_of e16 c16_282 (xp_I (pc' := 285) lf_2_23 w3617 g0 sh_4 (by decide) (by decide) ty_4_2 rfl rfl (by omega) (by omega) ⟨by omega, by omega⟩ rfl (fun H3620 e3621 w3622 => ?_))
                            have f3623 := f3618.put' e3621 g0 rfl
                            have k3624 : H3620 r0 2 = v3497 := wq_u_s e3621
                            exact wp_return e16 c16_285 rfl ⟨rfl, w3622, f3623, rfl⟩
                          · refine wp_of e16 c16_234 (rw_aload_n (pc' := 235) (v := .ref r0) rfl rfl rfl ?_)
                            refine wp_of e16 c16_235 (rw_aload_n (pc' := 236) (v := .ref r0) rfl rfl rfl ?_)
                            have k3625 : H3498 r0 0 = H r0 0 := ((f3500 r0 0 _ g0 rfl).trans ((wq_u_j e3441 rfl).trans ((f3429 r0 0 _ g0 rfl).trans ((wq_u_j e3372 rfl).trans (wq_u_j e3367 rfl)))))
                            have q3626 : H3498 r0 0 = (rb : Int) := k3625.trans qrb
                            refine wp_of e16 c16_236 (xg_K (pc' := 239) lf_2_7 w3499 g0 sh_4 (by decide) (by decide) rfl q3626 rfl ?_)
                            refine wp_of e16 c16_239 (rw_iload_n (pc' := 240) (z := v3497) rfl rfl ?_)
                            refine wp_of e16 c16_240 (xa_B (by decide) (pc' := 241) w3499 grb sh_2 (by decide) (ty_2 _) (by omega) (by omega) rfl (fun b3627 b3628 => ?_))
                            refine wp_of e16 c16_241 (rw_bipush (pc' := 243) (z := 59) rfl (by decide) ?_)
                            refine wp_of e16 c16_243 (rw_icmp_ne (p1 := 250) (p2 := 246) (by decide) rfl ⟨by omega, by omega⟩ ⟨by omega, by omega⟩ (fun c3629 => ?_) (fun c3629 => ?_))
                            · refine wp_of e16 c16_250 (rw_aload_n (pc' := 251) (v := .ref r0) rfl rfl rfl ?_)
                              refine wp_of e16 c16_251 (xg_K (pc' := 254) lf_2_7 w3499 g0 sh_4 (by decide) (by decide) rfl q3626 rfl ?_)
                              refine wp_of e16 c16_254 (rw_iload_n (pc' := 255) (z := v3497) rfl rfl ?_)
                              refine wp_of e16 c16_255 (xa_B (by decide) (pc' := 256) w3499 grb sh_2 (by decide) (ty_2 _) (by omega) (by omega) rfl (fun b3630 b3631 => ?_))
                              refine wp_of e16 c16_256 (rw_bipush (pc' := 258) (z := 44) rfl (by decide) ?_)
                              refine wp_of e16 c16_258 (rw_icmp_ne (p1 := 265) (p2 := 261) (by decide) rfl ⟨by omega, by omega⟩ ⟨by omega, by omega⟩ (fun c3632 => ?_) (fun c3632 => ?_))
                              · refine wp_of e16 c16_265 (rw_iconst (pc' := 266) rfl ?_)
                                refine wp_of e16 c16_266 (xp_I (pc' := 269) lf_2_41 w3499 g0 sh_4 (by decide) (by decide) ty_4_3 rfl rfl (by omega) (by omega) ⟨by omega, by omega⟩ rfl (fun H3633 e3634 w3635 => ?_))
                                have f3636 := f3503.put' e3634 g0 rfl
                                have k3637 : H3633 r0 3 = 5 := wq_u_s e3634
                                refine wp_of e16 c16_269 (rw_iinc (pc' := 272) (z := v3497) (L' := [(1, vI (v3497 + 1)), (3, vI ((v3497 - (H3498 r0 4)) - (v3426 - (H3427 r0 4)))), (2, vI (v3426 - (H3427 r0 4))), (0, .ref r0)]) rfl rfl rfl rfl ?_)
                                refine wp_of e16 c16_272 (rw_goto (p1 := 280) (by decide) ?_)
                                refine wp_of e16 c16_280 (rw_aload_n (pc' := 281) (v := .ref r0) rfl rfl rfl ?_)
                                refine wp_of e16 c16_281 (rw_iload_n (pc' := 282) (z := v3497 + 1) rfl rfl ?_)
                                refine wp_of e16 c16_282 (xp_I (pc' := 285) lf_2_23 w3635 g0 sh_4 (by decide) (by decide) ty_4_2 rfl rfl (by omega) (by omega) ⟨by omega, by omega⟩ rfl (fun H3638 e3639 w3640 => ?_))
                                have f3641 := f3636.put' e3639 g0 rfl
                                have k3642 : H3638 r0 2 = v3497 + 1 := wq_u_s e3639
                                exact wp_return e16 c16_285 rfl ⟨rfl, w3640, f3641, rfl⟩
                              · refine wp_of e16 c16_261 (rw_iconst (pc' := 262) rfl ?_)
                                refine wp_of e16 c16_262 (rw_goto (p1 := 266) (by decide) ?_)
                                refine wp_of e16 c16_266 (xp_I (pc' := 269) lf_2_41 w3499 g0 sh_4 (by decide) (by decide) ty_4_3 rfl rfl (by omega) (by omega) ⟨by omega, by omega⟩ rfl (fun H3643 e3644 w3645 => ?_))
                                have f3646 := f3503.put' e3644 g0 rfl
                                have k3647 : H3643 r0 3 = 4 := wq_u_s e3644
                                refine wp_of e16 c16_269 (rw_iinc (pc' := 272) (z := v3497) (L' := [(1, vI (v3497 + 1)), (3, vI ((v3497 - (H3498 r0 4)) - (v3426 - (H3427 r0 4)))), (2, vI (v3426 - (H3427 r0 4))), (0, .ref r0)]) rfl rfl rfl rfl ?_)
                                refine wp_of e16 c16_272 (rw_goto (p1 := 280) (by decide) ?_)
                                refine wp_of e16 c16_280 (rw_aload_n (pc' := 281) (v := .ref r0) rfl rfl rfl ?_)
                                refine wp_of e16 c16_281 (rw_iload_n (pc' := 282) (z := v3497 + 1) rfl rfl ?_)
                                refine wp_of e16 c16_282 (xp_I (pc' := 285) lf_2_23 w3645 g0 sh_4 (by decide) (by decide) ty_4_2 rfl rfl (by omega) (by omega) ⟨by omega, by omega⟩ rfl (fun H3648 e3649 w3650 => ?_))
                                have f3651 := f3646.put' e3649 g0 rfl
                                have k3652 : H3648 r0 2 = v3497 + 1 := wq_u_s e3649
                                exact wp_return e16 c16_285 rfl ⟨rfl, w3650, f3651, rfl⟩
                            · refine wp_of e16 c16_246 (rw_iconst (pc' := 247) rfl ?_)
                              refine wp_of e16 c16_247 (rw_goto (p1 := 266) (by decide) ?_)
                              refine wp_of e16 c16_266 (xp_I (pc' := 269) lf_2_41 w3499 g0 sh_4 (by decide) (by decide) ty_4_3 rfl rfl (by omega) (by omega) ⟨by omega, by omega⟩ rfl (fun H3653 e3654 w3655 => ?_))
                              have f3656 := f3503.put' e3654 g0 rfl
                              have k3657 : H3653 r0 3 = 3 := wq_u_s e3654
                              refine wp_of e16 c16_269 (rw_iinc (pc' := 272) (z := v3497) (L' := [(1, vI (v3497 + 1)), (3, vI ((v3497 - (H3498 r0 4)) - (v3426 - (H3427 r0 4)))), (2, vI (v3426 - (H3427 r0 4))), (0, .ref r0)]) rfl rfl rfl rfl ?_)
                              refine wp_of e16 c16_272 (rw_goto (p1 := 280) (by decide) ?_)
                              refine wp_of e16 c16_280 (rw_aload_n (pc' := 281) (v := .ref r0) rfl rfl rfl ?_)
                              refine wp_of e16 c16_281 (rw_iload_n (pc' := 282) (z := v3497 + 1) rfl rfl ?_)
                              refine wp_of e16 c16_282 (xp_I (pc' := 285) lf_2_23 w3655 g0 sh_4 (by decide) (by decide) ty_4_2 rfl rfl (by omega) (by omega) ⟨by omega, by omega⟩ rfl (fun H3658 e3659 w3660 => ?_))
                              have f3661 := f3656.put' e3659 g0 rfl
                              have k3662 : H3658 r0 2 = v3497 + 1 := wq_u_s e3659
                              exact wp_return e16 c16_285 rfl ⟨rfl, w3660, f3661, rfl⟩
                        · refine wp_of e16 c16_209 (rw_aload_n (pc' := 210) (v := .ref r0) rfl rfl rfl ?_)
                          refine wp_of e16 c16_210 (rw_iload_n (pc' := 211) (z := (v3497 - (H3498 r0 4)) - (v3426 - (H3427 r0 4))) rfl rfl ?_)
                          refine wp_of e16 c16_211 (rw_iconst (pc' := 212) rfl ?_)
                          refine wp_of e16 c16_212 (rw_icmp_gt (p1 := 219) (p2 := 215) (by decide) rfl ⟨by omega, by omega⟩ ⟨by omega, by omega⟩ (fun c3663 => ?_) (fun c3663 => ?_))
                          · refine wp_of e16 c16_219 (rw_iconst (pc' := 220) rfl ?_)
                            refine wp_of e16 c16_220 (xp_I (pc' := 223) lf_2_41 w3499 g0 sh_4 (by decide) (by decide) ty_4_3 rfl rfl (by omega) (by omega) ⟨by omega, by omega⟩ rfl (fun H3664 e3665 w3666 => ?_))
                            have f3667 := f3503.put' e3665 g0 rfl
                            have k3668 : H3664 r0 3 = 5 := wq_u_s e3665
                            refine wp_of e16 c16_223 (rw_goto (p1 := 280) (by decide) ?_)
                            refine wp_of e16 c16_280 (rw_aload_n (pc' := 281) (v := .ref r0) rfl rfl rfl ?_)
                            refine wp_of e16 c16_281 (rw_iload_n (pc' := 282) (z := v3497) rfl rfl ?_)
                            refine wp_of e16 c16_282 (xp_I (pc' := 285) lf_2_23 w3666 g0 sh_4 (by decide) (by decide) ty_4_2 rfl rfl (by omega) (by omega) ⟨by omega, by omega⟩ rfl (fun H3669 e3670 w3671 => ?_))
                            have f3672 := f3667.put' e3670 g0 rfl
                            have k3673 : H3669 r0 2 = v3497 := wq_u_s e3670
                            exact wp_return e16 c16_285 rfl ⟨rfl, w3671, f3672, rfl⟩
                          · refine wp_of e16 c16_215 (rw_iconst (pc' := 216) rfl ?_)
                            refine wp_of e16 c16_216 (rw_goto (p1 := 220) (by decide) ?_)
                            refine wp_of e16 c16_220 (xp_I (pc' := 223) lf_2_41 w3499 g0 sh_4 (by decide) (by decide) ty_4_3 rfl rfl (by omega) (by omega) ⟨by omega, by omega⟩ rfl (fun H3674 e3675 w3676 => ?_))
                            have f3677 := f3503.put' e3675 g0 rfl
                            have k3678 : H3674 r0 3 = 2 := wq_u_s e3675
                            refine wp_of e16 c16_223 (rw_goto (p1 := 280) (by decide) ?_)
                            refine wp_of e16 c16_280 (rw_aload_n (pc' := 281) (v := .ref r0) rfl rfl rfl ?_)
                            refine wp_of e16 c16_281 (rw_iload_n (pc' := 282) (z := v3497) rfl rfl ?_)
                            refine wp_of e16 c16_282 (xp_I (pc' := 285) lf_2_23 w3676 g0 sh_4 (by decide) (by decide) ty_4_2 rfl rfl (by omega) (by omega) ⟨by omega, by omega⟩ rfl (fun H3679 e3680 w3681 => ?_))
                            have f3682 := f3677.put' e3680 g0 rfl
                            have k3683 : H3679 r0 2 = v3497 := wq_u_s e3680
                            exact wp_return e16 c16_285 rfl ⟨rfl, w3681, f3682, rfl⟩
                      · refine wp_of e16 c16_187 (rw_aload_n (pc' := 188) (v := .ref r0) rfl rfl rfl ?_)
                        refine wp_of e16 c16_188 (rw_iload_n (pc' := 189) (z := v3426 - (H3427 r0 4)) rfl rfl ?_)
                        refine wp_of e16 c16_189 (rw_bipush (pc' := 191) (z := 8) rfl (by decide) ?_)
                        refine wp_of e16 c16_191 (rw_icmp_gt (p1 := 198) (p2 := 194) (by decide) rfl ⟨by omega, by omega⟩ ⟨by omega, by omega⟩ (fun c3684 => ?_) (fun c3684 => ?_))
                        · refine wp_of e16 c16_198 (rw_iconst (pc' := 199) rfl ?_)
                          refine wp_of e16 c16_199 (xp_I (pc' := 202) lf_2_41 w3499 g0 sh_4 (by decide) (by decide) ty_4_3 rfl rfl (by omega) (by omega) ⟨by omega, by omega⟩ rfl (fun H3685 e3686 w3687 => ?_))
                          have f3688 := f3503.put' e3686 g0 rfl
                          have k3689 : H3685 r0 3 = 5 := wq_u_s e3686
                          refine wp_of e16 c16_202 (rw_goto (p1 := 280) (by decide) ?_)
                          refine wp_of e16 c16_280 (rw_aload_n (pc' := 281) (v := .ref r0) rfl rfl rfl ?_)
                          refine wp_of e16 c16_281 (rw_iload_n (pc' := 282) (z := v3497) rfl rfl ?_)
                          refine wp_of e16 c16_282 (xp_I (pc' := 285) lf_2_23 w3687 g0 sh_4 (by decide) (by decide) ty_4_2 rfl rfl (by omega) (by omega) ⟨by omega, by omega⟩ rfl (fun H3690 e3691 w3692 => ?_))
                          have f3693 := f3688.put' e3691 g0 rfl
                          have k3694 : H3690 r0 2 = v3497 := wq_u_s e3691
                          exact wp_return e16 c16_285 rfl ⟨rfl, w3692, f3693, rfl⟩
                        · refine wp_of e16 c16_194 (rw_iconst (pc' := 195) rfl ?_)
                          refine wp_of e16 c16_195 (rw_goto (p1 := 199) (by decide) ?_)
                          refine wp_of e16 c16_199 (xp_I (pc' := 202) lf_2_41 w3499 g0 sh_4 (by decide) (by decide) ty_4_3 rfl rfl (by omega) (by omega) ⟨by omega, by omega⟩ rfl (fun H3695 e3696 w3697 => ?_))
                          have f3698 := f3503.put' e3696 g0 rfl
                          have k3699 : H3695 r0 3 = 1 := wq_u_s e3696
                          refine wp_of e16 c16_202 (rw_goto (p1 := 280) (by decide) ?_)
                          refine wp_of e16 c16_280 (rw_aload_n (pc' := 281) (v := .ref r0) rfl rfl rfl ?_)
                          refine wp_of e16 c16_281 (rw_iload_n (pc' := 282) (z := v3497) rfl rfl ?_)
                          refine wp_of e16 c16_282 (xp_I (pc' := 285) lf_2_23 w3697 g0 sh_4 (by decide) (by decide) ty_4_2 rfl rfl (by omega) (by omega) ⟨by omega, by omega⟩ rfl (fun H3700 e3701 w3702 => ?_))
                          have f3703 := f3698.put' e3701 g0 rfl
                          have k3704 : H3700 r0 2 = v3497 := wq_u_s e3701
                          exact wp_return e16 c16_285 rfl ⟨rfl, w3702, f3703, rfl⟩
                    · refine wp_of e16 c16_125 (rw_aload_n (pc' := 126) (v := .ref r0) rfl rfl rfl ?_)
                      have k3705 : H3498 r0 0 = H r0 0 := ((f3500 r0 0 _ g0 rfl).trans ((wq_u_j e3441 rfl).trans ((f3429 r0 0 _ g0 rfl).trans ((wq_u_j e3372 rfl).trans (wq_u_j e3367 rfl)))))
                      have q3706 : H3498 r0 0 = (rb : Int) := k3705.trans qrb
                      refine wp_of e16 c16_126 (xg_K (pc' := 129) lf_2_7 w3499 g0 sh_4 (by decide) (by decide) rfl q3706 rfl ?_)
                      refine wp_of e16 c16_129 (rw_iload_n (pc' := 130) (z := v3497) rfl rfl ?_)
                      refine wp_of e16 c16_130 (xa_B (by decide) (pc' := 131) w3499 grb sh_2 (by decide) (ty_2 _) (by omega) (by omega) rfl (fun b3707 b3708 => ?_))
                      refine wp_of e16 c16_131 (rw_bipush (pc' := 133) (z := 48) rfl (by decide) ?_)
                      refine wp_of e16 c16_133 (rw_icmp_lt (p1 := 174) (p2 := 136) (by decide) rfl ⟨by omega, by omega⟩ ⟨by omega, by omega⟩ (fun c3709 => ?_) (fun c3709 => ?_))
                      · refine wp_of e16 c16_174 (rw_iload_n (pc' := 175) (z := v3497) rfl rfl ?_)
                        refine wp_of e16 c16_175 (rw_aload_n (pc' := 176) (v := .ref r0) rfl rfl rfl ?_)
                        have k3710 : H3498 r0 4 = H3427 r0 4 := ((f3500 r0 4 _ g0 rfl).trans (wq_u_j e3441 rfl))
                        refine wp_of e16 c16_176 (xg_I (pc' := 179) lf_2_29 w3499 g0 sh_4 (by decide) (by decide) ty_4_4 rfl rfl (fun b3711 b3712 => ?_))
                        refine wp_of e16 c16_179 (rw_isub (pc' := 180) rfl ?_)
                        refine wp_of e16 c16_180 (rw_iload_n (pc' := 181) (z := v3426 - (H3427 r0 4)) rfl rfl ?_)
                        refine wp_of e16 c16_181 (rw_isub (pc' := 182) rfl ?_)
                        refine wp_of e16 c16_182 (rw_istore_n (pc' := 183) (z := (v3497 - (H3498 r0 4)) - (v3426 - (H3427 r0 4))) (L' := [(3, vI ((v3497 - (H3498 r0 4)) - (v3426 - (H3427 r0 4)))), (1, vI v3497), (2, vI (v3426 - (H3427 r0 4))), (0, .ref r0)]) rfl rfl rfl ?_)
                        refine wp_of e16 c16_183 (rw_iload_n (pc' := 184) (z := v3426 - (H3427 r0 4)) rfl rfl ?_)
                        refine wp_of e16 c16_184 (rw_if_le (p1 := 205) (p2 := 187) (by decide) rfl ⟨by omega, by omega⟩ (fun c3713 => ?_) (fun c3713 => ?_))
                        · refine wp_of e16 c16_205 (rw_iload_n (pc' := 206) (z := (v3497 - (H3498 r0 4)) - (v3426 - (H3427 r0 4))) rfl rfl ?_)
                          refine wp_of e16 c16_206 (rw_if_le (p1 := 226) (p2 := 209) (by decide) rfl ⟨by omega, by omega⟩ (fun c3714 => ?_) (fun c3714 => ?_))
                          · refine wp_of e16 c16_226 (rw_iload_n (pc' := 227) (z := v3497) rfl rfl ?_)
                            refine wp_of e16 c16_227 (rw_aload_n (pc' := 228) (v := .ref r0) rfl rfl rfl ?_)
                            refine wp_of e16 c16_228 (xg_I (pc' := 231) lf_2_19 w3499 g0 sh_4 (by decide) (by decide) ty_4_1 rfl rfl (fun b3715 b3716 => ?_))
                            refine wp_of e16 c16_231 (rw_icmp_ge (p1 := 275) (p2 := 234) (by decide) rfl ⟨by omega, by omega⟩ ⟨by omega, by omega⟩ (fun c3717 => ?_) (fun c3717 => ?_))
                            · refine wp_of e16 c16_275 (rw_aload_n (pc' := 276) (v := .ref r0) rfl rfl rfl ?_)
                              refine wp_of e16 c16_276 (rw_iconst (pc' := 277) rfl ?_)
                              refine wp_of e16 c16_277 (xp_I (pc' := 280) lf_2_41 w3499 g0 sh_4 (by decide) (by decide) ty_4_3 rfl rfl (by omega) (by omega) ⟨by omega, by omega⟩ rfl (fun H3718 e3719 w3720 => ?_))
                              have f3721 := f3503.put' e3719 g0 rfl
                              have k3722 : H3718 r0 3 = 0 := wq_u_s e3719
                              refine wp_of e16 c16_280 (rw_aload_n (pc' := 281) (v := .ref r0) rfl rfl rfl ?_)
                              refine wp_of e16 c16_281 (rw_iload_n (pc' := 282) (z := v3497) rfl rfl ?_)
                              refine wp_of e16 c16_282 (xp_I (pc' := 285) lf_2_23 w3720 g0 sh_4 (by decide) (by decide) ty_4_2 rfl rfl (by omega) (by omega) ⟨by omega, by omega⟩ rfl (fun H3723 e3724 w3725 => ?_))
                              have f3726 := f3721.put' e3724 g0 rfl
                              have k3727 : H3723 r0 2 = v3497 := wq_u_s e3724
                              exact wp_return e16 c16_285 rfl ⟨rfl, w3725, f3726, rfl⟩
                            · refine wp_of e16 c16_234 (rw_aload_n (pc' := 235) (v := .ref r0) rfl rfl rfl ?_)
                              refine wp_of e16 c16_235 (rw_aload_n (pc' := 236) (v := .ref r0) rfl rfl rfl ?_)
                              refine wp_of e16 c16_236 (xg_K (pc' := 239) lf_2_7 w3499 g0 sh_4 (by decide) (by decide) rfl q3706 rfl ?_)
                              refine wp_of e16 c16_239 (rw_iload_n (pc' := 240) (z := v3497) rfl rfl ?_)
                              refine wp_of e16 c16_240 (xa_B (by decide) (pc' := 241) w3499 grb sh_2 (by decide) (ty_2 _) (by omega) (by omega) rfl (fun b3728 b3729 => ?_))
                              refine wp_of e16 c16_241 (rw_bipush (pc' := 243) (z := 59) rfl (by decide) ?_)
                              refine wp_of e16 c16_243 (rw_icmp_ne (p1 := 250) (p2 := 246) (by decide) rfl ⟨by omega, by omega⟩ ⟨by omega, by omega⟩ (fun c3730 => ?_) (fun c3730 => ?_))
                              · refine wp_of e16 c16_250 (rw_aload_n (pc' := 251) (v := .ref r0) rfl rfl rfl ?_)
                                refine wp_of e16 c16_251 (xg_K (pc' := 254) lf_2_7 w3499 g0 sh_4 (by decide) (by decide) rfl q3706 rfl ?_)
                                refine wp_of e16 c16_254 (rw_iload_n (pc' := 255) (z := v3497) rfl rfl ?_)
                                refine wp_of e16 c16_255 (xa_B (by decide) (pc' := 256) w3499 grb sh_2 (by decide) (ty_2 _) (by omega) (by omega) rfl (fun b3731 b3732 => ?_))
                                refine wp_of e16 c16_256 (rw_bipush (pc' := 258) (z := 44) rfl (by decide) ?_)
                                refine wp_of e16 c16_258 (rw_icmp_ne (p1 := 265) (p2 := 261) (by decide) rfl ⟨by omega, by omega⟩ ⟨by omega, by omega⟩ (fun c3733 => ?_) (fun c3733 => ?_))
                                · refine wp_of e16 c16_265 (rw_iconst (pc' := 266) rfl ?_)
                                  refine wp_of e16 c16_266 (xp_I (pc' := 269) lf_2_41 w3499 g0 sh_4 (by decide) (by decide) ty_4_3 rfl rfl (by omega) (by omega) ⟨by omega, by omega⟩ rfl (fun H3734 e3735 w3736 => ?_))
                                  have f3737 := f3503.put' e3735 g0 rfl
                                  have k3738 : H3734 r0 3 = 5 := wq_u_s e3735
                                  refine wp_of e16 c16_269 (rw_iinc (pc' := 272) (z := v3497) (L' := [(1, vI (v3497 + 1)), (3, vI ((v3497 - (H3498 r0 4)) - (v3426 - (H3427 r0 4)))), (2, vI (v3426 - (H3427 r0 4))), (0, .ref r0)]) rfl rfl rfl rfl ?_)
                                  refine wp_of e16 c16_272 (rw_goto (p1 := 280) (by decide) ?_)
                                  refine wp_of e16 c16_280 (rw_aload_n (pc' := 281) (v := .ref r0) rfl rfl rfl ?_)
                                  refine wp_of e16 c16_281 (rw_iload_n (pc' := 282) (z := v3497 + 1) rfl rfl ?_)
                                  refine wp_of e16 c16_282 (xp_I (pc' := 285) lf_2_23 w3736 g0 sh_4 (by decide) (by decide) ty_4_2 rfl rfl (by omega) (by omega) ⟨by omega, by omega⟩ rfl (fun H3739 e3740 w3741 => ?_))
                                  have f3742 := f3737.put' e3740 g0 rfl
                                  have k3743 : H3739 r0 2 = v3497 + 1 := wq_u_s e3740
                                  exact wp_return e16 c16_285 rfl ⟨rfl, w3741, f3742, rfl⟩
                                · refine wp_of e16 c16_261 (rw_iconst (pc' := 262) rfl ?_)
                                  refine wp_of e16 c16_262 (rw_goto (p1 := 266) (by decide) ?_)
                                  refine wp_of e16 c16_266 (xp_I (pc' := 269) lf_2_41 w3499 g0 sh_4 (by decide) (by decide) ty_4_3 rfl rfl (by omega) (by omega) ⟨by omega, by omega⟩ rfl (fun H3744 e3745 w3746 => ?_))
                                  have f3747 := f3503.put' e3745 g0 rfl
                                  have k3748 : H3744 r0 3 = 4 := wq_u_s e3745
                                  refine wp_of e16 c16_269 (rw_iinc (pc' := 272) (z := v3497) (L' := [(1, vI (v3497 + 1)), (3, vI ((v3497 - (H3498 r0 4)) - (v3426 - (H3427 r0 4)))), (2, vI (v3426 - (H3427 r0 4))), (0, .ref r0)]) rfl rfl rfl rfl ?_)
                                  refine wp_of e16 c16_272 (rw_goto (p1 := 280) (by decide) ?_)
                                  refine wp_of e16 c16_280 (rw_aload_n (pc' := 281) (v := .ref r0) rfl rfl rfl ?_)
                                  refine wp_of e16 c16_281 (rw_iload_n (pc' := 282) (z := v3497 + 1) rfl rfl ?_)
                                  refine wp_of e16 c16_282 (xp_I (pc' := 285) lf_2_23 w3746 g0 sh_4 (by decide) (by decide) ty_4_2 rfl rfl (by omega) (by omega) ⟨by omega, by omega⟩ rfl (fun H3749 e3750 w3751 => ?_))
                                  have f3752 := f3747.put' e3750 g0 rfl
                                  have k3753 : H3749 r0 2 = v3497 + 1 := wq_u_s e3750
                                  exact wp_return e16 c16_285 rfl ⟨rfl, w3751, f3752, rfl⟩
                              · exfalso
                                omega
                          · refine wp_of e16 c16_209 (rw_aload_n (pc' := 210) (v := .ref r0) rfl rfl rfl ?_)
                            refine wp_of e16 c16_210 (rw_iload_n (pc' := 211) (z := (v3497 - (H3498 r0 4)) - (v3426 - (H3427 r0 4))) rfl rfl ?_)
                            refine wp_of e16 c16_211 (rw_iconst (pc' := 212) rfl ?_)
                            refine wp_of e16 c16_212 (rw_icmp_gt (p1 := 219) (p2 := 215) (by decide) rfl ⟨by omega, by omega⟩ ⟨by omega, by omega⟩ (fun c3754 => ?_) (fun c3754 => ?_))
                            · refine wp_of e16 c16_219 (rw_iconst (pc' := 220) rfl ?_)
                              refine wp_of e16 c16_220 (xp_I (pc' := 223) lf_2_41 w3499 g0 sh_4 (by decide) (by decide) ty_4_3 rfl rfl (by omega) (by omega) ⟨by omega, by omega⟩ rfl (fun H3755 e3756 w3757 => ?_))
                              have f3758 := f3503.put' e3756 g0 rfl
                              have k3759 : H3755 r0 3 = 5 := wq_u_s e3756
                              refine wp_of e16 c16_223 (rw_goto (p1 := 280) (by decide) ?_)
                              refine wp_of e16 c16_280 (rw_aload_n (pc' := 281) (v := .ref r0) rfl rfl rfl ?_)
                              refine wp_of e16 c16_281 (rw_iload_n (pc' := 282) (z := v3497) rfl rfl ?_)
                              refine wp_of e16 c16_282 (xp_I (pc' := 285) lf_2_23 w3757 g0 sh_4 (by decide) (by decide) ty_4_2 rfl rfl (by omega) (by omega) ⟨by omega, by omega⟩ rfl (fun H3760 e3761 w3762 => ?_))
                              have f3763 := f3758.put' e3761 g0 rfl
                              have k3764 : H3760 r0 2 = v3497 := wq_u_s e3761
                              exact wp_return e16 c16_285 rfl ⟨rfl, w3762, f3763, rfl⟩
                            · refine wp_of e16 c16_215 (rw_iconst (pc' := 216) rfl ?_)
                              refine wp_of e16 c16_216 (rw_goto (p1 := 220) (by decide) ?_)
                              refine wp_of e16 c16_220 (xp_I (pc' := 223) lf_2_41 w3499 g0 sh_4 (by decide) (by decide) ty_4_3 rfl rfl (by omega) (by omega) ⟨by omega, by omega⟩ rfl (fun H3765 e3766 w3767 => ?_))
                              have f3768 := f3503.put' e3766 g0 rfl
                              have k3769 : H3765 r0 3 = 2 := wq_u_s e3766
                              refine wp_of e16 c16_223 (rw_goto (p1 := 280) (by decide) ?_)
                              refine wp_of e16 c16_280 (rw_aload_n (pc' := 281) (v := .ref r0) rfl rfl rfl ?_)
                              refine wp_of e16 c16_281 (rw_iload_n (pc' := 282) (z := v3497) rfl rfl ?_)
                              refine wp_of e16 c16_282 (xp_I (pc' := 285) lf_2_23 w3767 g0 sh_4 (by decide) (by decide) ty_4_2 rfl rfl (by omega) (by omega) ⟨by omega, by omega⟩ rfl (fun H3770 e3771 w3772 => ?_))
                              have f3773 := f3768.put' e3771 g0 rfl
                              have k3774 : H3770 r0 2 = v3497 := wq_u_s e3771
                              exact wp_return e16 c16_285 rfl ⟨rfl, w3772, f3773, rfl⟩
                        · exfalso
                          omega
                      · refine wp_of e16 c16_136 (rw_aload_n (pc' := 137) (v := .ref r0) rfl rfl rfl ?_)
                        refine wp_of e16 c16_137 (xg_K (pc' := 140) lf_2_7 w3499 g0 sh_4 (by decide) (by decide) rfl q3706 rfl ?_)
                        refine wp_of e16 c16_140 (rw_iload_n (pc' := 141) (z := v3497) rfl rfl ?_)
                        refine wp_of e16 c16_141 (xa_B (by decide) (pc' := 142) w3499 grb sh_2 (by decide) (ty_2 _) (by omega) (by omega) rfl (fun b3775 b3776 => ?_))
                        refine wp_of e16 c16_142 (rw_bipush (pc' := 144) (z := 57) rfl (by decide) ?_)
                        refine wp_of e16 c16_144 (rw_icmp_gt (p1 := 174) (p2 := 147) (by decide) rfl ⟨by omega, by omega⟩ ⟨by omega, by omega⟩ (fun c3777 => ?_) (fun c3777 => ?_))
                        · refine wp_of e16 c16_174 (rw_iload_n (pc' := 175) (z := v3497) rfl rfl ?_)
                          refine wp_of e16 c16_175 (rw_aload_n (pc' := 176) (v := .ref r0) rfl rfl rfl ?_)
                          have k3778 : H3498 r0 4 = H3427 r0 4 := ((f3500 r0 4 _ g0 rfl).trans (wq_u_j e3441 rfl))
                          refine wp_of e16 c16_176 (xg_I (pc' := 179) lf_2_29 w3499 g0 sh_4 (by decide) (by decide) ty_4_4 rfl rfl (fun b3779 b3780 => ?_))
                          refine wp_of e16 c16_179 (rw_isub (pc' := 180) rfl ?_)
                          refine wp_of e16 c16_180 (rw_iload_n (pc' := 181) (z := v3426 - (H3427 r0 4)) rfl rfl ?_)
                          refine wp_of e16 c16_181 (rw_isub (pc' := 182) rfl ?_)
                          refine wp_of e16 c16_182 (rw_istore_n (pc' := 183) (z := (v3497 - (H3498 r0 4)) - (v3426 - (H3427 r0 4))) (L' := [(3, vI ((v3497 - (H3498 r0 4)) - (v3426 - (H3427 r0 4)))), (1, vI v3497), (2, vI (v3426 - (H3427 r0 4))), (0, .ref r0)]) rfl rfl rfl ?_)
                          refine wp_of e16 c16_183 (rw_iload_n (pc' := 184) (z := v3426 - (H3427 r0 4)) rfl rfl ?_)
                          refine wp_of e16 c16_184 (rw_if_le (p1 := 205) (p2 := 187) (by decide) rfl ⟨by omega, by omega⟩ (fun c3781 => ?_) (fun c3781 => ?_))
                          · refine wp_of e16 c16_205 (rw_iload_n (pc' := 206) (z := (v3497 - (H3498 r0 4)) - (v3426 - (H3427 r0 4))) rfl rfl ?_)
                            refine wp_of e16 c16_206 (rw_if_le (p1 := 226) (p2 := 209) (by decide) rfl ⟨by omega, by omega⟩ (fun c3782 => ?_) (fun c3782 => ?_))
                            · refine wp_of e16 c16_226 (rw_iload_n (pc' := 227) (z := v3497) rfl rfl ?_)
                              refine wp_of e16 c16_227 (rw_aload_n (pc' := 228) (v := .ref r0) rfl rfl rfl ?_)
                              refine wp_of e16 c16_228 (xg_I (pc' := 231) lf_2_19 w3499 g0 sh_4 (by decide) (by decide) ty_4_1 rfl rfl (fun b3783 b3784 => ?_))
                              refine wp_of e16 c16_231 (rw_icmp_ge (p1 := 275) (p2 := 234) (by decide) rfl ⟨by omega, by omega⟩ ⟨by omega, by omega⟩ (fun c3785 => ?_) (fun c3785 => ?_))
                              · refine wp_of e16 c16_275 (rw_aload_n (pc' := 276) (v := .ref r0) rfl rfl rfl ?_)
                                refine wp_of e16 c16_276 (rw_iconst (pc' := 277) rfl ?_)
                                refine wp_of e16 c16_277 (xp_I (pc' := 280) lf_2_41 w3499 g0 sh_4 (by decide) (by decide) ty_4_3 rfl rfl (by omega) (by omega) ⟨by omega, by omega⟩ rfl (fun H3786 e3787 w3788 => ?_))
                                have f3789 := f3503.put' e3787 g0 rfl
                                have k3790 : H3786 r0 3 = 0 := wq_u_s e3787
                                refine wp_of e16 c16_280 (rw_aload_n (pc' := 281) (v := .ref r0) rfl rfl rfl ?_)
                                refine wp_of e16 c16_281 (rw_iload_n (pc' := 282) (z := v3497) rfl rfl ?_)
                                refine wp_of e16 c16_282 (xp_I (pc' := 285) lf_2_23 w3788 g0 sh_4 (by decide) (by decide) ty_4_2 rfl rfl (by omega) (by omega) ⟨by omega, by omega⟩ rfl (fun H3791 e3792 w3793 => ?_))
                                have f3794 := f3789.put' e3792 g0 rfl
                                have k3795 : H3791 r0 2 = v3497 := wq_u_s e3792
                                exact wp_return e16 c16_285 rfl ⟨rfl, w3793, f3794, rfl⟩
                              · refine wp_of e16 c16_234 (rw_aload_n (pc' := 235) (v := .ref r0) rfl rfl rfl ?_)
                                refine wp_of e16 c16_235 (rw_aload_n (pc' := 236) (v := .ref r0) rfl rfl rfl ?_)
                                refine wp_of e16 c16_236 (xg_K (pc' := 239) lf_2_7 w3499 g0 sh_4 (by decide) (by decide) rfl q3706 rfl ?_)
                                refine wp_of e16 c16_239 (rw_iload_n (pc' := 240) (z := v3497) rfl rfl ?_)
                                refine wp_of e16 c16_240 (xa_B (by decide) (pc' := 241) w3499 grb sh_2 (by decide) (ty_2 _) (by omega) (by omega) rfl (fun b3796 b3797 => ?_))
                                refine wp_of e16 c16_241 (rw_bipush (pc' := 243) (z := 59) rfl (by decide) ?_)
                                refine wp_of e16 c16_243 (rw_icmp_ne (p1 := 250) (p2 := 246) (by decide) rfl ⟨by omega, by omega⟩ ⟨by omega, by omega⟩ (fun c3798 => ?_) (fun c3798 => ?_))
                                · refine wp_of e16 c16_250 (rw_aload_n (pc' := 251) (v := .ref r0) rfl rfl rfl ?_)
                                  refine wp_of e16 c16_251 (xg_K (pc' := 254) lf_2_7 w3499 g0 sh_4 (by decide) (by decide) rfl q3706 rfl ?_)
                                  refine wp_of e16 c16_254 (rw_iload_n (pc' := 255) (z := v3497) rfl rfl ?_)
                                  refine wp_of e16 c16_255 (xa_B (by decide) (pc' := 256) w3499 grb sh_2 (by decide) (ty_2 _) (by omega) (by omega) rfl (fun b3799 b3800 => ?_))
                                  refine wp_of e16 c16_256 (rw_bipush (pc' := 258) (z := 44) rfl (by decide) ?_)
                                  refine wp_of e16 c16_258 (rw_icmp_ne (p1 := 265) (p2 := 261) (by decide) rfl ⟨by omega, by omega⟩ ⟨by omega, by omega⟩ (fun c3801 => ?_) (fun c3801 => ?_))
                                  · refine wp_of e16 c16_265 (rw_iconst (pc' := 266) rfl ?_)
                                    refine wp_of e16 c16_266 (xp_I (pc' := 269) lf_2_41 w3499 g0 sh_4 (by decide) (by decide) ty_4_3 rfl rfl (by omega) (by omega) ⟨by omega, by omega⟩ rfl (fun H3802 e3803 w3804 => ?_))
                                    have f3805 := f3503.put' e3803 g0 rfl
                                    have k3806 : H3802 r0 3 = 5 := wq_u_s e3803
                                    refine wp_of e16 c16_269 (rw_iinc (pc' := 272) (z := v3497) (L' := [(1, vI (v3497 + 1)), (3, vI ((v3497 - (H3498 r0 4)) - (v3426 - (H3427 r0 4)))), (2, vI (v3426 - (H3427 r0 4))), (0, .ref r0)]) rfl rfl rfl rfl ?_)
                                    refine wp_of e16 c16_272 (rw_goto (p1 := 280) (by decide) ?_)
                                    refine wp_of e16 c16_280 (rw_aload_n (pc' := 281) (v := .ref r0) rfl rfl rfl ?_)
                                    refine wp_of e16 c16_281 (rw_iload_n (pc' := 282) (z := v3497 + 1) rfl rfl ?_)
                                    refine wp_of e16 c16_282 (xp_I (pc' := 285) lf_2_23 w3804 g0 sh_4 (by decide) (by decide) ty_4_2 rfl rfl (by omega) (by omega) ⟨by omega, by omega⟩ rfl (fun H3807 e3808 w3809 => ?_))
                                    have f3810 := f3805.put' e3808 g0 rfl
                                    have k3811 : H3807 r0 2 = v3497 + 1 := wq_u_s e3808
                                    exact wp_return e16 c16_285 rfl ⟨rfl, w3809, f3810, rfl⟩
                                  · exfalso
                                    omega
                                · refine wp_of e16 c16_246 (rw_iconst (pc' := 247) rfl ?_)
                                  refine wp_of e16 c16_247 (rw_goto (p1 := 266) (by decide) ?_)
                                  refine wp_of e16 c16_266 (xp_I (pc' := 269) lf_2_41 w3499 g0 sh_4 (by decide) (by decide) ty_4_3 rfl rfl (by omega) (by omega) ⟨by omega, by omega⟩ rfl (fun H3812 e3813 w3814 => ?_))
                                  have f3815 := f3503.put' e3813 g0 rfl
                                  have k3816 : H3812 r0 3 = 3 := wq_u_s e3813
                                  refine wp_of e16 c16_269 (rw_iinc (pc' := 272) (z := v3497) (L' := [(1, vI (v3497 + 1)), (3, vI ((v3497 - (H3498 r0 4)) - (v3426 - (H3427 r0 4)))), (2, vI (v3426 - (H3427 r0 4))), (0, .ref r0)]) rfl rfl rfl rfl ?_)
                                  refine wp_of e16 c16_272 (rw_goto (p1 := 280) (by decide) ?_)
                                  refine wp_of e16 c16_280 (rw_aload_n (pc' := 281) (v := .ref r0) rfl rfl rfl ?_)
                                  refine wp_of e16 c16_281 (rw_iload_n (pc' := 282) (z := v3497 + 1) rfl rfl ?_)
                                  refine wp_of e16 c16_282 (xp_I (pc' := 285) lf_2_23 w3814 g0 sh_4 (by decide) (by decide) ty_4_2 rfl rfl (by omega) (by omega) ⟨by omega, by omega⟩ rfl (fun H3817 e3818 w3819 => ?_))
                                  have f3820 := f3815.put' e3818 g0 rfl
                                  have k3821 : H3817 r0 2 = v3497 + 1 := wq_u_s e3818
                                  exact wp_return e16 c16_285 rfl ⟨rfl, w3819, f3820, rfl⟩
                            · refine wp_of e16 c16_209 (rw_aload_n (pc' := 210) (v := .ref r0) rfl rfl rfl ?_)
                              refine wp_of e16 c16_210 (rw_iload_n (pc' := 211) (z := (v3497 - (H3498 r0 4)) - (v3426 - (H3427 r0 4))) rfl rfl ?_)
                              refine wp_of e16 c16_211 (rw_iconst (pc' := 212) rfl ?_)
                              refine wp_of e16 c16_212 (rw_icmp_gt (p1 := 219) (p2 := 215) (by decide) rfl ⟨by omega, by omega⟩ ⟨by omega, by omega⟩ (fun c3822 => ?_) (fun c3822 => ?_))
                              · refine wp_of e16 c16_219 (rw_iconst (pc' := 220) rfl ?_)
                                refine wp_of e16 c16_220 (xp_I (pc' := 223) lf_2_41 w3499 g0 sh_4 (by decide) (by decide) ty_4_3 rfl rfl (by omega) (by omega) ⟨by omega, by omega⟩ rfl (fun H3823 e3824 w3825 => ?_))
                                have f3826 := f3503.put' e3824 g0 rfl
                                have k3827 : H3823 r0 3 = 5 := wq_u_s e3824
                                refine wp_of e16 c16_223 (rw_goto (p1 := 280) (by decide) ?_)
                                refine wp_of e16 c16_280 (rw_aload_n (pc' := 281) (v := .ref r0) rfl rfl rfl ?_)
                                refine wp_of e16 c16_281 (rw_iload_n (pc' := 282) (z := v3497) rfl rfl ?_)
                                refine wp_of e16 c16_282 (xp_I (pc' := 285) lf_2_23 w3825 g0 sh_4 (by decide) (by decide) ty_4_2 rfl rfl (by omega) (by omega) ⟨by omega, by omega⟩ rfl (fun H3828 e3829 w3830 => ?_))
                                have f3831 := f3826.put' e3829 g0 rfl
                                have k3832 : H3828 r0 2 = v3497 := wq_u_s e3829
                                exact wp_return e16 c16_285 rfl ⟨rfl, w3830, f3831, rfl⟩
                              · refine wp_of e16 c16_215 (rw_iconst (pc' := 216) rfl ?_)
                                refine wp_of e16 c16_216 (rw_goto (p1 := 220) (by decide) ?_)
                                refine wp_of e16 c16_220 (xp_I (pc' := 223) lf_2_41 w3499 g0 sh_4 (by decide) (by decide) ty_4_3 rfl rfl (by omega) (by omega) ⟨by omega, by omega⟩ rfl (fun H3833 e3834 w3835 => ?_))
                                have f3836 := f3503.put' e3834 g0 rfl
                                have k3837 : H3833 r0 3 = 2 := wq_u_s e3834
                                refine wp_of e16 c16_223 (rw_goto (p1 := 280) (by decide) ?_)
                                refine wp_of e16 c16_280 (rw_aload_n (pc' := 281) (v := .ref r0) rfl rfl rfl ?_)
                                refine wp_of e16 c16_281 (rw_iload_n (pc' := 282) (z := v3497) rfl rfl ?_)
                                refine wp_of e16 c16_282 (xp_I (pc' := 285) lf_2_23 w3835 g0 sh_4 (by decide) (by decide) ty_4_2 rfl rfl (by omega) (by omega) ⟨by omega, by omega⟩ rfl (fun H3838 e3839 w3840 => ?_))
                                have f3841 := f3836.put' e3839 g0 rfl
                                have k3842 : H3838 r0 2 = v3497 := wq_u_s e3839
                                exact wp_return e16 c16_285 rfl ⟨rfl, w3840, f3841, rfl⟩
                          · exfalso
                            omega
                        · refine wp_of e16 c16_147 (rw_aload_n (pc' := 148) (v := .ref r0) rfl rfl rfl ?_)
                          refine wp_of e16 c16_148 (rw_aload_n (pc' := 149) (v := .ref r0) rfl rfl rfl ?_)
                          refine wp_of e16 c16_149 (xg_I (pc' := 152) lf_2_38 w3499 g0 sh_4 (by decide) (by decide) ty_4_5 rfl rfl (fun b3843 b3844 => ?_))
                          refine wp_of e16 c16_152 (rw_bipush (pc' := 154) (z := 10) rfl (by decide) ?_)
                          refine wp_of e16 c16_154 (rw_imulw (pc' := 155) rfl ?_)
                          obtain ⟨v3845, e3846⟩ : ∃ x : Int, x = wq_w ((H3498 r0 5) * 10) := ⟨_, rfl⟩
                          rw [← e3846]
                          have b3847 : -2147483648 ≤ v3845 ∧ v3845 ≤ 2147483647 := by
                            rw [e3846]
                            exact wI_w _
                          refine wp_of e16 c16_155 (rw_aload_n (pc' := 156) (v := .ref r0) rfl rfl rfl ?_)
                          refine wp_of e16 c16_156 (xg_K (pc' := 159) lf_2_7 w3499 g0 sh_4 (by decide) (by decide) rfl q3706 rfl ?_)
                          refine wp_of e16 c16_159 (rw_iload_n (pc' := 160) (z := v3497) rfl rfl ?_)
                          refine wp_of e16 c16_160 (xa_B (by decide) (pc' := 161) w3499 grb sh_2 (by decide) (ty_2 _) (by omega) (by omega) rfl (fun b3848 b3849 => ?_))
                          refine wp_of e16 c16_161 (rw_bipush (pc' := 163) (z := 48) rfl (by decide) ?_)
                          refine wp_of e16 c16_163 (rw_isub (pc' := 164) rfl ?_)
                          refine wp_of e16 c16_164 (rw_iaddw (pc' := 165) rfl ?_)
                          obtain ⟨v3850, e3851⟩ : ∃ x : Int, x = wq_w (v3845 + ((H3498 rb (v3497.toNat)) - 48)) := ⟨_, rfl⟩
                          rw [← e3851]
                          have b3852 : -2147483648 ≤ v3850 ∧ v3850 ≤ 2147483647 := by
                            rw [e3851]
                            exact wI_w _
                          refine wp_of e16 c16_165 (xp_I (pc' := 168) lf_2_38 w3499 g0 sh_4 (by decide) (by decide) ty_4_5 rfl rfl (by omega) (by omega) ⟨by omega, by omega⟩ rfl (fun H3853 e3854 w3855 => ?_))
                          have f3856 := f3503.put' e3854 g0 rfl
                          have f3857 := f3500.put' e3854 g0 rfl
                          have k3858 : H3853 r0 5 = v3850 := wq_u_s e3854
                          refine wp_of e16 c16_168 (rw_iinc (pc' := 171) (z := v3497) (L' := [(1, vI (v3497 + 1)), (2, vI (v3426 - (H3427 r0 4))), (0, .ref r0)]) rfl rfl rfl rfl ?_)
                          refine wp_of e16 c16_171 (rw_goto (p1 := 113) (by decide) ?_)
                          exact wp_lc (ks := [1, 2, 0]) (wl_c rfl (wl_c rfl (wl_c rfl wl_n))) rfl (by decide) (ih3496 _ (by omega) (v3497 + 1) H3853 w3855 f3857 ⟨by omega, by omega⟩ rfl)
              exact wp_lc (ks := [2, 1, 0]) (wl_c rfl (wl_c rfl (wl_c rfl wl_n))) rfl (by decide) (lp3494 _ v3426 H3440 w3442 wfr.rf ⟨by omega, by omega⟩ rfl)
            · refine wp_of e16 c16_48 (rw_aload_n (pc' := 49) (v := .ref r0) rfl rfl rfl ?_)
              have k3859 : H3427 r0 0 = H r0 0 := ((f3429 r0 0 _ g0 rfl).trans ((wq_u_j e3372 rfl).trans (wq_u_j e3367 rfl)))
              have q3860 : H3427 r0 0 = (rb : Int) := k3859.trans qrb
              refine wp_of e16 c16_49 (xg_K (pc' := 52) lf_2_7 w3428 g0 sh_4 (by decide) (by decide) rfl q3860 rfl ?_)
              refine wp_of e16 c16_52 (rw_iload_n (pc' := 53) (z := v3426) rfl rfl ?_)
              refine wp_of e16 c16_53 (xa_B (by decide) (pc' := 54) w3428 grb sh_2 (by decide) (ty_2 _) (by omega) (by omega) rfl (fun b3861 b3862 => ?_))
              refine wp_of e16 c16_54 (rw_bipush (pc' := 56) (z := 97) rfl (by decide) ?_)
              refine wp_of e16 c16_56 (rw_icmp_lt (p1 := 101) (p2 := 59) (by decide) rfl ⟨by omega, by omega⟩ ⟨by omega, by omega⟩ (fun c3863 => ?_) (fun c3863 => ?_))
              · refine wp_of e16 c16_101 (rw_iload_n (pc' := 102) (z := v3426) rfl rfl ?_)
                refine wp_of e16 c16_102 (rw_aload_n (pc' := 103) (v := .ref r0) rfl rfl rfl ?_)
                have k3864 : H3427 r0 4 = H3366 r0 4 := ((f3429 r0 4 _ g0 rfl).trans (wq_u_j e3372 rfl))
                refine wp_of e16 c16_103 (xg_I (pc' := 106) lf_2_29 w3428 g0 sh_4 (by decide) (by decide) ty_4_4 rfl rfl (fun b3865 b3866 => ?_))
                refine wp_of e16 c16_106 (rw_isub (pc' := 107) rfl ?_)
                refine wp_of e16 c16_107 (rw_istore_n (pc' := 108) (z := v3426 - (H3427 r0 4)) (L' := [(2, vI (v3426 - (H3427 r0 4))), (1, vI v3426), (0, .ref r0)]) rfl rfl rfl ?_)
                refine wp_of e16 c16_108 (rw_aload_n (pc' := 109) (v := .ref r0) rfl rfl rfl ?_)
                refine wp_of e16 c16_109 (rw_iconst (pc' := 110) rfl ?_)
                refine wp_of e16 c16_110 (xp_I (pc' := 113) lf_2_38 w3428 g0 sh_4 (by decide) (by decide) ty_4_5 rfl rfl (by omega) (by omega) ⟨by omega, by omega⟩ rfl (fun H3867 e3868 w3869 => ?_))
                have f3870 := f3432.put' e3868 g0 rfl
                have k3871 : H3867 r0 5 = 0 := wq_u_s e3868
                have lp3921 : ∀ (n3922 : Nat) (v3924 : Int) (H3925 : wq_H), WT T H3925 → wfr [(4, 5)] T H3867 H3925 → (0 ≤ v3924 ∧ v3924 ≤ 900) → (900 - v3924).toNat = n3922 → wp kt 0 16 113 [(1, vI v3924), (2, vI (v3426 - (H3427 r0 4))), (0, .ref r0)] [] T H3925 (q_16 r0 rb T H) := by
                  intro n3922
                  induction n3922 using Nat.strongRecOn with
                  | _ n3922 ih3923 =>
                    intro v3924 H3925 w3926 f3927 b3928 m3929
                    have f3930 := f3870.tr f3927 rfl
                    refine wp_of e16 c16_113 (rw_iload_n (pc' := 114) (z := v3924) rfl rfl ?_)
                    refine wp_of e16 c16_114 (rw_aload_n (pc' := 115) (v := .ref r0) rfl rfl rfl ?_)
                    have k3931 : H3925 r0 1 = H3427 r0 1 := ((f3927 r0 1 _ g0 rfl).trans (wq_u_j e3868 rfl))
                    refine wp_of e16 c16_115 (xg_I (pc' := 118) lf_2_19 w3926 g0 sh_4 (by decide) (by decide) ty_4_1 rfl rfl (fun b3932 b3933 => ?_))
                    refine wp_of e16 c16_118 (rw_icmp_ge (p1 := 174) (p2 := 121) (by decide) rfl ⟨by omega, by omega⟩ ⟨by omega, by omega⟩ (fun c3934 => ?_) (fun c3934 => ?_))
                    · refine wp_of e16 c16_174 (rw_iload_n (pc' := 175) (z := v3924) rfl rfl ?_)
                      refine wp_of e16 c16_175 (rw_aload_n (pc' := 176) (v := .ref r0) rfl rfl rfl ?_)
                      have k3935 : H3925 r0 4 = H3427 r0 4 := ((f3927 r0 4 _ g0 rfl).trans (wq_u_j e3868 rfl))
                      refine wp_of e16 c16_176 (xg_I (pc' := 179) lf_2_29 w3926 g0 sh_4 (by decide) (by decide) ty_4_4 rfl rfl (fun b3936 b3937 => ?_))
                      refine wp_of e16 c16_179 (rw_isub (pc' := 180) rfl ?_)
                      refine wp_of e16 c16_180 (rw_iload_n (pc' := 181) (z := v3426 - (H3427 r0 4)) rfl rfl ?_)
                      refine wp_of e16 c16_181 (rw_isub (pc' := 182) rfl ?_)
                      refine wp_of e16 c16_182 (rw_istore_n (pc' := 183) (z := (v3924 - (H3925 r0 4)) - (v3426 - (H3427 r0 4))) (L' := [(3, vI ((v3924 - (H3925 r0 4)) - (v3426 - (H3427 r0 4)))), (1, vI v3924), (2, vI (v3426 - (H3427 r0 4))), (0, .ref r0)]) rfl rfl rfl ?_)
                      refine wp_of e16 c16_183 (rw_iload_n (pc' := 184) (z := v3426 - (H3427 r0 4)) rfl rfl ?_)
                      refine wp_of e16 c16_184 (rw_if_le (p1 := 205) (p2 := 187) (by decide) rfl ⟨by omega, by omega⟩ (fun c3938 => ?_) (fun c3938 => ?_))
                      · refine wp_of e16 c16_205 (rw_iload_n (pc' := 206) (z := (v3924 - (H3925 r0 4)) - (v3426 - (H3427 r0 4))) rfl rfl ?_)
                        refine wp_of e16 c16_206 (rw_if_le (p1 := 226) (p2 := 209) (by decide) rfl ⟨by omega, by omega⟩ (fun c3939 => ?_) (fun c3939 => ?_))
                        · refine wp_of e16 c16_226 (rw_iload_n (pc' := 227) (z := v3924) rfl rfl ?_)
                          refine wp_of e16 c16_227 (rw_aload_n (pc' := 228) (v := .ref r0) rfl rfl rfl ?_)
                          refine wp_of e16 c16_228 (xg_I (pc' := 231) lf_2_19 w3926 g0 sh_4 (by decide) (by decide) ty_4_1 rfl rfl (fun b3940 b3941 => ?_))
                          refine wp_of e16 c16_231 (rw_icmp_ge (p1 := 275) (p2 := 234) (by decide) rfl ⟨by omega, by omega⟩ ⟨by omega, by omega⟩ (fun c3942 => ?_) (fun c3942 => ?_))
                          · refine wp_of e16 c16_275 (rw_aload_n (pc' := 276) (v := .ref r0) rfl rfl rfl ?_)
                            refine wp_of e16 c16_276 (rw_iconst (pc' := 277) rfl ?_)
                            refine wp_of e16 c16_277 (xp_I (pc' := 280) lf_2_41 w3926 g0 sh_4 (by decide) (by decide) ty_4_3 rfl rfl (by omega) (by omega) ⟨by omega, by omega⟩ rfl (fun H3943 e3944 w3945 => ?_))
                            have f3946 := f3930.put' e3944 g0 rfl
                            have k3947 : H3943 r0 3 = 0 := wq_u_s e3944
                            refine wp_of e16 c16_280 (rw_aload_n (pc' := 281) (v := .ref r0) rfl rfl rfl ?_)
                            refine wp_of e16 c16_281 (rw_iload_n (pc' := 282) (z := v3924) rfl rfl ?_)
                            refine wp_of e16 c16_282 (xp_I (pc' := 285) lf_2_23 w3945 g0 sh_4 (by decide) (by decide) ty_4_2 rfl rfl (by omega) (by omega) ⟨by omega, by omega⟩ rfl (fun H3948 e3949 w3950 => ?_))
                            have f3951 := f3946.put' e3949 g0 rfl
                            have k3952 : H3948 r0 2 = v3924 := wq_u_s e3949
                            exact wp_return e16 c16_285 rfl ⟨rfl, w3950, f3951, rfl⟩
                          · refine wp_of e16 c16_234 (rw_aload_n (pc' := 235) (v := .ref r0) rfl rfl rfl ?_)
                            refine wp_of e16 c16_235 (rw_aload_n (pc' := 236) (v := .ref r0) rfl rfl rfl ?_)
                            have k3953 : H3925 r0 0 = H3427 r0 0 := ((f3927 r0 0 _ g0 rfl).trans (wq_u_j e3868 rfl))
                            have q3954 : H3925 r0 0 = (rb : Int) := k3953.trans q3860
                            refine wp_of e16 c16_236 (xg_K (pc' := 239) lf_2_7 w3926 g0 sh_4 (by decide) (by decide) rfl q3954 rfl ?_)
                            refine wp_of e16 c16_239 (rw_iload_n (pc' := 240) (z := v3924) rfl rfl ?_)
                            refine wp_of e16 c16_240 (xa_B (by decide) (pc' := 241) w3926 grb sh_2 (by decide) (ty_2 _) (by omega) (by omega) rfl (fun b3955 b3956 => ?_))
                            refine wp_of e16 c16_241 (rw_bipush (pc' := 243) (z := 59) rfl (by decide) ?_)
                            refine wp_of e16 c16_243 (rw_icmp_ne (p1 := 250) (p2 := 246) (by decide) rfl ⟨by omega, by omega⟩ ⟨by omega, by omega⟩ (fun c3957 => ?_) (fun c3957 => ?_))
                            · refine wp_of e16 c16_250 (rw_aload_n (pc' := 251) (v := .ref r0) rfl rfl rfl ?_)
                              refine wp_of e16 c16_251 (xg_K (pc' := 254) lf_2_7 w3926 g0 sh_4 (by decide) (by decide) rfl q3954 rfl ?_)
                              refine wp_of e16 c16_254 (rw_iload_n (pc' := 255) (z := v3924) rfl rfl ?_)
                              refine wp_of e16 c16_255 (xa_B (by decide) (pc' := 256) w3926 grb sh_2 (by decide) (ty_2 _) (by omega) (by omega) rfl (fun b3958 b3959 => ?_))
                              refine wp_of e16 c16_256 (rw_bipush (pc' := 258) (z := 44) rfl (by decide) ?_)
                              refine wp_of e16 c16_258 (rw_icmp_ne (p1 := 265) (p2 := 261) (by decide) rfl ⟨by omega, by omega⟩ ⟨by omega, by omega⟩ (fun c3960 => ?_) (fun c3960 => ?_))
                              · refine wp_of e16 c16_265 (rw_iconst (pc' := 266) rfl ?_)
                                refine wp_of e16 c16_266 (xp_I (pc' := 269) lf_2_41 w3926 g0 sh_4 (by decide) (by decide) ty_4_3 rfl rfl (by omega) (by omega) ⟨by omega, by omega⟩ rfl (fun H3961 e3962 w3963 => ?_))
                                have f3964 := f3930.put' e3962 g0 rfl
                                have k3965 : H3961 r0 3 = 5 := wq_u_s e3962
                                refine wp_of e16 c16_269 (rw_iinc (pc' := 272) (z := v3924) (L' := [(1, vI (v3924 + 1)), (3, vI ((v3924 - (H3925 r0 4)) - (v3426 - (H3427 r0 4)))), (2, vI (v3426 - (H3427 r0 4))), (0, .ref r0)]) rfl rfl rfl rfl ?_)
                                refine wp_of e16 c16_272 (rw_goto (p1 := 280) (by decide) ?_)
                                refine wp_of e16 c16_280 (rw_aload_n (pc' := 281) (v := .ref r0) rfl rfl rfl ?_)
                                refine wp_of e16 c16_281 (rw_iload_n (pc' := 282) (z := v3924 + 1) rfl rfl ?_)
                                refine wp_of e16 c16_282 (xp_I (pc' := 285) lf_2_23 w3963 g0 sh_4 (by decide) (by decide) ty_4_2 rfl rfl (by omega) (by omega) ⟨by omega, by omega⟩ rfl (fun H3966 e3967 w3968 => ?_))
                                have f3969 := f3964.put' e3967 g0 rfl
                                have k3970 : H3966 r0 2 = v3924 + 1 := wq_u_s e3967
                                exact wp_return e16 c16_285 rfl ⟨rfl, w3968, f3969, rfl⟩
                              · refine wp_of e16 c16_261 (rw_iconst (pc' := 262) rfl ?_)
                                refine wp_of e16 c16_262 (rw_goto (p1 := 266) (by decide) ?_)
                                refine wp_of e16 c16_266 (xp_I (pc' := 269) lf_2_41 w3926 g0 sh_4 (by decide) (by decide) ty_4_3 rfl rfl (by omega) (by omega) ⟨by omega, by omega⟩ rfl (fun H3971 e3972 w3973 => ?_))
                                have f3974 := f3930.put' e3972 g0 rfl
                                have k3975 : H3971 r0 3 = 4 := wq_u_s e3972
                                refine wp_of e16 c16_269 (rw_iinc (pc' := 272) (z := v3924) (L' := [(1, vI (v3924 + 1)), (3, vI ((v3924 - (H3925 r0 4)) - (v3426 - (H3427 r0 4)))), (2, vI (v3426 - (H3427 r0 4))), (0, .ref r0)]) rfl rfl rfl rfl ?_)
                                refine wp_of e16 c16_272 (rw_goto (p1 := 280) (by decide) ?_)
                                refine wp_of e16 c16_280 (rw_aload_n (pc' := 281) (v := .ref r0) rfl rfl rfl ?_)
                                refine wp_of e16 c16_281 (rw_iload_n (pc' := 282) (z := v3924 + 1) rfl rfl ?_)
                                refine wp_of e16 c16_282 (xp_I (pc' := 285) lf_2_23 w3973 g0 sh_4 (by decide) (by decide) ty_4_2 rfl rfl (by omega) (by omega) ⟨by omega, by omega⟩ rfl (fun H3976 e3977 w3978 => ?_))
                                have f3979 := f3974.put' e3977 g0 rfl
                                have k3980 : H3976 r0 2 = v3924 + 1 := wq_u_s e3977
                                exact wp_return e16 c16_285 rfl ⟨rfl, w3978, f3979, rfl⟩
                            · refine wp_of e16 c16_246 (rw_iconst (pc' := 247) rfl ?_)
                              refine wp_of e16 c16_247 (rw_goto (p1 := 266) (by decide) ?_)
                              refine wp_of e16 c16_266 (xp_I (pc' := 269) lf_2_41 w3926 g0 sh_4 (by decide) (by decide) ty_4_3 rfl rfl (by omega) (by omega) ⟨by omega, by omega⟩ rfl (fun H3981 e3982 w3983 => ?_))
                              have f3984 := f3930.put' e3982 g0 rfl
                              have k3985 : H3981 r0 3 = 3 := wq_u_s e3982
                              refine wp_of e16 c16_269 (rw_iinc (pc' := 272) (z := v3924) (L' := [(1, vI (v3924 + 1)), (3, vI ((v3924 - (H3925 r0 4)) - (v3426 - (H3427 r0 4)))), (2, vI (v3426 - (H3427 r0 4))), (0, .ref r0)]) rfl rfl rfl rfl ?_)
                              refine wp_of e16 c16_272 (rw_goto (p1 := 280) (by decide) ?_)
                              refine wp_of e16 c16_280 (rw_aload_n (pc' := 281) (v := .ref r0) rfl rfl rfl ?_)
                              refine wp_of e16 c16_281 (rw_iload_n (pc' := 282) (z := v3924 + 1) rfl rfl ?_)
                              refine wp_of e16 c16_282 (xp_I (pc' := 285) lf_2_23 w3983 g0 sh_4 (by decide) (by decide) ty_4_2 rfl rfl (by omega) (by omega) ⟨by omega, by omega⟩ rfl (fun H3986 e3987 w3988 => ?_))
                              have f3989 := f3984.put' e3987 g0 rfl
                              have k3990 : H3986 r0 2 = v3924 + 1 := wq_u_s e3987
                              exact wp_return e16 c16_285 rfl ⟨rfl, w3988, f3989, rfl⟩
                        · refine wp_of e16 c16_209 (rw_aload_n (pc' := 210) (v := .ref r0) rfl rfl rfl ?_)
                          refine wp_of e16 c16_210 (rw_iload_n (pc' := 211) (z := (v3924 - (H3925 r0 4)) - (v3426 - (H3427 r0 4))) rfl rfl ?_)
                          refine wp_of e16 c16_211 (rw_iconst (pc' := 212) rfl ?_)
                          refine wp_of e16 c16_212 (rw_icmp_gt (p1 := 219) (p2 := 215) (by decide) rfl ⟨by omega, by omega⟩ ⟨by omega, by omega⟩ (fun c3991 => ?_) (fun c3991 => ?_))
                          · refine wp_of e16 c16_219 (rw_iconst (pc' := 220) rfl ?_)
                            refine wp_of e16 c16_220 (xp_I (pc' := 223) lf_2_41 w3926 g0 sh_4 (by decide) (by decide) ty_4_3 rfl rfl (by omega) (by omega) ⟨by omega, by omega⟩ rfl (fun H3992 e3993 w3994 => ?_))
                            have f3995 := f3930.put' e3993 g0 rfl
                            have k3996 : H3992 r0 3 = 5 := wq_u_s e3993
                            refine wp_of e16 c16_223 (rw_goto (p1 := 280) (by decide) ?_)
                            refine wp_of e16 c16_280 (rw_aload_n (pc' := 281) (v := .ref r0) rfl rfl rfl ?_)
                            refine wp_of e16 c16_281 (rw_iload_n (pc' := 282) (z := v3924) rfl rfl ?_)
                            refine wp_of e16 c16_282 (xp_I (pc' := 285) lf_2_23 w3994 g0 sh_4 (by decide) (by decide) ty_4_2 rfl rfl (by omega) (by omega) ⟨by omega, by omega⟩ rfl (fun H3997 e3998 w3999 => ?_))
                            have f4000 := f3995.put' e3998 g0 rfl
                            have k4001 : H3997 r0 2 = v3924 := wq_u_s e3998
                            exact wp_return e16 c16_285 rfl ⟨rfl, w3999, f4000, rfl⟩
                          · refine wp_of e16 c16_215 (rw_iconst (pc' := 216) rfl ?_)
                            refine wp_of e16 c16_216 (rw_goto (p1 := 220) (by decide) ?_)
                            refine wp_of e16 c16_220 (xp_I (pc' := 223) lf_2_41 w3926 g0 sh_4 (by decide) (by decide) ty_4_3 rfl rfl (by omega) (by omega) ⟨by omega, by omega⟩ rfl (fun H4002 e4003 w4004 => ?_))
                            have f4005 := f3930.put' e4003 g0 rfl
                            have k4006 : H4002 r0 3 = 2 := wq_u_s e4003
                            refine wp_of e16 c16_223 (rw_goto (p1 := 280) (by decide) ?_)
                            refine wp_of e16 c16_280 (rw_aload_n (pc' := 281) (v := .ref r0) rfl rfl rfl ?_)
                            refine wp_of e16 c16_281 (rw_iload_n (pc' := 282) (z := v3924) rfl rfl ?_)
                            refine wp_of e16 c16_282 (xp_I (pc' := 285) lf_2_23 w4004 g0 sh_4 (by decide) (by decide) ty_4_2 rfl rfl (by omega) (by omega) ⟨by omega, by omega⟩ rfl (fun H4007 e4008 w4009 => ?_))
                            have f4010 := f4005.put' e4008 g0 rfl
                            have k4011 : H4007 r0 2 = v3924 := wq_u_s e4008
                            exact wp_return e16 c16_285 rfl ⟨rfl, w4009, f4010, rfl⟩
                      · refine wp_of e16 c16_187 (rw_aload_n (pc' := 188) (v := .ref r0) rfl rfl rfl ?_)
                        refine wp_of e16 c16_188 (rw_iload_n (pc' := 189) (z := v3426 - (H3427 r0 4)) rfl rfl ?_)
                        refine wp_of e16 c16_189 (rw_bipush (pc' := 191) (z := 8) rfl (by decide) ?_)
                        refine wp_of e16 c16_191 (rw_icmp_gt (p1 := 198) (p2 := 194) (by decide) rfl ⟨by omega, by omega⟩ ⟨by omega, by omega⟩ (fun c4012 => ?_) (fun c4012 => ?_))
                        · refine wp_of e16 c16_198 (rw_iconst (pc' := 199) rfl ?_)
                          refine wp_of e16 c16_199 (xp_I (pc' := 202) lf_2_41 w3926 g0 sh_4 (by decide) (by decide) ty_4_3 rfl rfl (by omega) (by omega) ⟨by omega, by omega⟩ rfl (fun H4013 e4014 w4015 => ?_))
                          have f4016 := f3930.put' e4014 g0 rfl
                          have k4017 : H4013 r0 3 = 5 := wq_u_s e4014
                          refine wp_of e16 c16_202 (rw_goto (p1 := 280) (by decide) ?_)
                          refine wp_of e16 c16_280 (rw_aload_n (pc' := 281) (v := .ref r0) rfl rfl rfl ?_)
                          refine wp_of e16 c16_281 (rw_iload_n (pc' := 282) (z := v3924) rfl rfl ?_)
                          refine wp_of e16 c16_282 (xp_I (pc' := 285) lf_2_23 w4015 g0 sh_4 (by decide) (by decide) ty_4_2 rfl rfl (by omega) (by omega) ⟨by omega, by omega⟩ rfl (fun H4018 e4019 w4020 => ?_))
                          have f4021 := f4016.put' e4019 g0 rfl
                          have k4022 : H4018 r0 2 = v3924 := wq_u_s e4019
                          exact wp_return e16 c16_285 rfl ⟨rfl, w4020, f4021, rfl⟩
                        · refine wp_of e16 c16_194 (rw_iconst (pc' := 195) rfl ?_)
                          refine wp_of e16 c16_195 (rw_goto (p1 := 199) (by decide) ?_)
                          refine wp_of e16 c16_199 (xp_I (pc' := 202) lf_2_41 w3926 g0 sh_4 (by decide) (by decide) ty_4_3 rfl rfl (by omega) (by omega) ⟨by omega, by omega⟩ rfl (fun H4023 e4024 w4025 => ?_))
                          have f4026 := f3930.put' e4024 g0 rfl
                          have k4027 : H4023 r0 3 = 1 := wq_u_s e4024
                          refine wp_of e16 c16_202 (rw_goto (p1 := 280) (by decide) ?_)
                          refine wp_of e16 c16_280 (rw_aload_n (pc' := 281) (v := .ref r0) rfl rfl rfl ?_)
                          refine wp_of e16 c16_281 (rw_iload_n (pc' := 282) (z := v3924) rfl rfl ?_)
                          refine wp_of e16 c16_282 (xp_I (pc' := 285) lf_2_23 w4025 g0 sh_4 (by decide) (by decide) ty_4_2 rfl rfl (by omega) (by omega) ⟨by omega, by omega⟩ rfl (fun H4028 e4029 w4030 => ?_))
                          have f4031 := f4026.put' e4029 g0 rfl
                          have k4032 : H4028 r0 2 = v3924 := wq_u_s e4029
                          exact wp_return e16 c16_285 rfl ⟨rfl, w4030, f4031, rfl⟩
                    · refine wp_of e16 c16_121 (rw_iload_n (pc' := 122) (z := v3426 - (H3427 r0 4)) rfl rfl ?_)
                      refine wp_of e16 c16_122 (rw_if_ne (p1 := 174) (p2 := 125) (by decide) rfl ⟨by omega, by omega⟩ (fun c4033 => ?_) (fun c4033 => ?_))
                      · refine wp_of e16 c16_174 (rw_iload_n (pc' := 175) (z := v3924) rfl rfl ?_)
                        refine wp_of e16 c16_175 (rw_aload_n (pc' := 176) (v := .ref r0) rfl rfl rfl ?_)
                        have k4034 : H3925 r0 4 = H3427 r0 4 := ((f3927 r0 4 _ g0 rfl).trans (wq_u_j e3868 rfl))
                        refine wp_of e16 c16_176 (xg_I (pc' := 179) lf_2_29 w3926 g0 sh_4 (by decide) (by decide) ty_4_4 rfl rfl (fun b4035 b4036 => ?_))
                        refine wp_of e16 c16_179 (rw_isub (pc' := 180) rfl ?_)
                        refine wp_of e16 c16_180 (rw_iload_n (pc' := 181) (z := v3426 - (H3427 r0 4)) rfl rfl ?_)
                        refine wp_of e16 c16_181 (rw_isub (pc' := 182) rfl ?_)
                        refine wp_of e16 c16_182 (rw_istore_n (pc' := 183) (z := (v3924 - (H3925 r0 4)) - (v3426 - (H3427 r0 4))) (L' := [(3, vI ((v3924 - (H3925 r0 4)) - (v3426 - (H3427 r0 4)))), (1, vI v3924), (2, vI (v3426 - (H3427 r0 4))), (0, .ref r0)]) rfl rfl rfl ?_)
                        refine wp_of e16 c16_183 (rw_iload_n (pc' := 184) (z := v3426 - (H3427 r0 4)) rfl rfl ?_)
                        refine wp_of e16 c16_184 (rw_if_le (p1 := 205) (p2 := 187) (by decide) rfl ⟨by omega, by omega⟩ (fun c4037 => ?_) (fun c4037 => ?_))
                        · refine wp_of e16 c16_205 (rw_iload_n (pc' := 206) (z := (v3924 - (H3925 r0 4)) - (v3426 - (H3427 r0 4))) rfl rfl ?_)
                          refine wp_of e16 c16_206 (rw_if_le (p1 := 226) (p2 := 209) (by decide) rfl ⟨by omega, by omega⟩ (fun c4038 => ?_) (fun c4038 => ?_))
                          · refine wp_of e16 c16_226 (rw_iload_n (pc' := 227) (z := v3924) rfl rfl ?_)
                            refine wp_of e16 c16_227 (rw_aload_n (pc' := 228) (v := .ref r0) rfl rfl rfl ?_)
                            refine wp_of e16 c16_228 (xg_I (pc' := 231) lf_2_19 w3926 g0 sh_4 (by decide) (by decide) ty_4_1 rfl rfl (fun b4039 b4040 => ?_))
                            refine wp_of e16 c16_231 (rw_icmp_ge (p1 := 275) (p2 := 234) (by decide) rfl ⟨by omega, by omega⟩ ⟨by omega, by omega⟩ (fun c4041 => ?_) (fun c4041 => ?_))
                            · refine wp_of e16 c16_275 (rw_aload_n (pc' := 276) (v := .ref r0) rfl rfl rfl ?_)
                              refine wp_of e16 c16_276 (rw_iconst (pc' := 277) rfl ?_)
                              refine wp_of e16 c16_277 (xp_I (pc' := 280) lf_2_41 w3926 g0 sh_4 (by decide) (by decide) ty_4_3 rfl rfl (by omega) (by omega) ⟨by omega, by omega⟩ rfl (fun H4042 e4043 w4044 => ?_))
                              have f4045 := f3930.put' e4043 g0 rfl
                              have k4046 : H4042 r0 3 = 0 := wq_u_s e4043
                              refine wp_of e16 c16_280 (rw_aload_n (pc' := 281) (v := .ref r0) rfl rfl rfl ?_)
                              refine wp_of e16 c16_281 (rw_iload_n (pc' := 282) (z := v3924) rfl rfl ?_)
                              refine wp_of e16 c16_282 (xp_I (pc' := 285) lf_2_23 w4044 g0 sh_4 (by decide) (by decide) ty_4_2 rfl rfl (by omega) (by omega) ⟨by omega, by omega⟩ rfl (fun H4047 e4048 w4049 => ?_))
                              have f4050 := f4045.put' e4048 g0 rfl
                              have k4051 : H4047 r0 2 = v3924 := wq_u_s e4048
                              exact wp_return e16 c16_285 rfl ⟨rfl, w4049, f4050, rfl⟩
                            · refine wp_of e16 c16_234 (rw_aload_n (pc' := 235) (v := .ref r0) rfl rfl rfl ?_)
                              refine wp_of e16 c16_235 (rw_aload_n (pc' := 236) (v := .ref r0) rfl rfl rfl ?_)
                              have k4052 : H3925 r0 0 = H3427 r0 0 := ((f3927 r0 0 _ g0 rfl).trans (wq_u_j e3868 rfl))
                              have q4053 : H3925 r0 0 = (rb : Int) := k4052.trans q3860
                              refine wp_of e16 c16_236 (xg_K (pc' := 239) lf_2_7 w3926 g0 sh_4 (by decide) (by decide) rfl q4053 rfl ?_)
                              refine wp_of e16 c16_239 (rw_iload_n (pc' := 240) (z := v3924) rfl rfl ?_)
                              refine wp_of e16 c16_240 (xa_B (by decide) (pc' := 241) w3926 grb sh_2 (by decide) (ty_2 _) (by omega) (by omega) rfl (fun b4054 b4055 => ?_))
                              refine wp_of e16 c16_241 (rw_bipush (pc' := 243) (z := 59) rfl (by decide) ?_)
                              refine wp_of e16 c16_243 (rw_icmp_ne (p1 := 250) (p2 := 246) (by decide) rfl ⟨by omega, by omega⟩ ⟨by omega, by omega⟩ (fun c4056 => ?_) (fun c4056 => ?_))
                              · refine wp_of e16 c16_250 (rw_aload_n (pc' := 251) (v := .ref r0) rfl rfl rfl ?_)
                                refine wp_of e16 c16_251 (xg_K (pc' := 254) lf_2_7 w3926 g0 sh_4 (by decide) (by decide) rfl q4053 rfl ?_)
                                refine wp_of e16 c16_254 (rw_iload_n (pc' := 255) (z := v3924) rfl rfl ?_)
                                refine wp_of e16 c16_255 (xa_B (by decide) (pc' := 256) w3926 grb sh_2 (by decide) (ty_2 _) (by omega) (by omega) rfl (fun b4057 b4058 => ?_))
                                refine wp_of e16 c16_256 (rw_bipush (pc' := 258) (z := 44) rfl (by decide) ?_)
                                refine wp_of e16 c16_258 (rw_icmp_ne (p1 := 265) (p2 := 261) (by decide) rfl ⟨by omega, by omega⟩ ⟨by omega, by omega⟩ (fun c4059 => ?_) (fun c4059 => ?_))
                                · refine wp_of e16 c16_265 (rw_iconst (pc' := 266) rfl ?_)
                                  refine wp_of e16 c16_266 (xp_I (pc' := 269) lf_2_41 w3926 g0 sh_4 (by decide) (by decide) ty_4_3 rfl rfl (by omega) (by omega) ⟨by omega, by omega⟩ rfl (fun H4060 e4061 w4062 => ?_))
                                  have f4063 := f3930.put' e4061 g0 rfl
                                  have k4064 : H4060 r0 3 = 5 := wq_u_s e4061
                                  refine wp_of e16 c16_269 (rw_iinc (pc' := 272) (z := v3924) (L' := [(1, vI (v3924 + 1)), (3, vI ((v3924 - (H3925 r0 4)) - (v3426 - (H3427 r0 4)))), (2, vI (v3426 - (H3427 r0 4))), (0, .ref r0)]) rfl rfl rfl rfl ?_)
                                  refine wp_of e16 c16_272 (rw_goto (p1 := 280) (by decide) ?_)
                                  refine wp_of e16 c16_280 (rw_aload_n (pc' := 281) (v := .ref r0) rfl rfl rfl ?_)
                                  refine wp_of e16 c16_281 (rw_iload_n (pc' := 282) (z := v3924 + 1) rfl rfl ?_)
                                  refine wp_of e16 c16_282 (xp_I (pc' := 285) lf_2_23 w4062 g0 sh_4 (by decide) (by decide) ty_4_2 rfl rfl (by omega) (by omega) ⟨by omega, by omega⟩ rfl (fun H4065 e4066 w4067 => ?_))
                                  have f4068 := f4063.put' e4066 g0 rfl
                                  have k4069 : H4065 r0 2 = v3924 + 1 := wq_u_s e4066
                                  exact wp_return e16 c16_285 rfl ⟨rfl, w4067, f4068, rfl⟩
                                · refine wp_of e16 c16_261 (rw_iconst (pc' := 262) rfl ?_)
                                  refine wp_of e16 c16_262 (rw_goto (p1 := 266) (by decide) ?_)
                                  refine wp_of e16 c16_266 (xp_I (pc' := 269) lf_2_41 w3926 g0 sh_4 (by decide) (by decide) ty_4_3 rfl rfl (by omega) (by omega) ⟨by omega, by omega⟩ rfl (fun H4070 e4071 w4072 => ?_))
                                  have f4073 := f3930.put' e4071 g0 rfl
                                  have k4074 : H4070 r0 3 = 4 := wq_u_s e4071
                                  refine wp_of e16 c16_269 (rw_iinc (pc' := 272) (z := v3924) (L' := [(1, vI (v3924 + 1)), (3, vI ((v3924 - (H3925 r0 4)) - (v3426 - (H3427 r0 4)))), (2, vI (v3426 - (H3427 r0 4))), (0, .ref r0)]) rfl rfl rfl rfl ?_)
                                  refine wp_of e16 c16_272 (rw_goto (p1 := 280) (by decide) ?_)
                                  refine wp_of e16 c16_280 (rw_aload_n (pc' := 281) (v := .ref r0) rfl rfl rfl ?_)
                                  refine wp_of e16 c16_281 (rw_iload_n (pc' := 282) (z := v3924 + 1) rfl rfl ?_)
                                  refine wp_of e16 c16_282 (xp_I (pc' := 285) lf_2_23 w4072 g0 sh_4 (by decide) (by decide) ty_4_2 rfl rfl (by omega) (by omega) ⟨by omega, by omega⟩ rfl (fun H4075 e4076 w4077 => ?_))
                                  have f4078 := f4073.put' e4076 g0 rfl
                                  have k4079 : H4075 r0 2 = v3924 + 1 := wq_u_s e4076
                                  exact wp_return e16 c16_285 rfl ⟨rfl, w4077, f4078, rfl⟩
                              · refine wp_of e16 c16_246 (rw_iconst (pc' := 247) rfl ?_)
                                refine wp_of e16 c16_247 (rw_goto (p1 := 266) (by decide) ?_)
                                refine wp_of e16 c16_266 (xp_I (pc' := 269) lf_2_41 w3926 g0 sh_4 (by decide) (by decide) ty_4_3 rfl rfl (by omega) (by omega) ⟨by omega, by omega⟩ rfl (fun H4080 e4081 w4082 => ?_))
                                have f4083 := f3930.put' e4081 g0 rfl
                                have k4084 : H4080 r0 3 = 3 := wq_u_s e4081
                                refine wp_of e16 c16_269 (rw_iinc (pc' := 272) (z := v3924) (L' := [(1, vI (v3924 + 1)), (3, vI ((v3924 - (H3925 r0 4)) - (v3426 - (H3427 r0 4)))), (2, vI (v3426 - (H3427 r0 4))), (0, .ref r0)]) rfl rfl rfl rfl ?_)
                                refine wp_of e16 c16_272 (rw_goto (p1 := 280) (by decide) ?_)
                                refine wp_of e16 c16_280 (rw_aload_n (pc' := 281) (v := .ref r0) rfl rfl rfl ?_)
                                refine wp_of e16 c16_281 (rw_iload_n (pc' := 282) (z := v3924 + 1) rfl rfl ?_)
                                refine wp_of e16 c16_282 (xp_I (pc' := 285) lf_2_23 w4082 g0 sh_4 (by decide) (by decide) ty_4_2 rfl rfl (by omega) (by omega) ⟨by omega, by omega⟩ rfl (fun H4085 e4086 w4087 => ?_))
                                have f4088 := f4083.put' e4086 g0 rfl
                                have k4089 : H4085 r0 2 = v3924 + 1 := wq_u_s e4086
                                exact wp_return e16 c16_285 rfl ⟨rfl, w4087, f4088, rfl⟩
                          · refine wp_of e16 c16_209 (rw_aload_n (pc' := 210) (v := .ref r0) rfl rfl rfl ?_)
                            refine wp_of e16 c16_210 (rw_iload_n (pc' := 211) (z := (v3924 - (H3925 r0 4)) - (v3426 - (H3427 r0 4))) rfl rfl ?_)
                            refine wp_of e16 c16_211 (rw_iconst (pc' := 212) rfl ?_)
                            refine wp_of e16 c16_212 (rw_icmp_gt (p1 := 219) (p2 := 215) (by decide) rfl ⟨by omega, by omega⟩ ⟨by omega, by omega⟩ (fun c4090 => ?_) (fun c4090 => ?_))
                            · refine wp_of e16 c16_219 (rw_iconst (pc' := 220) rfl ?_)
                              refine wp_of e16 c16_220 (xp_I (pc' := 223) lf_2_41 w3926 g0 sh_4 (by decide) (by decide) ty_4_3 rfl rfl (by omega) (by omega) ⟨by omega, by omega⟩ rfl (fun H4091 e4092 w4093 => ?_))
                              have f4094 := f3930.put' e4092 g0 rfl
                              have k4095 : H4091 r0 3 = 5 := wq_u_s e4092
                              refine wp_of e16 c16_223 (rw_goto (p1 := 280) (by decide) ?_)
                              refine wp_of e16 c16_280 (rw_aload_n (pc' := 281) (v := .ref r0) rfl rfl rfl ?_)
                              refine wp_of e16 c16_281 (rw_iload_n (pc' := 282) (z := v3924) rfl rfl ?_)
                              refine wp_of e16 c16_282 (xp_I (pc' := 285) lf_2_23 w4093 g0 sh_4 (by decide) (by decide) ty_4_2 rfl rfl (by omega) (by omega) ⟨by omega, by omega⟩ rfl (fun H4096 e4097 w4098 => ?_))
                              have f4099 := f4094.put' e4097 g0 rfl
                              have k4100 : H4096 r0 2 = v3924 := wq_u_s e4097
                              exact wp_return e16 c16_285 rfl ⟨rfl, w4098, f4099, rfl⟩
                            · refine wp_of e16 c16_215 (rw_iconst (pc' := 216) rfl ?_)
                              refine wp_of e16 c16_216 (rw_goto (p1 := 220) (by decide) ?_)
                              refine wp_of e16 c16_220 (xp_I (pc' := 223) lf_2_41 w3926 g0 sh_4 (by decide) (by decide) ty_4_3 rfl rfl (by omega) (by omega) ⟨by omega, by omega⟩ rfl (fun H4101 e4102 w4103 => ?_))
                              have f4104 := f3930.put' e4102 g0 rfl
                              have k4105 : H4101 r0 3 = 2 := wq_u_s e4102
                              refine wp_of e16 c16_223 (rw_goto (p1 := 280) (by decide) ?_)
                              refine wp_of e16 c16_280 (rw_aload_n (pc' := 281) (v := .ref r0) rfl rfl rfl ?_)
                              refine wp_of e16 c16_281 (rw_iload_n (pc' := 282) (z := v3924) rfl rfl ?_)
                              refine wp_of e16 c16_282 (xp_I (pc' := 285) lf_2_23 w4103 g0 sh_4 (by decide) (by decide) ty_4_2 rfl rfl (by omega) (by omega) ⟨by omega, by omega⟩ rfl (fun H4106 e4107 w4108 => ?_))
                              have f4109 := f4104.put' e4107 g0 rfl
                              have k4110 : H4106 r0 2 = v3924 := wq_u_s e4107
                              exact wp_return e16 c16_285 rfl ⟨rfl, w4108, f4109, rfl⟩
                        · refine wp_of e16 c16_187 (rw_aload_n (pc' := 188) (v := .ref r0) rfl rfl rfl ?_)
                          refine wp_of e16 c16_188 (rw_iload_n (pc' := 189) (z := v3426 - (H3427 r0 4)) rfl rfl ?_)
                          refine wp_of e16 c16_189 (rw_bipush (pc' := 191) (z := 8) rfl (by decide) ?_)
                          refine wp_of e16 c16_191 (rw_icmp_gt (p1 := 198) (p2 := 194) (by decide) rfl ⟨by omega, by omega⟩ ⟨by omega, by omega⟩ (fun c4111 => ?_) (fun c4111 => ?_))
                          · refine wp_of e16 c16_198 (rw_iconst (pc' := 199) rfl ?_)
                            refine wp_of e16 c16_199 (xp_I (pc' := 202) lf_2_41 w3926 g0 sh_4 (by decide) (by decide) ty_4_3 rfl rfl (by omega) (by omega) ⟨by omega, by omega⟩ rfl (fun H4112 e4113 w4114 => ?_))
                            have f4115 := f3930.put' e4113 g0 rfl
                            have k4116 : H4112 r0 3 = 5 := wq_u_s e4113
                            refine wp_of e16 c16_202 (rw_goto (p1 := 280) (by decide) ?_)
                            refine wp_of e16 c16_280 (rw_aload_n (pc' := 281) (v := .ref r0) rfl rfl rfl ?_)
                            refine wp_of e16 c16_281 (rw_iload_n (pc' := 282) (z := v3924) rfl rfl ?_)
                            refine wp_of e16 c16_282 (xp_I (pc' := 285) lf_2_23 w4114 g0 sh_4 (by decide) (by decide) ty_4_2 rfl rfl (by omega) (by omega) ⟨by omega, by omega⟩ rfl (fun H4117 e4118 w4119 => ?_))
                            have f4120 := f4115.put' e4118 g0 rfl
                            have k4121 : H4117 r0 2 = v3924 := wq_u_s e4118
                            exact wp_return e16 c16_285 rfl ⟨rfl, w4119, f4120, rfl⟩
                          · refine wp_of e16 c16_194 (rw_iconst (pc' := 195) rfl ?_)
                            refine wp_of e16 c16_195 (rw_goto (p1 := 199) (by decide) ?_)
                            refine wp_of e16 c16_199 (xp_I (pc' := 202) lf_2_41 w3926 g0 sh_4 (by decide) (by decide) ty_4_3 rfl rfl (by omega) (by omega) ⟨by omega, by omega⟩ rfl (fun H4122 e4123 w4124 => ?_))
                            have f4125 := f3930.put' e4123 g0 rfl
                            have k4126 : H4122 r0 3 = 1 := wq_u_s e4123
                            refine wp_of e16 c16_202 (rw_goto (p1 := 280) (by decide) ?_)
                            refine wp_of e16 c16_280 (rw_aload_n (pc' := 281) (v := .ref r0) rfl rfl rfl ?_)
                            refine wp_of e16 c16_281 (rw_iload_n (pc' := 282) (z := v3924) rfl rfl ?_)
                            refine wp_of e16 c16_282 (xp_I (pc' := 285) lf_2_23 w4124 g0 sh_4 (by decide) (by decide) ty_4_2 rfl rfl (by omega) (by omega) ⟨by omega, by omega⟩ rfl (fun H4127 e4128 w4129 => ?_))
                            have f4130 := f4125.put' e4128 g0 rfl
                            have k4131 : H4127 r0 2 = v3924 := wq_u_s e4128
                            exact wp_return e16 c16_285 rfl ⟨rfl, w4129, f4130, rfl⟩
                      · refine wp_of e16 c16_125 (rw_aload_n (pc' := 126) (v := .ref r0) rfl rfl rfl ?_)
                        have k4132 : H3925 r0 0 = H3427 r0 0 := ((f3927 r0 0 _ g0 rfl).trans (wq_u_j e3868 rfl))
                        have q4133 : H3925 r0 0 = (rb : Int) := k4132.trans q3860
                        refine wp_of e16 c16_126 (xg_K (pc' := 129) lf_2_7 w3926 g0 sh_4 (by decide) (by decide) rfl q4133 rfl ?_)
                        refine wp_of e16 c16_129 (rw_iload_n (pc' := 130) (z := v3924) rfl rfl ?_)
                        refine wp_of e16 c16_130 (xa_B (by decide) (pc' := 131) w3926 grb sh_2 (by decide) (ty_2 _) (by omega) (by omega) rfl (fun b4134 b4135 => ?_))
                        refine wp_of e16 c16_131 (rw_bipush (pc' := 133) (z := 48) rfl (by decide) ?_)
                        refine wp_of e16 c16_133 (rw_icmp_lt (p1 := 174) (p2 := 136) (by decide) rfl ⟨by omega, by omega⟩ ⟨by omega, by omega⟩ (fun c4136 => ?_) (fun c4136 => ?_))
                        · refine wp_of e16 c16_174 (rw_iload_n (pc' := 175) (z := v3924) rfl rfl ?_)
                          refine wp_of e16 c16_175 (rw_aload_n (pc' := 176) (v := .ref r0) rfl rfl rfl ?_)
                          have k4137 : H3925 r0 4 = H3427 r0 4 := ((f3927 r0 4 _ g0 rfl).trans (wq_u_j e3868 rfl))
                          refine wp_of e16 c16_176 (xg_I (pc' := 179) lf_2_29 w3926 g0 sh_4 (by decide) (by decide) ty_4_4 rfl rfl (fun b4138 b4139 => ?_))
                          refine wp_of e16 c16_179 (rw_isub (pc' := 180) rfl ?_)
                          refine wp_of e16 c16_180 (rw_iload_n (pc' := 181) (z := v3426 - (H3427 r0 4)) rfl rfl ?_)
                          refine wp_of e16 c16_181 (rw_isub (pc' := 182) rfl ?_)
                          refine wp_of e16 c16_182 (rw_istore_n (pc' := 183) (z := (v3924 - (H3925 r0 4)) - (v3426 - (H3427 r0 4))) (L' := [(3, vI ((v3924 - (H3925 r0 4)) - (v3426 - (H3427 r0 4)))), (1, vI v3924), (2, vI (v3426 - (H3427 r0 4))), (0, .ref r0)]) rfl rfl rfl ?_)
                          refine wp_of e16 c16_183 (rw_iload_n (pc' := 184) (z := v3426 - (H3427 r0 4)) rfl rfl ?_)
                          refine wp_of e16 c16_184 (rw_if_le (p1 := 205) (p2 := 187) (by decide) rfl ⟨by omega, by omega⟩ (fun c4140 => ?_) (fun c4140 => ?_))
                          · refine wp_of e16 c16_205 (rw_iload_n (pc' := 206) (z := (v3924 - (H3925 r0 4)) - (v3426 - (H3427 r0 4))) rfl rfl ?_)
                            refine wp_of e16 c16_206 (rw_if_le (p1 := 226) (p2 := 209) (by decide) rfl ⟨by omega, by omega⟩ (fun c4141 => ?_) (fun c4141 => ?_))
                            · refine wp_of e16 c16_226 (rw_iload_n (pc' := 227) (z := v3924) rfl rfl ?_)
                              refine wp_of e16 c16_227 (rw_aload_n (pc' := 228) (v := .ref r0) rfl rfl rfl ?_)
                              refine wp_of e16 c16_228 (xg_I (pc' := 231) lf_2_19 w3926 g0 sh_4 (by decide) (by decide) ty_4_1 rfl rfl (fun b4142 b4143 => ?_))
                              refine wp_of e16 c16_231 (rw_icmp_ge (p1 := 275) (p2 := 234) (by decide) rfl ⟨by omega, by omega⟩ ⟨by omega, by omega⟩ (fun c4144 => ?_) (fun c4144 => ?_))
                              · refine wp_of e16 c16_275 (rw_aload_n (pc' := 276) (v := .ref r0) rfl rfl rfl ?_)
                                refine wp_of e16 c16_276 (rw_iconst (pc' := 277) rfl ?_)
                                refine wp_of e16 c16_277 (xp_I (pc' := 280) lf_2_41 w3926 g0 sh_4 (by decide) (by decide) ty_4_3 rfl rfl (by omega) (by omega) ⟨by omega, by omega⟩ rfl (fun H4145 e4146 w4147 => ?_))
                                have f4148 := f3930.put' e4146 g0 rfl
                                have k4149 : H4145 r0 3 = 0 := wq_u_s e4146
                                refine wp_of e16 c16_280 (rw_aload_n (pc' := 281) (v := .ref r0) rfl rfl rfl ?_)
                                refine wp_of e16 c16_281 (rw_iload_n (pc' := 282) (z := v3924) rfl rfl ?_)
                                refine wp_of e16 c16_282 (xp_I (pc' := 285) lf_2_23 w4147 g0 sh_4 (by decide) (by decide) ty_4_2 rfl rfl (by omega) (by omega) ⟨by omega, by omega⟩ rfl (fun H4150 e4151 w4152 => ?_))
                                have f4153 := f4148.put' e4151 g0 rfl
                                have k4154 : H4150 r0 2 = v3924 := wq_u_s e4151
                                exact wp_return e16 c16_285 rfl ⟨rfl, w4152, f4153, rfl⟩
                              · refine wp_of e16 c16_234 (rw_aload_n (pc' := 235) (v := .ref r0) rfl rfl rfl ?_)
                                refine wp_of e16 c16_235 (rw_aload_n (pc' := 236) (v := .ref r0) rfl rfl rfl ?_)
                                refine wp_of e16 c16_236 (xg_K (pc' := 239) lf_2_7 w3926 g0 sh_4 (by decide) (by decide) rfl q4133 rfl ?_)
                                refine wp_of e16 c16_239 (rw_iload_n (pc' := 240) (z := v3924) rfl rfl ?_)
                                refine wp_of e16 c16_240 (xa_B (by decide) (pc' := 241) w3926 grb sh_2 (by decide) (ty_2 _) (by omega) (by omega) rfl (fun b4155 b4156 => ?_))
                                refine wp_of e16 c16_241 (rw_bipush (pc' := 243) (z := 59) rfl (by decide) ?_)
                                refine wp_of e16 c16_243 (rw_icmp_ne (p1 := 250) (p2 := 246) (by decide) rfl ⟨by omega, by omega⟩ ⟨by omega, by omega⟩ (fun c4157 => ?_) (fun c4157 => ?_))
                                · refine wp_of e16 c16_250 (rw_aload_n (pc' := 251) (v := .ref r0) rfl rfl rfl ?_)
                                  refine wp_of e16 c16_251 (xg_K (pc' := 254) lf_2_7 w3926 g0 sh_4 (by decide) (by decide) rfl q4133 rfl ?_)
                                  refine wp_of e16 c16_254 (rw_iload_n (pc' := 255) (z := v3924) rfl rfl ?_)
                                  refine wp_of e16 c16_255 (xa_B (by decide) (pc' := 256) w3926 grb sh_2 (by decide) (ty_2 _) (by omega) (by omega) rfl (fun b4158 b4159 => ?_))
                                  refine wp_of e16 c16_256 (rw_bipush (pc' := 258) (z := 44) rfl (by decide) ?_)
                                  refine wp_of e16 c16_258 (rw_icmp_ne (p1 := 265) (p2 := 261) (by decide) rfl ⟨by omega, by omega⟩ ⟨by omega, by omega⟩ (fun c4160 => ?_) (fun c4160 => ?_))
                                  · refine wp_of e16 c16_265 (rw_iconst (pc' := 266) rfl ?_)
                                    refine wp_of e16 c16_266 (xp_I (pc' := 269) lf_2_41 w3926 g0 sh_4 (by decide) (by decide) ty_4_3 rfl rfl (by omega) (by omega) ⟨by omega, by omega⟩ rfl (fun H4161 e4162 w4163 => ?_))
                                    have f4164 := f3930.put' e4162 g0 rfl
                                    have k4165 : H4161 r0 3 = 5 := wq_u_s e4162
                                    refine wp_of e16 c16_269 (rw_iinc (pc' := 272) (z := v3924) (L' := [(1, vI (v3924 + 1)), (3, vI ((v3924 - (H3925 r0 4)) - (v3426 - (H3427 r0 4)))), (2, vI (v3426 - (H3427 r0 4))), (0, .ref r0)]) rfl rfl rfl rfl ?_)
                                    refine wp_of e16 c16_272 (rw_goto (p1 := 280) (by decide) ?_)
                                    refine wp_of e16 c16_280 (rw_aload_n (pc' := 281) (v := .ref r0) rfl rfl rfl ?_)
                                    refine wp_of e16 c16_281 (rw_iload_n (pc' := 282) (z := v3924 + 1) rfl rfl ?_)
                                    refine wp_of e16 c16_282 (xp_I (pc' := 285) lf_2_23 w4163 g0 sh_4 (by decide) (by decide) ty_4_2 rfl rfl (by omega) (by omega) ⟨by omega, by omega⟩ rfl (fun H4166 e4167 w4168 => ?_))
                                    have f4169 := f4164.put' e4167 g0 rfl
                                    have k4170 : H4166 r0 2 = v3924 + 1 := wq_u_s e4167
                                    exact wp_return e16 c16_285 rfl ⟨rfl, w4168, f4169, rfl⟩
                                  · refine wp_of e16 c16_261 (rw_iconst (pc' := 262) rfl ?_)
                                    refine wp_of e16 c16_262 (rw_goto (p1 := 266) (by decide) ?_)
                                    refine wp_of e16 c16_266 (xp_I (pc' := 269) lf_2_41 w3926 g0 sh_4 (by decide) (by decide) ty_4_3 rfl rfl (by omega) (by omega) ⟨by omega, by omega⟩ rfl (fun H4171 e4172 w4173 => ?_))
                                    have f4174 := f3930.put' e4172 g0 rfl
                                    have k4175 : H4171 r0 3 = 4 := wq_u_s e4172
                                    refine wp_of e16 c16_269 (rw_iinc (pc' := 272) (z := v3924) (L' := [(1, vI (v3924 + 1)), (3, vI ((v3924 - (H3925 r0 4)) - (v3426 - (H3427 r0 4)))), (2, vI (v3426 - (H3427 r0 4))), (0, .ref r0)]) rfl rfl rfl rfl ?_)
                                    refine wp_of e16 c16_272 (rw_goto (p1 := 280) (by decide) ?_)
                                    refine wp_of e16 c16_280 (rw_aload_n (pc' := 281) (v := .ref r0) rfl rfl rfl ?_)
                                    refine wp_of e16 c16_281 (rw_iload_n (pc' := 282) (z := v3924 + 1) rfl rfl ?_)
                                    refine wp_of e16 c16_282 (xp_I (pc' := 285) lf_2_23 w4173 g0 sh_4 (by decide) (by decide) ty_4_2 rfl rfl (by omega) (by omega) ⟨by omega, by omega⟩ rfl (fun H4176 e4177 w4178 => ?_))
                                    have f4179 := f4174.put' e4177 g0 rfl
                                    have k4180 : H4176 r0 2 = v3924 + 1 := wq_u_s e4177
                                    exact wp_return e16 c16_285 rfl ⟨rfl, w4178, f4179, rfl⟩
                                · exfalso
                                  omega
                            · refine wp_of e16 c16_209 (rw_aload_n (pc' := 210) (v := .ref r0) rfl rfl rfl ?_)
                              refine wp_of e16 c16_210 (rw_iload_n (pc' := 211) (z := (v3924 - (H3925 r0 4)) - (v3426 - (H3427 r0 4))) rfl rfl ?_)
                              refine wp_of e16 c16_211 (rw_iconst (pc' := 212) rfl ?_)
                              refine wp_of e16 c16_212 (rw_icmp_gt (p1 := 219) (p2 := 215) (by decide) rfl ⟨by omega, by omega⟩ ⟨by omega, by omega⟩ (fun c4181 => ?_) (fun c4181 => ?_))
                              · refine wp_of e16 c16_219 (rw_iconst (pc' := 220) rfl ?_)
                                refine wp_of e16 c16_220 (xp_I (pc' := 223) lf_2_41 w3926 g0 sh_4 (by decide) (by decide) ty_4_3 rfl rfl (by omega) (by omega) ⟨by omega, by omega⟩ rfl (fun H4182 e4183 w4184 => ?_))
                                have f4185 := f3930.put' e4183 g0 rfl
                                have k4186 : H4182 r0 3 = 5 := wq_u_s e4183
                                refine wp_of e16 c16_223 (rw_goto (p1 := 280) (by decide) ?_)
                                refine wp_of e16 c16_280 (rw_aload_n (pc' := 281) (v := .ref r0) rfl rfl rfl ?_)
                                refine wp_of e16 c16_281 (rw_iload_n (pc' := 282) (z := v3924) rfl rfl ?_)
                                refine wp_of e16 c16_282 (xp_I (pc' := 285) lf_2_23 w4184 g0 sh_4 (by decide) (by decide) ty_4_2 rfl rfl (by omega) (by omega) ⟨by omega, by omega⟩ rfl (fun H4187 e4188 w4189 => ?_))
                                have f4190 := f4185.put' e4188 g0 rfl
                                have k4191 : H4187 r0 2 = v3924 := wq_u_s e4188
                                exact wp_return e16 c16_285 rfl ⟨rfl, w4189, f4190, rfl⟩
                              · refine wp_of e16 c16_215 (rw_iconst (pc' := 216) rfl ?_)
                                refine wp_of e16 c16_216 (rw_goto (p1 := 220) (by decide) ?_)
                                refine wp_of e16 c16_220 (xp_I (pc' := 223) lf_2_41 w3926 g0 sh_4 (by decide) (by decide) ty_4_3 rfl rfl (by omega) (by omega) ⟨by omega, by omega⟩ rfl (fun H4192 e4193 w4194 => ?_))
                                have f4195 := f3930.put' e4193 g0 rfl
                                have k4196 : H4192 r0 3 = 2 := wq_u_s e4193
                                refine wp_of e16 c16_223 (rw_goto (p1 := 280) (by decide) ?_)
                                refine wp_of e16 c16_280 (rw_aload_n (pc' := 281) (v := .ref r0) rfl rfl rfl ?_)
                                refine wp_of e16 c16_281 (rw_iload_n (pc' := 282) (z := v3924) rfl rfl ?_)
                                refine wp_of e16 c16_282 (xp_I (pc' := 285) lf_2_23 w4194 g0 sh_4 (by decide) (by decide) ty_4_2 rfl rfl (by omega) (by omega) ⟨by omega, by omega⟩ rfl (fun H4197 e4198 w4199 => ?_))
                                have f4200 := f4195.put' e4198 g0 rfl
                                have k4201 : H4197 r0 2 = v3924 := wq_u_s e4198
                                exact wp_return e16 c16_285 rfl ⟨rfl, w4199, f4200, rfl⟩
                          · exfalso
                            omega
                        · refine wp_of e16 c16_136 (rw_aload_n (pc' := 137) (v := .ref r0) rfl rfl rfl ?_)
                          refine wp_of e16 c16_137 (xg_K (pc' := 140) lf_2_7 w3926 g0 sh_4 (by decide) (by decide) rfl q4133 rfl ?_)
                          refine wp_of e16 c16_140 (rw_iload_n (pc' := 141) (z := v3924) rfl rfl ?_)
                          refine wp_of e16 c16_141 (xa_B (by decide) (pc' := 142) w3926 grb sh_2 (by decide) (ty_2 _) (by omega) (by omega) rfl (fun b4202 b4203 => ?_))
                          refine wp_of e16 c16_142 (rw_bipush (pc' := 144) (z := 57) rfl (by decide) ?_)
                          refine wp_of e16 c16_144 (rw_icmp_gt (p1 := 174) (p2 := 147) (by decide) rfl ⟨by omega, by omega⟩ ⟨by omega, by omega⟩ (fun c4204 => ?_) (fun c4204 => ?_))
                          · refine wp_of e16 c16_174 (rw_iload_n (pc' := 175) (z := v3924) rfl rfl ?_)
                            refine wp_of e16 c16_175 (rw_aload_n (pc' := 176) (v := .ref r0) rfl rfl rfl ?_)
                            have k4205 : H3925 r0 4 = H3427 r0 4 := ((f3927 r0 4 _ g0 rfl).trans (wq_u_j e3868 rfl))
                            refine wp_of e16 c16_176 (xg_I (pc' := 179) lf_2_29 w3926 g0 sh_4 (by decide) (by decide) ty_4_4 rfl rfl (fun b4206 b4207 => ?_))
                            refine wp_of e16 c16_179 (rw_isub (pc' := 180) rfl ?_)
                            refine wp_of e16 c16_180 (rw_iload_n (pc' := 181) (z := v3426 - (H3427 r0 4)) rfl rfl ?_)
                            refine wp_of e16 c16_181 (rw_isub (pc' := 182) rfl ?_)
                            refine wp_of e16 c16_182 (rw_istore_n (pc' := 183) (z := (v3924 - (H3925 r0 4)) - (v3426 - (H3427 r0 4))) (L' := [(3, vI ((v3924 - (H3925 r0 4)) - (v3426 - (H3427 r0 4)))), (1, vI v3924), (2, vI (v3426 - (H3427 r0 4))), (0, .ref r0)]) rfl rfl rfl ?_)
                            refine wp_of e16 c16_183 (rw_iload_n (pc' := 184) (z := v3426 - (H3427 r0 4)) rfl rfl ?_)
                            refine wp_of e16 c16_184 (rw_if_le (p1 := 205) (p2 := 187) (by decide) rfl ⟨by omega, by omega⟩ (fun c4208 => ?_) (fun c4208 => ?_))
                            · refine wp_of e16 c16_205 (rw_iload_n (pc' := 206) (z := (v3924 - (H3925 r0 4)) - (v3426 - (H3427 r0 4))) rfl rfl ?_)
                              refine wp_of e16 c16_206 (rw_if_le (p1 := 226) (p2 := 209) (by decide) rfl ⟨by omega, by omega⟩ (fun c4209 => ?_) (fun c4209 => ?_))
                              · refine wp_of e16 c16_226 (rw_iload_n (pc' := 227) (z := v3924) rfl rfl ?_)
                                refine wp_of e16 c16_227 (rw_aload_n (pc' := 228) (v := .ref r0) rfl rfl rfl ?_)
                                refine wp_of e16 c16_228 (xg_I (pc' := 231) lf_2_19 w3926 g0 sh_4 (by decide) (by decide) ty_4_1 rfl rfl (fun b4210 b4211 => ?_))
                                refine wp_of e16 c16_231 (rw_icmp_ge (p1 := 275) (p2 := 234) (by decide) rfl ⟨by omega, by omega⟩ ⟨by omega, by omega⟩ (fun c4212 => ?_) (fun c4212 => ?_))
                                · refine wp_of e16 c16_275 (rw_aload_n (pc' := 276) (v := .ref r0) rfl rfl rfl ?_)
                                  refine wp_of e16 c16_276 (rw_iconst (pc' := 277) rfl ?_)
                                  refine wp_of e16 c16_277 (xp_I (pc' := 280) lf_2_41 w3926 g0 sh_4 (by decide) (by decide) ty_4_3 rfl rfl (by omega) (by omega) ⟨by omega, by omega⟩ rfl (fun H4213 e4214 w4215 => ?_))
                                  have f4216 := f3930.put' e4214 g0 rfl
                                  have k4217 : H4213 r0 3 = 0 := wq_u_s e4214
                                  refine wp_of e16 c16_280 (rw_aload_n (pc' := 281) (v := .ref r0) rfl rfl rfl ?_)
                                  refine wp_of e16 c16_281 (rw_iload_n (pc' := 282) (z := v3924) rfl rfl ?_)
                                  refine wp_of e16 c16_282 (xp_I (pc' := 285) lf_2_23 w4215 g0 sh_4 (by decide) (by decide) ty_4_2 rfl rfl (by omega) (by omega) ⟨by omega, by omega⟩ rfl (fun H4218 e4219 w4220 => ?_))
                                  have f4221 := f4216.put' e4219 g0 rfl
                                  have k4222 : H4218 r0 2 = v3924 := wq_u_s e4219
                                  exact wp_return e16 c16_285 rfl ⟨rfl, w4220, f4221, rfl⟩
                                · refine wp_of e16 c16_234 (rw_aload_n (pc' := 235) (v := .ref r0) rfl rfl rfl ?_)
                                  refine wp_of e16 c16_235 (rw_aload_n (pc' := 236) (v := .ref r0) rfl rfl rfl ?_)
                                  refine wp_of e16 c16_236 (xg_K (pc' := 239) lf_2_7 w3926 g0 sh_4 (by decide) (by decide) rfl q4133 rfl ?_)
                                  refine wp_of e16 c16_239 (rw_iload_n (pc' := 240) (z := v3924) rfl rfl ?_)
                                  refine wp_of e16 c16_240 (xa_B (by decide) (pc' := 241) w3926 grb sh_2 (by decide) (ty_2 _) (by omega) (by omega) rfl (fun b4223 b4224 => ?_))
                                  refine wp_of e16 c16_241 (rw_bipush (pc' := 243) (z := 59) rfl (by decide) ?_)
                                  refine wp_of e16 c16_243 (rw_icmp_ne (p1 := 250) (p2 := 246) (by decide) rfl ⟨by omega, by omega⟩ ⟨by omega, by omega⟩ (fun c4225 => ?_) (fun c4225 => ?_))
                                  · refine wp_of e16 c16_250 (rw_aload_n (pc' := 251) (v := .ref r0) rfl rfl rfl ?_)
                                    refine wp_of e16 c16_251 (xg_K (pc' := 254) lf_2_7 w3926 g0 sh_4 (by decide) (by decide) rfl q4133 rfl ?_)
                                    refine wp_of e16 c16_254 (rw_iload_n (pc' := 255) (z := v3924) rfl rfl ?_)
                                    refine wp_of e16 c16_255 (xa_B (by decide) (pc' := 256) w3926 grb sh_2 (by decide) (ty_2 _) (by omega) (by omega) rfl (fun b4226 b4227 => ?_))
                                    refine wp_of e16 c16_256 (rw_bipush (pc' := 258) (z := 44) rfl (by decide) ?_)
                                    refine wp_of e16 c16_258 (rw_icmp_ne (p1 := 265) (p2 := 261) (by decide) rfl ⟨by omega, by omega⟩ ⟨by omega, by omega⟩ (fun c4228 => ?_) (fun c4228 => ?_))
                                    · refine wp_of e16 c16_265 (rw_iconst (pc' := 266) rfl ?_)
                                      refine wp_of e16 c16_266 (xp_I (pc' := 269) lf_2_41 w3926 g0 sh_4 (by decide) (by decide) ty_4_3 rfl rfl (by omega) (by omega) ⟨by omega, by omega⟩ rfl (fun H4229 e4230 w4231 => ?_))
                                      have f4232 := f3930.put' e4230 g0 rfl
                                      have k4233 : H4229 r0 3 = 5 := wq_u_s e4230
                                      refine wp_of e16 c16_269 (rw_iinc (pc' := 272) (z := v3924) (L' := [(1, vI (v3924 + 1)), (3, vI ((v3924 - (H3925 r0 4)) - (v3426 - (H3427 r0 4)))), (2, vI (v3426 - (H3427 r0 4))), (0, .ref r0)]) rfl rfl rfl rfl ?_)
                                      refine wp_of e16 c16_272 (rw_goto (p1 := 280) (by decide) ?_)
                                      refine wp_of e16 c16_280 (rw_aload_n (pc' := 281) (v := .ref r0) rfl rfl rfl ?_)
                                      refine wp_of e16 c16_281 (rw_iload_n (pc' := 282) (z := v3924 + 1) rfl rfl ?_)
                                      refine wp_of e16 c16_282 (xp_I (pc' := 285) lf_2_23 w4231 g0 sh_4 (by decide) (by decide) ty_4_2 rfl rfl (by omega) (by omega) ⟨by omega, by omega⟩ rfl (fun H4234 e4235 w4236 => ?_))
                                      have f4237 := f4232.put' e4235 g0 rfl
                                      have k4238 : H4234 r0 2 = v3924 + 1 := wq_u_s e4235
                                      exact wp_return e16 c16_285 rfl ⟨rfl, w4236, f4237, rfl⟩
                                    · exfalso
                                      omega
                                  · refine wp_of e16 c16_246 (rw_iconst (pc' := 247) rfl ?_)
                                    refine wp_of e16 c16_247 (rw_goto (p1 := 266) (by decide) ?_)
                                    refine wp_of e16 c16_266 (xp_I (pc' := 269) lf_2_41 w3926 g0 sh_4 (by decide) (by decide) ty_4_3 rfl rfl (by omega) (by omega) ⟨by omega, by omega⟩ rfl (fun H4239 e4240 w4241 => ?_))
                                    have f4242 := f3930.put' e4240 g0 rfl
                                    have k4243 : H4239 r0 3 = 3 := wq_u_s e4240
                                    refine wp_of e16 c16_269 (rw_iinc (pc' := 272) (z := v3924) (L' := [(1, vI (v3924 + 1)), (3, vI ((v3924 - (H3925 r0 4)) - (v3426 - (H3427 r0 4)))), (2, vI (v3426 - (H3427 r0 4))), (0, .ref r0)]) rfl rfl rfl rfl ?_)
                                    refine wp_of e16 c16_272 (rw_goto (p1 := 280) (by decide) ?_)
                                    refine wp_of e16 c16_280 (rw_aload_n (pc' := 281) (v := .ref r0) rfl rfl rfl ?_)
                                    refine wp_of e16 c16_281 (rw_iload_n (pc' := 282) (z := v3924 + 1) rfl rfl ?_)
                                    refine wp_of e16 c16_282 (xp_I (pc' := 285) lf_2_23 w4241 g0 sh_4 (by decide) (by decide) ty_4_2 rfl rfl (by omega) (by omega) ⟨by omega, by omega⟩ rfl (fun H4244 e4245 w4246 => ?_))
                                    have f4247 := f4242.put' e4245 g0 rfl
                                    have k4248 : H4244 r0 2 = v3924 + 1 := wq_u_s e4245
                                    exact wp_return e16 c16_285 rfl ⟨rfl, w4246, f4247, rfl⟩
                              · refine wp_of e16 c16_209 (rw_aload_n (pc' := 210) (v := .ref r0) rfl rfl rfl ?_)
                                refine wp_of e16 c16_210 (rw_iload_n (pc' := 211) (z := (v3924 - (H3925 r0 4)) - (v3426 - (H3427 r0 4))) rfl rfl ?_)
                                refine wp_of e16 c16_211 (rw_iconst (pc' := 212) rfl ?_)
                                refine wp_of e16 c16_212 (rw_icmp_gt (p1 := 219) (p2 := 215) (by decide) rfl ⟨by omega, by omega⟩ ⟨by omega, by omega⟩ (fun c4249 => ?_) (fun c4249 => ?_))
                                · refine wp_of e16 c16_219 (rw_iconst (pc' := 220) rfl ?_)
                                  refine wp_of e16 c16_220 (xp_I (pc' := 223) lf_2_41 w3926 g0 sh_4 (by decide) (by decide) ty_4_3 rfl rfl (by omega) (by omega) ⟨by omega, by omega⟩ rfl (fun H4250 e4251 w4252 => ?_))
                                  have f4253 := f3930.put' e4251 g0 rfl
                                  have k4254 : H4250 r0 3 = 5 := wq_u_s e4251
                                  refine wp_of e16 c16_223 (rw_goto (p1 := 280) (by decide) ?_)
                                  refine wp_of e16 c16_280 (rw_aload_n (pc' := 281) (v := .ref r0) rfl rfl rfl ?_)
                                  refine wp_of e16 c16_281 (rw_iload_n (pc' := 282) (z := v3924) rfl rfl ?_)
                                  refine wp_of e16 c16_282 (xp_I (pc' := 285) lf_2_23 w4252 g0 sh_4 (by decide) (by decide) ty_4_2 rfl rfl (by omega) (by omega) ⟨by omega, by omega⟩ rfl (fun H4255 e4256 w4257 => ?_))
                                  have f4258 := f4253.put' e4256 g0 rfl
                                  have k4259 : H4255 r0 2 = v3924 := wq_u_s e4256
                                  exact wp_return e16 c16_285 rfl ⟨rfl, w4257, f4258, rfl⟩
                                · refine wp_of e16 c16_215 (rw_iconst (pc' := 216) rfl ?_)
                                  refine wp_of e16 c16_216 (rw_goto (p1 := 220) (by decide) ?_)
                                  refine wp_of e16 c16_220 (xp_I (pc' := 223) lf_2_41 w3926 g0 sh_4 (by decide) (by decide) ty_4_3 rfl rfl (by omega) (by omega) ⟨by omega, by omega⟩ rfl (fun H4260 e4261 w4262 => ?_))
                                  have f4263 := f3930.put' e4261 g0 rfl
                                  have k4264 : H4260 r0 3 = 2 := wq_u_s e4261
                                  refine wp_of e16 c16_223 (rw_goto (p1 := 280) (by decide) ?_)
                                  refine wp_of e16 c16_280 (rw_aload_n (pc' := 281) (v := .ref r0) rfl rfl rfl ?_)
                                  refine wp_of e16 c16_281 (rw_iload_n (pc' := 282) (z := v3924) rfl rfl ?_)
                                  refine wp_of e16 c16_282 (xp_I (pc' := 285) lf_2_23 w4262 g0 sh_4 (by decide) (by decide) ty_4_2 rfl rfl (by omega) (by omega) ⟨by omega, by omega⟩ rfl (fun H4265 e4266 w4267 => ?_))
                                  have f4268 := f4263.put' e4266 g0 rfl
                                  have k4269 : H4265 r0 2 = v3924 := wq_u_s e4266
                                  exact wp_return e16 c16_285 rfl ⟨rfl, w4267, f4268, rfl⟩
                            · exfalso
                              omega
                          · refine wp_of e16 c16_147 (rw_aload_n (pc' := 148) (v := .ref r0) rfl rfl rfl ?_)
                            refine wp_of e16 c16_148 (rw_aload_n (pc' := 149) (v := .ref r0) rfl rfl rfl ?_)
                            refine wp_of e16 c16_149 (xg_I (pc' := 152) lf_2_38 w3926 g0 sh_4 (by decide) (by decide) ty_4_5 rfl rfl (fun b4270 b4271 => ?_))
                            refine wp_of e16 c16_152 (rw_bipush (pc' := 154) (z := 10) rfl (by decide) ?_)
                            refine wp_of e16 c16_154 (rw_imulw (pc' := 155) rfl ?_)
                            obtain ⟨v4272, e4273⟩ : ∃ x : Int, x = wq_w ((H3925 r0 5) * 10) := ⟨_, rfl⟩
                            rw [← e4273]
                            have b4274 : -2147483648 ≤ v4272 ∧ v4272 ≤ 2147483647 := by
                              rw [e4273]
                              exact wI_w _
                            refine wp_of e16 c16_155 (rw_aload_n (pc' := 156) (v := .ref r0) rfl rfl rfl ?_)
                            refine wp_of e16 c16_156 (xg_K (pc' := 159) lf_2_7 w3926 g0 sh_4 (by decide) (by decide) rfl q4133 rfl ?_)
                            refine wp_of e16 c16_159 (rw_iload_n (pc' := 160) (z := v3924) rfl rfl ?_)
                            refine wp_of e16 c16_160 (xa_B (by decide) (pc' := 161) w3926 grb sh_2 (by decide) (ty_2 _) (by omega) (by omega) rfl (fun b4275 b4276 => ?_))
                            refine wp_of e16 c16_161 (rw_bipush (pc' := 163) (z := 48) rfl (by decide) ?_)
                            refine wp_of e16 c16_163 (rw_isub (pc' := 164) rfl ?_)
                            refine wp_of e16 c16_164 (rw_iaddw (pc' := 165) rfl ?_)
                            obtain ⟨v4277, e4278⟩ : ∃ x : Int, x = wq_w (v4272 + ((H3925 rb (v3924.toNat)) - 48)) := ⟨_, rfl⟩
                            rw [← e4278]
                            have b4279 : -2147483648 ≤ v4277 ∧ v4277 ≤ 2147483647 := by
                              rw [e4278]
                              exact wI_w _
                            refine wp_of e16 c16_165 (xp_I (pc' := 168) lf_2_38 w3926 g0 sh_4 (by decide) (by decide) ty_4_5 rfl rfl (by omega) (by omega) ⟨by omega, by omega⟩ rfl (fun H4280 e4281 w4282 => ?_))
                            have f4283 := f3930.put' e4281 g0 rfl
                            have f4284 := f3927.put' e4281 g0 rfl
                            have k4285 : H4280 r0 5 = v4277 := wq_u_s e4281
                            refine wp_of e16 c16_168 (rw_iinc (pc' := 171) (z := v3924) (L' := [(1, vI (v3924 + 1)), (2, vI (v3426 - (H3427 r0 4))), (0, .ref r0)]) rfl rfl rfl rfl ?_)
                            refine wp_of e16 c16_171 (rw_goto (p1 := 113) (by decide) ?_)
                            exact wp_lc (ks := [1, 2, 0]) (wl_c rfl (wl_c rfl (wl_c rfl wl_n))) rfl (by decide) (ih3923 _ (by omega) (v3924 + 1) H4280 w4282 f4284 ⟨by omega, by omega⟩ rfl)
                exact wp_lc (ks := [2, 1, 0]) (wl_c rfl (wl_c rfl (wl_c rfl wl_n))) rfl (by decide) (lp3921 _ v3426 H3867 w3869 wfr.rf ⟨by omega, by omega⟩ rfl)
              · refine wp_of e16 c16_59 (rw_aload_n (pc' := 60) (v := .ref r0) rfl rfl rfl ?_)
                refine wp_of e16 c16_60 (xg_K (pc' := 63) lf_2_7 w3428 g0 sh_4 (by decide) (by decide) rfl q3860 rfl ?_)
                refine wp_of e16 c16_63 (rw_iload_n (pc' := 64) (z := v3426) rfl rfl ?_)
                refine wp_of e16 c16_64 (xa_B (by decide) (pc' := 65) w3428 grb sh_2 (by decide) (ty_2 _) (by omega) (by omega) rfl (fun b4286 b4287 => ?_))
                refine wp_of e16 c16_65 (rw_bipush (pc' := 67) (z := 122) rfl (by decide) ?_)
                refine wp_of e16 c16_67 (rw_icmp_gt (p1 := 101) (p2 := 70) (by decide) rfl ⟨by omega, by omega⟩ ⟨by omega, by omega⟩ (fun c4288 => ?_) (fun c4288 => ?_))
                · refine wp_of e16 c16_101 (rw_iload_n (pc' := 102) (z := v3426) rfl rfl ?_)
                  refine wp_of e16 c16_102 (rw_aload_n (pc' := 103) (v := .ref r0) rfl rfl rfl ?_)
                  have k4289 : H3427 r0 4 = H3366 r0 4 := ((f3429 r0 4 _ g0 rfl).trans (wq_u_j e3372 rfl))
                  refine wp_of e16 c16_103 (xg_I (pc' := 106) lf_2_29 w3428 g0 sh_4 (by decide) (by decide) ty_4_4 rfl rfl (fun b4290 b4291 => ?_))
                  refine wp_of e16 c16_106 (rw_isub (pc' := 107) rfl ?_)
                  refine wp_of e16 c16_107 (rw_istore_n (pc' := 108) (z := v3426 - (H3427 r0 4)) (L' := [(2, vI (v3426 - (H3427 r0 4))), (1, vI v3426), (0, .ref r0)]) rfl rfl rfl ?_)
                  refine wp_of e16 c16_108 (rw_aload_n (pc' := 109) (v := .ref r0) rfl rfl rfl ?_)
                  refine wp_of e16 c16_109 (rw_iconst (pc' := 110) rfl ?_)
                  refine wp_of e16 c16_110 (xp_I (pc' := 113) lf_2_38 w3428 g0 sh_4 (by decide) (by decide) ty_4_5 rfl rfl (by omega) (by omega) ⟨by omega, by omega⟩ rfl (fun H4292 e4293 w4294 => ?_))
                  have f4295 := f3432.put' e4293 g0 rfl
                  have k4296 : H4292 r0 5 = 0 := wq_u_s e4293
                  have lp4346 : ∀ (n4347 : Nat) (v4349 : Int) (H4350 : wq_H), WT T H4350 → wfr [(4, 5)] T H4292 H4350 → (0 ≤ v4349 ∧ v4349 ≤ 900) → (900 - v4349).toNat = n4347 → wp kt 0 16 113 [(1, vI v4349), (2, vI (v3426 - (H3427 r0 4))), (0, .ref r0)] [] T H4350 (q_16 r0 rb T H) := by
                    intro n4347
                    induction n4347 using Nat.strongRecOn with
                    | _ n4347 ih4348 =>
                      intro v4349 H4350 w4351 f4352 b4353 m4354
                      have f4355 := f4295.tr f4352 rfl
                      refine wp_of e16 c16_113 (rw_iload_n (pc' := 114) (z := v4349) rfl rfl ?_)
                      refine wp_of e16 c16_114 (rw_aload_n (pc' := 115) (v := .ref r0) rfl rfl rfl ?_)
                      have k4356 : H4350 r0 1 = H3427 r0 1 := ((f4352 r0 1 _ g0 rfl).trans (wq_u_j e4293 rfl))
                      refine wp_of e16 c16_115 (xg_I (pc' := 118) lf_2_19 w4351 g0 sh_4 (by decide) (by decide) ty_4_1 rfl rfl (fun b4357 b4358 => ?_))
                      refine wp_of e16 c16_118 (rw_icmp_ge (p1 := 174) (p2 := 121) (by decide) rfl ⟨by omega, by omega⟩ ⟨by omega, by omega⟩ (fun c4359 => ?_) (fun c4359 => ?_))
                      · refine wp_of e16 c16_174 (rw_iload_n (pc' := 175) (z := v4349) rfl rfl ?_)
                        refine wp_of e16 c16_175 (rw_aload_n (pc' := 176) (v := .ref r0) rfl rfl rfl ?_)
                        have k4360 : H4350 r0 4 = H3427 r0 4 := ((f4352 r0 4 _ g0 rfl).trans (wq_u_j e4293 rfl))
                        refine wp_of e16 c16_176 (xg_I (pc' := 179) lf_2_29 w4351 g0 sh_4 (by decide) (by decide) ty_4_4 rfl rfl (fun b4361 b4362 => ?_))
                        refine wp_of e16 c16_179 (rw_isub (pc' := 180) rfl ?_)
                        refine wp_of e16 c16_180 (rw_iload_n (pc' := 181) (z := v3426 - (H3427 r0 4)) rfl rfl ?_)
                        refine wp_of e16 c16_181 (rw_isub (pc' := 182) rfl ?_)
                        refine wp_of e16 c16_182 (rw_istore_n (pc' := 183) (z := (v4349 - (H4350 r0 4)) - (v3426 - (H3427 r0 4))) (L' := [(3, vI ((v4349 - (H4350 r0 4)) - (v3426 - (H3427 r0 4)))), (1, vI v4349), (2, vI (v3426 - (H3427 r0 4))), (0, .ref r0)]) rfl rfl rfl ?_)
                        refine wp_of e16 c16_183 (rw_iload_n (pc' := 184) (z := v3426 - (H3427 r0 4)) rfl rfl ?_)
                        refine wp_of e16 c16_184 (rw_if_le (p1 := 205) (p2 := 187) (by decide) rfl ⟨by omega, by omega⟩ (fun c4363 => ?_) (fun c4363 => ?_))
                        · refine wp_of e16 c16_205 (rw_iload_n (pc' := 206) (z := (v4349 - (H4350 r0 4)) - (v3426 - (H3427 r0 4))) rfl rfl ?_)
                          refine wp_of e16 c16_206 (rw_if_le (p1 := 226) (p2 := 209) (by decide) rfl ⟨by omega, by omega⟩ (fun c4364 => ?_) (fun c4364 => ?_))
                          · refine wp_of e16 c16_226 (rw_iload_n (pc' := 227) (z := v4349) rfl rfl ?_)
                            refine wp_of e16 c16_227 (rw_aload_n (pc' := 228) (v := .ref r0) rfl rfl rfl ?_)
                            refine wp_of e16 c16_228 (xg_I (pc' := 231) lf_2_19 w4351 g0 sh_4 (by decide) (by decide) ty_4_1 rfl rfl (fun b4365 b4366 => ?_))
                            refine wp_of e16 c16_231 (rw_icmp_ge (p1 := 275) (p2 := 234) (by decide) rfl ⟨by omega, by omega⟩ ⟨by omega, by omega⟩ (fun c4367 => ?_) (fun c4367 => ?_))
                            · refine wp_of e16 c16_275 (rw_aload_n (pc' := 276) (v := .ref r0) rfl rfl rfl ?_)
                              refine wp_of e16 c16_276 (rw_iconst (pc' := 277) rfl ?_)
                              refine wp_of e16 c16_277 (xp_I (pc' := 280) lf_2_41 w4351 g0 sh_4 (by decide) (by decide) ty_4_3 rfl rfl (by omega) (by omega) ⟨by omega, by omega⟩ rfl (fun H4368 e4369 w4370 => ?_))
                              have f4371 := f4355.put' e4369 g0 rfl
                              have k4372 : H4368 r0 3 = 0 := wq_u_s e4369
                              refine wp_of e16 c16_280 (rw_aload_n (pc' := 281) (v := .ref r0) rfl rfl rfl ?_)
                              refine wp_of e16 c16_281 (rw_iload_n (pc' := 282) (z := v4349) rfl rfl ?_)
                              refine wp_of e16 c16_282 (xp_I (pc' := 285) lf_2_23 w4370 g0 sh_4 (by decide) (by decide) ty_4_2 rfl rfl (by omega) (by omega) ⟨by omega, by omega⟩ rfl (fun H4373 e4374 w4375 => ?_))
                              have f4376 := f4371.put' e4374 g0 rfl
                              have k4377 : H4373 r0 2 = v4349 := wq_u_s e4374
                              exact wp_return e16 c16_285 rfl ⟨rfl, w4375, f4376, rfl⟩
                            · refine wp_of e16 c16_234 (rw_aload_n (pc' := 235) (v := .ref r0) rfl rfl rfl ?_)
                              refine wp_of e16 c16_235 (rw_aload_n (pc' := 236) (v := .ref r0) rfl rfl rfl ?_)
                              have k4378 : H4350 r0 0 = H3427 r0 0 := ((f4352 r0 0 _ g0 rfl).trans (wq_u_j e4293 rfl))
                              have q4379 : H4350 r0 0 = (rb : Int) := k4378.trans q3860
                              refine wp_of e16 c16_236 (xg_K (pc' := 239) lf_2_7 w4351 g0 sh_4 (by decide) (by decide) rfl q4379 rfl ?_)
                              refine wp_of e16 c16_239 (rw_iload_n (pc' := 240) (z := v4349) rfl rfl ?_)
                              refine wp_of e16 c16_240 (xa_B (by decide) (pc' := 241) w4351 grb sh_2 (by decide) (ty_2 _) (by omega) (by omega) rfl (fun b4380 b4381 => ?_))
                              refine wp_of e16 c16_241 (rw_bipush (pc' := 243) (z := 59) rfl (by decide) ?_)
                              refine wp_of e16 c16_243 (rw_icmp_ne (p1 := 250) (p2 := 246) (by decide) rfl ⟨by omega, by omega⟩ ⟨by omega, by omega⟩ (fun c4382 => ?_) (fun c4382 => ?_))
                              · refine wp_of e16 c16_250 (rw_aload_n (pc' := 251) (v := .ref r0) rfl rfl rfl ?_)
                                refine wp_of e16 c16_251 (xg_K (pc' := 254) lf_2_7 w4351 g0 sh_4 (by decide) (by decide) rfl q4379 rfl ?_)
                                refine wp_of e16 c16_254 (rw_iload_n (pc' := 255) (z := v4349) rfl rfl ?_)
                                refine wp_of e16 c16_255 (xa_B (by decide) (pc' := 256) w4351 grb sh_2 (by decide) (ty_2 _) (by omega) (by omega) rfl (fun b4383 b4384 => ?_))
                                refine wp_of e16 c16_256 (rw_bipush (pc' := 258) (z := 44) rfl (by decide) ?_)
                                refine wp_of e16 c16_258 (rw_icmp_ne (p1 := 265) (p2 := 261) (by decide) rfl ⟨by omega, by omega⟩ ⟨by omega, by omega⟩ (fun c4385 => ?_) (fun c4385 => ?_))
                                · refine wp_of e16 c16_265 (rw_iconst (pc' := 266) rfl ?_)
                                  refine wp_of e16 c16_266 (xp_I (pc' := 269) lf_2_41 w4351 g0 sh_4 (by decide) (by decide) ty_4_3 rfl rfl (by omega) (by omega) ⟨by omega, by omega⟩ rfl (fun H4386 e4387 w4388 => ?_))
                                  have f4389 := f4355.put' e4387 g0 rfl
                                  have k4390 : H4386 r0 3 = 5 := wq_u_s e4387
                                  refine wp_of e16 c16_269 (rw_iinc (pc' := 272) (z := v4349) (L' := [(1, vI (v4349 + 1)), (3, vI ((v4349 - (H4350 r0 4)) - (v3426 - (H3427 r0 4)))), (2, vI (v3426 - (H3427 r0 4))), (0, .ref r0)]) rfl rfl rfl rfl ?_)
                                  refine wp_of e16 c16_272 (rw_goto (p1 := 280) (by decide) ?_)
                                  refine wp_of e16 c16_280 (rw_aload_n (pc' := 281) (v := .ref r0) rfl rfl rfl ?_)
                                  refine wp_of e16 c16_281 (rw_iload_n (pc' := 282) (z := v4349 + 1) rfl rfl ?_)
                                  refine wp_of e16 c16_282 (xp_I (pc' := 285) lf_2_23 w4388 g0 sh_4 (by decide) (by decide) ty_4_2 rfl rfl (by omega) (by omega) ⟨by omega, by omega⟩ rfl (fun H4391 e4392 w4393 => ?_))
                                  have f4394 := f4389.put' e4392 g0 rfl
                                  have k4395 : H4391 r0 2 = v4349 + 1 := wq_u_s e4392
                                  exact wp_return e16 c16_285 rfl ⟨rfl, w4393, f4394, rfl⟩
                                · refine wp_of e16 c16_261 (rw_iconst (pc' := 262) rfl ?_)
                                  refine wp_of e16 c16_262 (rw_goto (p1 := 266) (by decide) ?_)
                                  refine wp_of e16 c16_266 (xp_I (pc' := 269) lf_2_41 w4351 g0 sh_4 (by decide) (by decide) ty_4_3 rfl rfl (by omega) (by omega) ⟨by omega, by omega⟩ rfl (fun H4396 e4397 w4398 => ?_))
                                  have f4399 := f4355.put' e4397 g0 rfl
                                  have k4400 : H4396 r0 3 = 4 := wq_u_s e4397
                                  refine wp_of e16 c16_269 (rw_iinc (pc' := 272) (z := v4349) (L' := [(1, vI (v4349 + 1)), (3, vI ((v4349 - (H4350 r0 4)) - (v3426 - (H3427 r0 4)))), (2, vI (v3426 - (H3427 r0 4))), (0, .ref r0)]) rfl rfl rfl rfl ?_)
                                  refine wp_of e16 c16_272 (rw_goto (p1 := 280) (by decide) ?_)
                                  refine wp_of e16 c16_280 (rw_aload_n (pc' := 281) (v := .ref r0) rfl rfl rfl ?_)
                                  refine wp_of e16 c16_281 (rw_iload_n (pc' := 282) (z := v4349 + 1) rfl rfl ?_)
                                  refine wp_of e16 c16_282 (xp_I (pc' := 285) lf_2_23 w4398 g0 sh_4 (by decide) (by decide) ty_4_2 rfl rfl (by omega) (by omega) ⟨by omega, by omega⟩ rfl (fun H4401 e4402 w4403 => ?_))
                                  have f4404 := f4399.put' e4402 g0 rfl
                                  have k4405 : H4401 r0 2 = v4349 + 1 := wq_u_s e4402
                                  exact wp_return e16 c16_285 rfl ⟨rfl, w4403, f4404, rfl⟩
                              · refine wp_of e16 c16_246 (rw_iconst (pc' := 247) rfl ?_)
                                refine wp_of e16 c16_247 (rw_goto (p1 := 266) (by decide) ?_)
                                refine wp_of e16 c16_266 (xp_I (pc' := 269) lf_2_41 w4351 g0 sh_4 (by decide) (by decide) ty_4_3 rfl rfl (by omega) (by omega) ⟨by omega, by omega⟩ rfl (fun H4406 e4407 w4408 => ?_))
                                have f4409 := f4355.put' e4407 g0 rfl
                                have k4410 : H4406 r0 3 = 3 := wq_u_s e4407
                                refine wp_of e16 c16_269 (rw_iinc (pc' := 272) (z := v4349) (L' := [(1, vI (v4349 + 1)), (3, vI ((v4349 - (H4350 r0 4)) - (v3426 - (H3427 r0 4)))), (2, vI (v3426 - (H3427 r0 4))), (0, .ref r0)]) rfl rfl rfl rfl ?_)
                                refine wp_of e16 c16_272 (rw_goto (p1 := 280) (by decide) ?_)
                                refine wp_of e16 c16_280 (rw_aload_n (pc' := 281) (v := .ref r0) rfl rfl rfl ?_)
                                refine wp_of e16 c16_281 (rw_iload_n (pc' := 282) (z := v4349 + 1) rfl rfl ?_)
                                refine wp_of e16 c16_282 (xp_I (pc' := 285) lf_2_23 w4408 g0 sh_4 (by decide) (by decide) ty_4_2 rfl rfl (by omega) (by omega) ⟨by omega, by omega⟩ rfl (fun H4411 e4412 w4413 => ?_))
                                have f4414 := f4409.put' e4412 g0 rfl
                                have k4415 : H4411 r0 2 = v4349 + 1 := wq_u_s e4412
                                exact wp_return e16 c16_285 rfl ⟨rfl, w4413, f4414, rfl⟩
                          · refine wp_of e16 c16_209 (rw_aload_n (pc' := 210) (v := .ref r0) rfl rfl rfl ?_)
                            refine wp_of e16 c16_210 (rw_iload_n (pc' := 211) (z := (v4349 - (H4350 r0 4)) - (v3426 - (H3427 r0 4))) rfl rfl ?_)
                            refine wp_of e16 c16_211 (rw_iconst (pc' := 212) rfl ?_)
                            refine wp_of e16 c16_212 (rw_icmp_gt (p1 := 219) (p2 := 215) (by decide) rfl ⟨by omega, by omega⟩ ⟨by omega, by omega⟩ (fun c4416 => ?_) (fun c4416 => ?_))
                            · refine wp_of e16 c16_219 (rw_iconst (pc' := 220) rfl ?_)
                              refine wp_of e16 c16_220 (xp_I (pc' := 223) lf_2_41 w4351 g0 sh_4 (by decide) (by decide) ty_4_3 rfl rfl (by omega) (by omega) ⟨by omega, by omega⟩ rfl (fun H4417 e4418 w4419 => ?_))
                              have f4420 := f4355.put' e4418 g0 rfl
                              have k4421 : H4417 r0 3 = 5 := wq_u_s e4418
                              refine wp_of e16 c16_223 (rw_goto (p1 := 280) (by decide) ?_)
                              refine wp_of e16 c16_280 (rw_aload_n (pc' := 281) (v := .ref r0) rfl rfl rfl ?_)
                              refine wp_of e16 c16_281 (rw_iload_n (pc' := 282) (z := v4349) rfl rfl ?_)
                              refine wp_of e16 c16_282 (xp_I (pc' := 285) lf_2_23 w4419 g0 sh_4 (by decide) (by decide) ty_4_2 rfl rfl (by omega) (by omega) ⟨by omega, by omega⟩ rfl (fun H4422 e4423 w4424 => ?_))
                              have f4425 := f4420.put' e4423 g0 rfl
                              have k4426 : H4422 r0 2 = v4349 := wq_u_s e4423
                              exact wp_return e16 c16_285 rfl ⟨rfl, w4424, f4425, rfl⟩
                            · refine wp_of e16 c16_215 (rw_iconst (pc' := 216) rfl ?_)
                              refine wp_of e16 c16_216 (rw_goto (p1 := 220) (by decide) ?_)
                              refine wp_of e16 c16_220 (xp_I (pc' := 223) lf_2_41 w4351 g0 sh_4 (by decide) (by decide) ty_4_3 rfl rfl (by omega) (by omega) ⟨by omega, by omega⟩ rfl (fun H4427 e4428 w4429 => ?_))
                              have f4430 := f4355.put' e4428 g0 rfl
                              have k4431 : H4427 r0 3 = 2 := wq_u_s e4428
                              refine wp_of e16 c16_223 (rw_goto (p1 := 280) (by decide) ?_)
                              refine wp_of e16 c16_280 (rw_aload_n (pc' := 281) (v := .ref r0) rfl rfl rfl ?_)
                              refine wp_of e16 c16_281 (rw_iload_n (pc' := 282) (z := v4349) rfl rfl ?_)
                              refine wp_of e16 c16_282 (xp_I (pc' := 285) lf_2_23 w4429 g0 sh_4 (by decide) (by decide) ty_4_2 rfl rfl (by omega) (by omega) ⟨by omega, by omega⟩ rfl (fun H4432 e4433 w4434 => ?_))
                              have f4435 := f4430.put' e4433 g0 rfl
                              have k4436 : H4432 r0 2 = v4349 := wq_u_s e4433
                              exact wp_return e16 c16_285 rfl ⟨rfl, w4434, f4435, rfl⟩
                        · refine wp_of e16 c16_187 (rw_aload_n (pc' := 188) (v := .ref r0) rfl rfl rfl ?_)
                          refine wp_of e16 c16_188 (rw_iload_n (pc' := 189) (z := v3426 - (H3427 r0 4)) rfl rfl ?_)
                          refine wp_of e16 c16_189 (rw_bipush (pc' := 191) (z := 8) rfl (by decide) ?_)
                          refine wp_of e16 c16_191 (rw_icmp_gt (p1 := 198) (p2 := 194) (by decide) rfl ⟨by omega, by omega⟩ ⟨by omega, by omega⟩ (fun c4437 => ?_) (fun c4437 => ?_))
                          · refine wp_of e16 c16_198 (rw_iconst (pc' := 199) rfl ?_)
                            refine wp_of e16 c16_199 (xp_I (pc' := 202) lf_2_41 w4351 g0 sh_4 (by decide) (by decide) ty_4_3 rfl rfl (by omega) (by omega) ⟨by omega, by omega⟩ rfl (fun H4438 e4439 w4440 => ?_))
                            have f4441 := f4355.put' e4439 g0 rfl
                            have k4442 : H4438 r0 3 = 5 := wq_u_s e4439
                            refine wp_of e16 c16_202 (rw_goto (p1 := 280) (by decide) ?_)
                            refine wp_of e16 c16_280 (rw_aload_n (pc' := 281) (v := .ref r0) rfl rfl rfl ?_)
                            refine wp_of e16 c16_281 (rw_iload_n (pc' := 282) (z := v4349) rfl rfl ?_)
                            refine wp_of e16 c16_282 (xp_I (pc' := 285) lf_2_23 w4440 g0 sh_4 (by decide) (by decide) ty_4_2 rfl rfl (by omega) (by omega) ⟨by omega, by omega⟩ rfl (fun H4443 e4444 w4445 => ?_))
                            have f4446 := f4441.put' e4444 g0 rfl
                            have k4447 : H4443 r0 2 = v4349 := wq_u_s e4444
                            exact wp_return e16 c16_285 rfl ⟨rfl, w4445, f4446, rfl⟩
                          · refine wp_of e16 c16_194 (rw_iconst (pc' := 195) rfl ?_)
                            refine wp_of e16 c16_195 (rw_goto (p1 := 199) (by decide) ?_)
                            refine wp_of e16 c16_199 (xp_I (pc' := 202) lf_2_41 w4351 g0 sh_4 (by decide) (by decide) ty_4_3 rfl rfl (by omega) (by omega) ⟨by omega, by omega⟩ rfl (fun H4448 e4449 w4450 => ?_))
                            have f4451 := f4355.put' e4449 g0 rfl
                            have k4452 : H4448 r0 3 = 1 := wq_u_s e4449
                            refine wp_of e16 c16_202 (rw_goto (p1 := 280) (by decide) ?_)
                            refine wp_of e16 c16_280 (rw_aload_n (pc' := 281) (v := .ref r0) rfl rfl rfl ?_)
                            refine wp_of e16 c16_281 (rw_iload_n (pc' := 282) (z := v4349) rfl rfl ?_)
                            refine wp_of e16 c16_282 (xp_I (pc' := 285) lf_2_23 w4450 g0 sh_4 (by decide) (by decide) ty_4_2 rfl rfl (by omega) (by omega) ⟨by omega, by omega⟩ rfl (fun H4453 e4454 w4455 => ?_))
                            have f4456 := f4451.put' e4454 g0 rfl
                            have k4457 : H4453 r0 2 = v4349 := wq_u_s e4454
                            exact wp_return e16 c16_285 rfl ⟨rfl, w4455, f4456, rfl⟩
                      · refine wp_of e16 c16_121 (rw_iload_n (pc' := 122) (z := v3426 - (H3427 r0 4)) rfl rfl ?_)
                        refine wp_of e16 c16_122 (rw_if_ne (p1 := 174) (p2 := 125) (by decide) rfl ⟨by omega, by omega⟩ (fun c4458 => ?_) (fun c4458 => ?_))
                        · refine wp_of e16 c16_174 (rw_iload_n (pc' := 175) (z := v4349) rfl rfl ?_)
                          refine wp_of e16 c16_175 (rw_aload_n (pc' := 176) (v := .ref r0) rfl rfl rfl ?_)
                          have k4459 : H4350 r0 4 = H3427 r0 4 := ((f4352 r0 4 _ g0 rfl).trans (wq_u_j e4293 rfl))
                          refine wp_of e16 c16_176 (xg_I (pc' := 179) lf_2_29 w4351 g0 sh_4 (by decide) (by decide) ty_4_4 rfl rfl (fun b4460 b4461 => ?_))
                          refine wp_of e16 c16_179 (rw_isub (pc' := 180) rfl ?_)
                          refine wp_of e16 c16_180 (rw_iload_n (pc' := 181) (z := v3426 - (H3427 r0 4)) rfl rfl ?_)
                          refine wp_of e16 c16_181 (rw_isub (pc' := 182) rfl ?_)
                          refine wp_of e16 c16_182 (rw_istore_n (pc' := 183) (z := (v4349 - (H4350 r0 4)) - (v3426 - (H3427 r0 4))) (L' := [(3, vI ((v4349 - (H4350 r0 4)) - (v3426 - (H3427 r0 4)))), (1, vI v4349), (2, vI (v3426 - (H3427 r0 4))), (0, .ref r0)]) rfl rfl rfl ?_)
                          refine wp_of e16 c16_183 (rw_iload_n (pc' := 184) (z := v3426 - (H3427 r0 4)) rfl rfl ?_)
                          refine wp_of e16 c16_184 (rw_if_le (p1 := 205) (p2 := 187) (by decide) rfl ⟨by omega, by omega⟩ (fun c4462 => ?_) (fun c4462 => ?_))
                          · refine wp_of e16 c16_205 (rw_iload_n (pc' := 206) (z := (v4349 - (H4350 r0 4)) - (v3426 - (H3427 r0 4))) rfl rfl ?_)
                            refine wp_of e16 c16_206 (rw_if_le (p1 := 226) (p2 := 209) (by decide) rfl ⟨by omega, by omega⟩ (fun c4463 => ?_) (fun c4463 => ?_))
                            · refine wp_of e16 c16_226 (rw_iload_n (pc' := 227) (z := v4349) rfl rfl ?_)
                              refine wp_of e16 c16_227 (rw_aload_n (pc' := 228) (v := .ref r0) rfl rfl rfl ?_)
                              refine wp_of e16 c16_228 (xg_I (pc' := 231) lf_2_19 w4351 g0 sh_4 (by decide) (by decide) ty_4_1 rfl rfl (fun b4464 b4465 => ?_))
                              refine wp_of e16 c16_231 (rw_icmp_ge (p1 := 275) (p2 := 234) (by decide) rfl ⟨by omega, by omega⟩ ⟨by omega, by omega⟩ (fun c4466 => ?_) (fun c4466 => ?_))
                              · refine wp_of e16 c16_275 (rw_aload_n (pc' := 276) (v := .ref r0) rfl rfl rfl ?_)
                                refine wp_of e16 c16_276 (rw_iconst (pc' := 277) rfl ?_)
                                refine wp_of e16 c16_277 (xp_I (pc' := 280) lf_2_41 w4351 g0 sh_4 (by decide) (by decide) ty_4_3 rfl rfl (by omega) (by omega) ⟨by omega, by omega⟩ rfl (fun H4467 e4468 w4469 => ?_))
                                have f4470 := f4355.put' e4468 g0 rfl
                                have k4471 : H4467 r0 3 = 0 := wq_u_s e4468
                                refine wp_of e16 c16_280 (rw_aload_n (pc' := 281) (v := .ref r0) rfl rfl rfl ?_)
                                refine wp_of e16 c16_281 (rw_iload_n (pc' := 282) (z := v4349) rfl rfl ?_)
                                refine wp_of e16 c16_282 (xp_I (pc' := 285) lf_2_23 w4469 g0 sh_4 (by decide) (by decide) ty_4_2 rfl rfl (by omega) (by omega) ⟨by omega, by omega⟩ rfl (fun H4472 e4473 w4474 => ?_))
                                have f4475 := f4470.put' e4473 g0 rfl
                                have k4476 : H4472 r0 2 = v4349 := wq_u_s e4473
                                exact wp_return e16 c16_285 rfl ⟨rfl, w4474, f4475, rfl⟩
                              · refine wp_of e16 c16_234 (rw_aload_n (pc' := 235) (v := .ref r0) rfl rfl rfl ?_)
                                refine wp_of e16 c16_235 (rw_aload_n (pc' := 236) (v := .ref r0) rfl rfl rfl ?_)
                                have k4477 : H4350 r0 0 = H3427 r0 0 := ((f4352 r0 0 _ g0 rfl).trans (wq_u_j e4293 rfl))
                                have q4478 : H4350 r0 0 = (rb : Int) := k4477.trans q3860
                                refine wp_of e16 c16_236 (xg_K (pc' := 239) lf_2_7 w4351 g0 sh_4 (by decide) (by decide) rfl q4478 rfl ?_)
                                refine wp_of e16 c16_239 (rw_iload_n (pc' := 240) (z := v4349) rfl rfl ?_)
                                refine wp_of e16 c16_240 (xa_B (by decide) (pc' := 241) w4351 grb sh_2 (by decide) (ty_2 _) (by omega) (by omega) rfl (fun b4479 b4480 => ?_))
                                refine wp_of e16 c16_241 (rw_bipush (pc' := 243) (z := 59) rfl (by decide) ?_)
                                refine wp_of e16 c16_243 (rw_icmp_ne (p1 := 250) (p2 := 246) (by decide) rfl ⟨by omega, by omega⟩ ⟨by omega, by omega⟩ (fun c4481 => ?_) (fun c4481 => ?_))
                                · refine wp_of e16 c16_250 (rw_aload_n (pc' := 251) (v := .ref r0) rfl rfl rfl ?_)
                                  refine wp_of e16 c16_251 (xg_K (pc' := 254) lf_2_7 w4351 g0 sh_4 (by decide) (by decide) rfl q4478 rfl ?_)
                                  refine wp_of e16 c16_254 (rw_iload_n (pc' := 255) (z := v4349) rfl rfl ?_)
                                  refine wp_of e16 c16_255 (xa_B (by decide) (pc' := 256) w4351 grb sh_2 (by decide) (ty_2 _) (by omega) (by omega) rfl (fun b4482 b4483 => ?_))
                                  refine wp_of e16 c16_256 (rw_bipush (pc' := 258) (z := 44) rfl (by decide) ?_)
                                  refine wp_of e16 c16_258 (rw_icmp_ne (p1 := 265) (p2 := 261) (by decide) rfl ⟨by omega, by omega⟩ ⟨by omega, by omega⟩ (fun c4484 => ?_) (fun c4484 => ?_))
                                  · refine wp_of e16 c16_265 (rw_iconst (pc' := 266) rfl ?_)
                                    refine wp_of e16 c16_266 (xp_I (pc' := 269) lf_2_41 w4351 g0 sh_4 (by decide) (by decide) ty_4_3 rfl rfl (by omega) (by omega) ⟨by omega, by omega⟩ rfl (fun H4485 e4486 w4487 => ?_))
                                    have f4488 := f4355.put' e4486 g0 rfl
                                    have k4489 : H4485 r0 3 = 5 := wq_u_s e4486
                                    refine wp_of e16 c16_269 (rw_iinc (pc' := 272) (z := v4349) (L' := [(1, vI (v4349 + 1)), (3, vI ((v4349 - (H4350 r0 4)) - (v3426 - (H3427 r0 4)))), (2, vI (v3426 - (H3427 r0 4))), (0, .ref r0)]) rfl rfl rfl rfl ?_)
                                    refine wp_of e16 c16_272 (rw_goto (p1 := 280) (by decide) ?_)
                                    refine wp_of e16 c16_280 (rw_aload_n (pc' := 281) (v := .ref r0) rfl rfl rfl ?_)
                                    refine wp_of e16 c16_281 (rw_iload_n (pc' := 282) (z := v4349 + 1) rfl rfl ?_)
                                    refine wp_of e16 c16_282 (xp_I (pc' := 285) lf_2_23 w4487 g0 sh_4 (by decide) (by decide) ty_4_2 rfl rfl (by omega) (by omega) ⟨by omega, by omega⟩ rfl (fun H4490 e4491 w4492 => ?_))
                                    have f4493 := f4488.put' e4491 g0 rfl
                                    have k4494 : H4490 r0 2 = v4349 + 1 := wq_u_s e4491
                                    exact wp_return e16 c16_285 rfl ⟨rfl, w4492, f4493, rfl⟩
                                  · refine wp_of e16 c16_261 (rw_iconst (pc' := 262) rfl ?_)
                                    refine wp_of e16 c16_262 (rw_goto (p1 := 266) (by decide) ?_)
                                    refine wp_of e16 c16_266 (xp_I (pc' := 269) lf_2_41 w4351 g0 sh_4 (by decide) (by decide) ty_4_3 rfl rfl (by omega) (by omega) ⟨by omega, by omega⟩ rfl (fun H4495 e4496 w4497 => ?_))
                                    have f4498 := f4355.put' e4496 g0 rfl
                                    have k4499 : H4495 r0 3 = 4 := wq_u_s e4496
                                    refine wp_of e16 c16_269 (rw_iinc (pc' := 272) (z := v4349) (L' := [(1, vI (v4349 + 1)), (3, vI ((v4349 - (H4350 r0 4)) - (v3426 - (H3427 r0 4)))), (2, vI (v3426 - (H3427 r0 4))), (0, .ref r0)]) rfl rfl rfl rfl ?_)
                                    refine wp_of e16 c16_272 (rw_goto (p1 := 280) (by decide) ?_)
                                    refine wp_of e16 c16_280 (rw_aload_n (pc' := 281) (v := .ref r0) rfl rfl rfl ?_)
                                    refine wp_of e16 c16_281 (rw_iload_n (pc' := 282) (z := v4349 + 1) rfl rfl ?_)
                                    refine wp_of e16 c16_282 (xp_I (pc' := 285) lf_2_23 w4497 g0 sh_4 (by decide) (by decide) ty_4_2 rfl rfl (by omega) (by omega) ⟨by omega, by omega⟩ rfl (fun H4500 e4501 w4502 => ?_))
                                    have f4503 := f4498.put' e4501 g0 rfl
                                    have k4504 : H4500 r0 2 = v4349 + 1 := wq_u_s e4501
                                    exact wp_return e16 c16_285 rfl ⟨rfl, w4502, f4503, rfl⟩
                                · refine wp_of e16 c16_246 (rw_iconst (pc' := 247) rfl ?_)
                                  refine wp_of e16 c16_247 (rw_goto (p1 := 266) (by decide) ?_)
                                  refine wp_of e16 c16_266 (xp_I (pc' := 269) lf_2_41 w4351 g0 sh_4 (by decide) (by decide) ty_4_3 rfl rfl (by omega) (by omega) ⟨by omega, by omega⟩ rfl (fun H4505 e4506 w4507 => ?_))
                                  have f4508 := f4355.put' e4506 g0 rfl
                                  have k4509 : H4505 r0 3 = 3 := wq_u_s e4506
                                  refine wp_of e16 c16_269 (rw_iinc (pc' := 272) (z := v4349) (L' := [(1, vI (v4349 + 1)), (3, vI ((v4349 - (H4350 r0 4)) - (v3426 - (H3427 r0 4)))), (2, vI (v3426 - (H3427 r0 4))), (0, .ref r0)]) rfl rfl rfl rfl ?_)
                                  refine wp_of e16 c16_272 (rw_goto (p1 := 280) (by decide) ?_)
                                  refine wp_of e16 c16_280 (rw_aload_n (pc' := 281) (v := .ref r0) rfl rfl rfl ?_)
                                  refine wp_of e16 c16_281 (rw_iload_n (pc' := 282) (z := v4349 + 1) rfl rfl ?_)
                                  refine wp_of e16 c16_282 (xp_I (pc' := 285) lf_2_23 w4507 g0 sh_4 (by decide) (by decide) ty_4_2 rfl rfl (by omega) (by omega) ⟨by omega, by omega⟩ rfl (fun H4510 e4511 w4512 => ?_))
                                  have f4513 := f4508.put' e4511 g0 rfl
                                  have k4514 : H4510 r0 2 = v4349 + 1 := wq_u_s e4511
                                  exact wp_return e16 c16_285 rfl ⟨rfl, w4512, f4513, rfl⟩
                            · refine wp_of e16 c16_209 (rw_aload_n (pc' := 210) (v := .ref r0) rfl rfl rfl ?_)
                              refine wp_of e16 c16_210 (rw_iload_n (pc' := 211) (z := (v4349 - (H4350 r0 4)) - (v3426 - (H3427 r0 4))) rfl rfl ?_)
                              refine wp_of e16 c16_211 (rw_iconst (pc' := 212) rfl ?_)
                              refine wp_of e16 c16_212 (rw_icmp_gt (p1 := 219) (p2 := 215) (by decide) rfl ⟨by omega, by omega⟩ ⟨by omega, by omega⟩ (fun c4515 => ?_) (fun c4515 => ?_))
                              · refine wp_of e16 c16_219 (rw_iconst (pc' := 220) rfl ?_)
                                refine wp_of e16 c16_220 (xp_I (pc' := 223) lf_2_41 w4351 g0 sh_4 (by decide) (by decide) ty_4_3 rfl rfl (by omega) (by omega) ⟨by omega, by omega⟩ rfl (fun H4516 e4517 w4518 => ?_))
                                have f4519 := f4355.put' e4517 g0 rfl
                                have k4520 : H4516 r0 3 = 5 := wq_u_s e4517
                                refine wp_of e16 c16_223 (rw_goto (p1 := 280) (by decide) ?_)
                                refine wp_of e16 c16_280 (rw_aload_n (pc' := 281) (v := .ref r0) rfl rfl rfl ?_)
                                refine wp_of e16 c16_281 (rw_iload_n (pc' := 282) (z := v4349) rfl rfl ?_)
                                refine wp_of e16 c16_282 (xp_I (pc' := 285) lf_2_23 w4518 g0 sh_4 (by decide) (by decide) ty_4_2 rfl rfl (by omega) (by omega) ⟨by omega, by omega⟩ rfl (fun H4521 e4522 w4523 => ?_))
                                have f4524 := f4519.put' e4522 g0 rfl
                                have k4525 : H4521 r0 2 = v4349 := wq_u_s e4522
                                exact wp_return e16 c16_285 rfl ⟨rfl, w4523, f4524, rfl⟩
                              · refine wp_of e16 c16_215 (rw_iconst (pc' := 216) rfl ?_)
                                refine wp_of e16 c16_216 (rw_goto (p1 := 220) (by decide) ?_)
                                refine wp_of e16 c16_220 (xp_I (pc' := 223) lf_2_41 w4351 g0 sh_4 (by decide) (by decide) ty_4_3 rfl rfl (by omega) (by omega) ⟨by omega, by omega⟩ rfl (fun H4526 e4527 w4528 => ?_))
                                have f4529 := f4355.put' e4527 g0 rfl
                                have k4530 : H4526 r0 3 = 2 := wq_u_s e4527
                                refine wp_of e16 c16_223 (rw_goto (p1 := 280) (by decide) ?_)
                                refine wp_of e16 c16_280 (rw_aload_n (pc' := 281) (v := .ref r0) rfl rfl rfl ?_)
                                refine wp_of e16 c16_281 (rw_iload_n (pc' := 282) (z := v4349) rfl rfl ?_)
                                refine wp_of e16 c16_282 (xp_I (pc' := 285) lf_2_23 w4528 g0 sh_4 (by decide) (by decide) ty_4_2 rfl rfl (by omega) (by omega) ⟨by omega, by omega⟩ rfl (fun H4531 e4532 w4533 => ?_))
                                have f4534 := f4529.put' e4532 g0 rfl
                                have k4535 : H4531 r0 2 = v4349 := wq_u_s e4532
                                exact wp_return e16 c16_285 rfl ⟨rfl, w4533, f4534, rfl⟩
                          · refine wp_of e16 c16_187 (rw_aload_n (pc' := 188) (v := .ref r0) rfl rfl rfl ?_)
                            refine wp_of e16 c16_188 (rw_iload_n (pc' := 189) (z := v3426 - (H3427 r0 4)) rfl rfl ?_)
                            refine wp_of e16 c16_189 (rw_bipush (pc' := 191) (z := 8) rfl (by decide) ?_)
                            refine wp_of e16 c16_191 (rw_icmp_gt (p1 := 198) (p2 := 194) (by decide) rfl ⟨by omega, by omega⟩ ⟨by omega, by omega⟩ (fun c4536 => ?_) (fun c4536 => ?_))
                            · refine wp_of e16 c16_198 (rw_iconst (pc' := 199) rfl ?_)
                              refine wp_of e16 c16_199 (xp_I (pc' := 202) lf_2_41 w4351 g0 sh_4 (by decide) (by decide) ty_4_3 rfl rfl (by omega) (by omega) ⟨by omega, by omega⟩ rfl (fun H4537 e4538 w4539 => ?_))
                              have f4540 := f4355.put' e4538 g0 rfl
                              have k4541 : H4537 r0 3 = 5 := wq_u_s e4538
                              refine wp_of e16 c16_202 (rw_goto (p1 := 280) (by decide) ?_)
                              refine wp_of e16 c16_280 (rw_aload_n (pc' := 281) (v := .ref r0) rfl rfl rfl ?_)
                              refine wp_of e16 c16_281 (rw_iload_n (pc' := 282) (z := v4349) rfl rfl ?_)
                              refine wp_of e16 c16_282 (xp_I (pc' := 285) lf_2_23 w4539 g0 sh_4 (by decide) (by decide) ty_4_2 rfl rfl (by omega) (by omega) ⟨by omega, by omega⟩ rfl (fun H4542 e4543 w4544 => ?_))
                              have f4545 := f4540.put' e4543 g0 rfl
                              have k4546 : H4542 r0 2 = v4349 := wq_u_s e4543
                              exact wp_return e16 c16_285 rfl ⟨rfl, w4544, f4545, rfl⟩
                            · refine wp_of e16 c16_194 (rw_iconst (pc' := 195) rfl ?_)
                              refine wp_of e16 c16_195 (rw_goto (p1 := 199) (by decide) ?_)
                              refine wp_of e16 c16_199 (xp_I (pc' := 202) lf_2_41 w4351 g0 sh_4 (by decide) (by decide) ty_4_3 rfl rfl (by omega) (by omega) ⟨by omega, by omega⟩ rfl (fun H4547 e4548 w4549 => ?_))
                              have f4550 := f4355.put' e4548 g0 rfl
                              have k4551 : H4547 r0 3 = 1 := wq_u_s e4548
                              refine wp_of e16 c16_202 (rw_goto (p1 := 280) (by decide) ?_)
                              refine wp_of e16 c16_280 (rw_aload_n (pc' := 281) (v := .ref r0) rfl rfl rfl ?_)
                              refine wp_of e16 c16_281 (rw_iload_n (pc' := 282) (z := v4349) rfl rfl ?_)
                              refine wp_of e16 c16_282 (xp_I (pc' := 285) lf_2_23 w4549 g0 sh_4 (by decide) (by decide) ty_4_2 rfl rfl (by omega) (by omega) ⟨by omega, by omega⟩ rfl (fun H4552 e4553 w4554 => ?_))
                              have f4555 := f4550.put' e4553 g0 rfl
                              have k4556 : H4552 r0 2 = v4349 := wq_u_s e4553
                              exact wp_return e16 c16_285 rfl ⟨rfl, w4554, f4555, rfl⟩
                        · refine wp_of e16 c16_125 (rw_aload_n (pc' := 126) (v := .ref r0) rfl rfl rfl ?_)
                          have k4557 : H4350 r0 0 = H3427 r0 0 := ((f4352 r0 0 _ g0 rfl).trans (wq_u_j e4293 rfl))
                          have q4558 : H4350 r0 0 = (rb : Int) := k4557.trans q3860
                          refine wp_of e16 c16_126 (xg_K (pc' := 129) lf_2_7 w4351 g0 sh_4 (by decide) (by decide) rfl q4558 rfl ?_)
                          refine wp_of e16 c16_129 (rw_iload_n (pc' := 130) (z := v4349) rfl rfl ?_)
                          refine wp_of e16 c16_130 (xa_B (by decide) (pc' := 131) w4351 grb sh_2 (by decide) (ty_2 _) (by omega) (by omega) rfl (fun b4559 b4560 => ?_))
                          refine wp_of e16 c16_131 (rw_bipush (pc' := 133) (z := 48) rfl (by decide) ?_)
                          refine wp_of e16 c16_133 (rw_icmp_lt (p1 := 174) (p2 := 136) (by decide) rfl ⟨by omega, by omega⟩ ⟨by omega, by omega⟩ (fun c4561 => ?_) (fun c4561 => ?_))
                          · refine wp_of e16 c16_174 (rw_iload_n (pc' := 175) (z := v4349) rfl rfl ?_)
                            refine wp_of e16 c16_175 (rw_aload_n (pc' := 176) (v := .ref r0) rfl rfl rfl ?_)
                            have k4562 : H4350 r0 4 = H3427 r0 4 := ((f4352 r0 4 _ g0 rfl).trans (wq_u_j e4293 rfl))
                            refine wp_of e16 c16_176 (xg_I (pc' := 179) lf_2_29 w4351 g0 sh_4 (by decide) (by decide) ty_4_4 rfl rfl (fun b4563 b4564 => ?_))
                            refine wp_of e16 c16_179 (rw_isub (pc' := 180) rfl ?_)
                            refine wp_of e16 c16_180 (rw_iload_n (pc' := 181) (z := v3426 - (H3427 r0 4)) rfl rfl ?_)
                            refine wp_of e16 c16_181 (rw_isub (pc' := 182) rfl ?_)
                            refine wp_of e16 c16_182 (rw_istore_n (pc' := 183) (z := (v4349 - (H4350 r0 4)) - (v3426 - (H3427 r0 4))) (L' := [(3, vI ((v4349 - (H4350 r0 4)) - (v3426 - (H3427 r0 4)))), (1, vI v4349), (2, vI (v3426 - (H3427 r0 4))), (0, .ref r0)]) rfl rfl rfl ?_)
                            refine wp_of e16 c16_183 (rw_iload_n (pc' := 184) (z := v3426 - (H3427 r0 4)) rfl rfl ?_)
                            refine wp_of e16 c16_184 (rw_if_le (p1 := 205) (p2 := 187) (by decide) rfl ⟨by omega, by omega⟩ (fun c4565 => ?_) (fun c4565 => ?_))
                            · refine wp_of e16 c16_205 (rw_iload_n (pc' := 206) (z := (v4349 - (H4350 r0 4)) - (v3426 - (H3427 r0 4))) rfl rfl ?_)
                              refine wp_of e16 c16_206 (rw_if_le (p1 := 226) (p2 := 209) (by decide) rfl ⟨by omega, by omega⟩ (fun c4566 => ?_) (fun c4566 => ?_))
                              · refine wp_of e16 c16_226 (rw_iload_n (pc' := 227) (z := v4349) rfl rfl ?_)
                                refine wp_of e16 c16_227 (rw_aload_n (pc' := 228) (v := .ref r0) rfl rfl rfl ?_)
                                refine wp_of e16 c16_228 (xg_I (pc' := 231) lf_2_19 w4351 g0 sh_4 (by decide) (by decide) ty_4_1 rfl rfl (fun b4567 b4568 => ?_))
                                refine wp_of e16 c16_231 (rw_icmp_ge (p1 := 275) (p2 := 234) (by decide) rfl ⟨by omega, by omega⟩ ⟨by omega, by omega⟩ (fun c4569 => ?_) (fun c4569 => ?_))
                                · refine wp_of e16 c16_275 (rw_aload_n (pc' := 276) (v := .ref r0) rfl rfl rfl ?_)
                                  refine wp_of e16 c16_276 (rw_iconst (pc' := 277) rfl ?_)
                                  refine wp_of e16 c16_277 (xp_I (pc' := 280) lf_2_41 w4351 g0 sh_4 (by decide) (by decide) ty_4_3 rfl rfl (by omega) (by omega) ⟨by omega, by omega⟩ rfl (fun H4570 e4571 w4572 => ?_))
                                  have f4573 := f4355.put' e4571 g0 rfl
                                  have k4574 : H4570 r0 3 = 0 := wq_u_s e4571
                                  refine wp_of e16 c16_280 (rw_aload_n (pc' := 281) (v := .ref r0) rfl rfl rfl ?_)
                                  refine wp_of e16 c16_281 (rw_iload_n (pc' := 282) (z := v4349) rfl rfl ?_)
                                  refine wp_of e16 c16_282 (xp_I (pc' := 285) lf_2_23 w4572 g0 sh_4 (by decide) (by decide) ty_4_2 rfl rfl (by omega) (by omega) ⟨by omega, by omega⟩ rfl (fun H4575 e4576 w4577 => ?_))
                                  have f4578 := f4573.put' e4576 g0 rfl
                                  have k4579 : H4575 r0 2 = v4349 := wq_u_s e4576
                                  exact wp_return e16 c16_285 rfl ⟨rfl, w4577, f4578, rfl⟩
                                · refine wp_of e16 c16_234 (rw_aload_n (pc' := 235) (v := .ref r0) rfl rfl rfl ?_)
                                  refine wp_of e16 c16_235 (rw_aload_n (pc' := 236) (v := .ref r0) rfl rfl rfl ?_)
                                  refine wp_of e16 c16_236 (xg_K (pc' := 239) lf_2_7 w4351 g0 sh_4 (by decide) (by decide) rfl q4558 rfl ?_)
                                  refine wp_of e16 c16_239 (rw_iload_n (pc' := 240) (z := v4349) rfl rfl ?_)
                                  refine wp_of e16 c16_240 (xa_B (by decide) (pc' := 241) w4351 grb sh_2 (by decide) (ty_2 _) (by omega) (by omega) rfl (fun b4580 b4581 => ?_))
                                  refine wp_of e16 c16_241 (rw_bipush (pc' := 243) (z := 59) rfl (by decide) ?_)
                                  refine wp_of e16 c16_243 (rw_icmp_ne (p1 := 250) (p2 := 246) (by decide) rfl ⟨by omega, by omega⟩ ⟨by omega, by omega⟩ (fun c4582 => ?_) (fun c4582 => ?_))
                                  · refine wp_of e16 c16_250 (rw_aload_n (pc' := 251) (v := .ref r0) rfl rfl rfl ?_)
                                    refine wp_of e16 c16_251 (xg_K (pc' := 254) lf_2_7 w4351 g0 sh_4 (by decide) (by decide) rfl q4558 rfl ?_)
                                    refine wp_of e16 c16_254 (rw_iload_n (pc' := 255) (z := v4349) rfl rfl ?_)
                                    refine wp_of e16 c16_255 (xa_B (by decide) (pc' := 256) w4351 grb sh_2 (by decide) (ty_2 _) (by omega) (by omega) rfl (fun b4583 b4584 => ?_))
                                    refine wp_of e16 c16_256 (rw_bipush (pc' := 258) (z := 44) rfl (by decide) ?_)
                                    refine wp_of e16 c16_258 (rw_icmp_ne (p1 := 265) (p2 := 261) (by decide) rfl ⟨by omega, by omega⟩ ⟨by omega, by omega⟩ (fun c4585 => ?_) (fun c4585 => ?_))
                                    · refine wp_of e16 c16_265 (rw_iconst (pc' := 266) rfl ?_)
                                      refine wp_of e16 c16_266 (xp_I (pc' := 269) lf_2_41 w4351 g0 sh_4 (by decide) (by decide) ty_4_3 rfl rfl (by omega) (by omega) ⟨by omega, by omega⟩ rfl (fun H4586 e4587 w4588 => ?_))
                                      have f4589 := f4355.put' e4587 g0 rfl
                                      have k4590 : H4586 r0 3 = 5 := wq_u_s e4587
                                      refine wp_of e16 c16_269 (rw_iinc (pc' := 272) (z := v4349) (L' := [(1, vI (v4349 + 1)), (3, vI ((v4349 - (H4350 r0 4)) - (v3426 - (H3427 r0 4)))), (2, vI (v3426 - (H3427 r0 4))), (0, .ref r0)]) rfl rfl rfl rfl ?_)
                                      refine wp_of e16 c16_272 (rw_goto (p1 := 280) (by decide) ?_)
                                      refine wp_of e16 c16_280 (rw_aload_n (pc' := 281) (v := .ref r0) rfl rfl rfl ?_)
                                      refine wp_of e16 c16_281 (rw_iload_n (pc' := 282) (z := v4349 + 1) rfl rfl ?_)
                                      refine wp_of e16 c16_282 (xp_I (pc' := 285) lf_2_23 w4588 g0 sh_4 (by decide) (by decide) ty_4_2 rfl rfl (by omega) (by omega) ⟨by omega, by omega⟩ rfl (fun H4591 e4592 w4593 => ?_))
                                      have f4594 := f4589.put' e4592 g0 rfl
                                      have k4595 : H4591 r0 2 = v4349 + 1 := wq_u_s e4592
                                      exact wp_return e16 c16_285 rfl ⟨rfl, w4593, f4594, rfl⟩
                                    · refine wp_of e16 c16_261 (rw_iconst (pc' := 262) rfl ?_)
                                      refine wp_of e16 c16_262 (rw_goto (p1 := 266) (by decide) ?_)
                                      refine wp_of e16 c16_266 (xp_I (pc' := 269) lf_2_41 w4351 g0 sh_4 (by decide) (by decide) ty_4_3 rfl rfl (by omega) (by omega) ⟨by omega, by omega⟩ rfl (fun H4596 e4597 w4598 => ?_))
                                      have f4599 := f4355.put' e4597 g0 rfl
                                      have k4600 : H4596 r0 3 = 4 := wq_u_s e4597
                                      refine wp_of e16 c16_269 (rw_iinc (pc' := 272) (z := v4349) (L' := [(1, vI (v4349 + 1)), (3, vI ((v4349 - (H4350 r0 4)) - (v3426 - (H3427 r0 4)))), (2, vI (v3426 - (H3427 r0 4))), (0, .ref r0)]) rfl rfl rfl rfl ?_)
                                      refine wp_of e16 c16_272 (rw_goto (p1 := 280) (by decide) ?_)
                                      refine wp_of e16 c16_280 (rw_aload_n (pc' := 281) (v := .ref r0) rfl rfl rfl ?_)
                                      refine wp_of e16 c16_281 (rw_iload_n (pc' := 282) (z := v4349 + 1) rfl rfl ?_)
                                      refine wp_of e16 c16_282 (xp_I (pc' := 285) lf_2_23 w4598 g0 sh_4 (by decide) (by decide) ty_4_2 rfl rfl (by omega) (by omega) ⟨by omega, by omega⟩ rfl (fun H4601 e4602 w4603 => ?_))
                                      have f4604 := f4599.put' e4602 g0 rfl
                                      have k4605 : H4601 r0 2 = v4349 + 1 := wq_u_s e4602
                                      exact wp_return e16 c16_285 rfl ⟨rfl, w4603, f4604, rfl⟩
                                  · exfalso
                                    omega
                              · refine wp_of e16 c16_209 (rw_aload_n (pc' := 210) (v := .ref r0) rfl rfl rfl ?_)
                                refine wp_of e16 c16_210 (rw_iload_n (pc' := 211) (z := (v4349 - (H4350 r0 4)) - (v3426 - (H3427 r0 4))) rfl rfl ?_)
                                refine wp_of e16 c16_211 (rw_iconst (pc' := 212) rfl ?_)
                                refine wp_of e16 c16_212 (rw_icmp_gt (p1 := 219) (p2 := 215) (by decide) rfl ⟨by omega, by omega⟩ ⟨by omega, by omega⟩ (fun c4606 => ?_) (fun c4606 => ?_))
                                · refine wp_of e16 c16_219 (rw_iconst (pc' := 220) rfl ?_)
                                  refine wp_of e16 c16_220 (xp_I (pc' := 223) lf_2_41 w4351 g0 sh_4 (by decide) (by decide) ty_4_3 rfl rfl (by omega) (by omega) ⟨by omega, by omega⟩ rfl (fun H4607 e4608 w4609 => ?_))
                                  have f4610 := f4355.put' e4608 g0 rfl
                                  have k4611 : H4607 r0 3 = 5 := wq_u_s e4608
                                  refine wp_of e16 c16_223 (rw_goto (p1 := 280) (by decide) ?_)
                                  refine wp_of e16 c16_280 (rw_aload_n (pc' := 281) (v := .ref r0) rfl rfl rfl ?_)
                                  refine wp_of e16 c16_281 (rw_iload_n (pc' := 282) (z := v4349) rfl rfl ?_)
                                  refine wp_of e16 c16_282 (xp_I (pc' := 285) lf_2_23 w4609 g0 sh_4 (by decide) (by decide) ty_4_2 rfl rfl (by omega) (by omega) ⟨by omega, by omega⟩ rfl (fun H4612 e4613 w4614 => ?_))
                                  have f4615 := f4610.put' e4613 g0 rfl
                                  have k4616 : H4612 r0 2 = v4349 := wq_u_s e4613
                                  exact wp_return e16 c16_285 rfl ⟨rfl, w4614, f4615, rfl⟩
                                · refine wp_of e16 c16_215 (rw_iconst (pc' := 216) rfl ?_)
                                  refine wp_of e16 c16_216 (rw_goto (p1 := 220) (by decide) ?_)
                                  refine wp_of e16 c16_220 (xp_I (pc' := 223) lf_2_41 w4351 g0 sh_4 (by decide) (by decide) ty_4_3 rfl rfl (by omega) (by omega) ⟨by omega, by omega⟩ rfl (fun H4617 e4618 w4619 => ?_))
                                  have f4620 := f4355.put' e4618 g0 rfl
                                  have k4621 : H4617 r0 3 = 2 := wq_u_s e4618
                                  refine wp_of e16 c16_223 (rw_goto (p1 := 280) (by decide) ?_)
                                  refine wp_of e16 c16_280 (rw_aload_n (pc' := 281) (v := .ref r0) rfl rfl rfl ?_)
                                  refine wp_of e16 c16_281 (rw_iload_n (pc' := 282) (z := v4349) rfl rfl ?_)
                                  refine wp_of e16 c16_282 (xp_I (pc' := 285) lf_2_23 w4619 g0 sh_4 (by decide) (by decide) ty_4_2 rfl rfl (by omega) (by omega) ⟨by omega, by omega⟩ rfl (fun H4622 e4623 w4624 => ?_))
                                  have f4625 := f4620.put' e4623 g0 rfl
                                  have k4626 : H4622 r0 2 = v4349 := wq_u_s e4623
                                  exact wp_return e16 c16_285 rfl ⟨rfl, w4624, f4625, rfl⟩
                            · exfalso
                              omega
                          · refine wp_of e16 c16_136 (rw_aload_n (pc' := 137) (v := .ref r0) rfl rfl rfl ?_)
                            refine wp_of e16 c16_137 (xg_K (pc' := 140) lf_2_7 w4351 g0 sh_4 (by decide) (by decide) rfl q4558 rfl ?_)
                            refine wp_of e16 c16_140 (rw_iload_n (pc' := 141) (z := v4349) rfl rfl ?_)
                            refine wp_of e16 c16_141 (xa_B (by decide) (pc' := 142) w4351 grb sh_2 (by decide) (ty_2 _) (by omega) (by omega) rfl (fun b4627 b4628 => ?_))
                            refine wp_of e16 c16_142 (rw_bipush (pc' := 144) (z := 57) rfl (by decide) ?_)
                            refine wp_of e16 c16_144 (rw_icmp_gt (p1 := 174) (p2 := 147) (by decide) rfl ⟨by omega, by omega⟩ ⟨by omega, by omega⟩ (fun c4629 => ?_) (fun c4629 => ?_))
                            · refine wp_of e16 c16_174 (rw_iload_n (pc' := 175) (z := v4349) rfl rfl ?_)
                              refine wp_of e16 c16_175 (rw_aload_n (pc' := 176) (v := .ref r0) rfl rfl rfl ?_)
                              have k4630 : H4350 r0 4 = H3427 r0 4 := ((f4352 r0 4 _ g0 rfl).trans (wq_u_j e4293 rfl))
                              refine wp_of e16 c16_176 (xg_I (pc' := 179) lf_2_29 w4351 g0 sh_4 (by decide) (by decide) ty_4_4 rfl rfl (fun b4631 b4632 => ?_))
                              refine wp_of e16 c16_179 (rw_isub (pc' := 180) rfl ?_)
                              refine wp_of e16 c16_180 (rw_iload_n (pc' := 181) (z := v3426 - (H3427 r0 4)) rfl rfl ?_)
                              refine wp_of e16 c16_181 (rw_isub (pc' := 182) rfl ?_)
                              refine wp_of e16 c16_182 (rw_istore_n (pc' := 183) (z := (v4349 - (H4350 r0 4)) - (v3426 - (H3427 r0 4))) (L' := [(3, vI ((v4349 - (H4350 r0 4)) - (v3426 - (H3427 r0 4)))), (1, vI v4349), (2, vI (v3426 - (H3427 r0 4))), (0, .ref r0)]) rfl rfl rfl ?_)
                              refine wp_of e16 c16_183 (rw_iload_n (pc' := 184) (z := v3426 - (H3427 r0 4)) rfl rfl ?_)
                              refine wp_of e16 c16_184 (rw_if_le (p1 := 205) (p2 := 187) (by decide) rfl ⟨by omega, by omega⟩ (fun c4633 => ?_) (fun c4633 => ?_))
                              · refine wp_of e16 c16_205 (rw_iload_n (pc' := 206) (z := (v4349 - (H4350 r0 4)) - (v3426 - (H3427 r0 4))) rfl rfl ?_)
                                refine wp_of e16 c16_206 (rw_if_le (p1 := 226) (p2 := 209) (by decide) rfl ⟨by omega, by omega⟩ (fun c4634 => ?_) (fun c4634 => ?_))
                                · refine wp_of e16 c16_226 (rw_iload_n (pc' := 227) (z := v4349) rfl rfl ?_)
                                  refine wp_of e16 c16_227 (rw_aload_n (pc' := 228) (v := .ref r0) rfl rfl rfl ?_)
                                  refine wp_of e16 c16_228 (xg_I (pc' := 231) lf_2_19 w4351 g0 sh_4 (by decide) (by decide) ty_4_1 rfl rfl (fun b4635 b4636 => ?_))
                                  refine wp_of e16 c16_231 (rw_icmp_ge (p1 := 275) (p2 := 234) (by decide) rfl ⟨by omega, by omega⟩ ⟨by omega, by omega⟩ (fun c4637 => ?_) (fun c4637 => ?_))
                                  · refine wp_of e16 c16_275 (rw_aload_n (pc' := 276) (v := .ref r0) rfl rfl rfl ?_)
                                    refine wp_of e16 c16_276 (rw_iconst (pc' := 277) rfl ?_)
                                    refine wp_of e16 c16_277 (xp_I (pc' := 280) lf_2_41 w4351 g0 sh_4 (by decide) (by decide) ty_4_3 rfl rfl (by omega) (by omega) ⟨by omega, by omega⟩ rfl (fun H4638 e4639 w4640 => ?_))
                                    have f4641 := f4355.put' e4639 g0 rfl
                                    have k4642 : H4638 r0 3 = 0 := wq_u_s e4639
                                    refine wp_of e16 c16_280 (rw_aload_n (pc' := 281) (v := .ref r0) rfl rfl rfl ?_)
                                    refine wp_of e16 c16_281 (rw_iload_n (pc' := 282) (z := v4349) rfl rfl ?_)
                                    refine wp_of e16 c16_282 (xp_I (pc' := 285) lf_2_23 w4640 g0 sh_4 (by decide) (by decide) ty_4_2 rfl rfl (by omega) (by omega) ⟨by omega, by omega⟩ rfl (fun H4643 e4644 w4645 => ?_))
                                    have f4646 := f4641.put' e4644 g0 rfl
                                    have k4647 : H4643 r0 2 = v4349 := wq_u_s e4644
                                    exact wp_return e16 c16_285 rfl ⟨rfl, w4645, f4646, rfl⟩
                                  · refine wp_of e16 c16_234 (rw_aload_n (pc' := 235) (v := .ref r0) rfl rfl rfl ?_)
                                    refine wp_of e16 c16_235 (rw_aload_n (pc' := 236) (v := .ref r0) rfl rfl rfl ?_)
                                    refine wp_of e16 c16_236 (xg_K (pc' := 239) lf_2_7 w4351 g0 sh_4 (by decide) (by decide) rfl q4558 rfl ?_)
                                    refine wp_of e16 c16_239 (rw_iload_n (pc' := 240) (z := v4349) rfl rfl ?_)
                                    refine wp_of e16 c16_240 (xa_B (by decide) (pc' := 241) w4351 grb sh_2 (by decide) (ty_2 _) (by omega) (by omega) rfl (fun b4648 b4649 => ?_))
                                    refine wp_of e16 c16_241 (rw_bipush (pc' := 243) (z := 59) rfl (by decide) ?_)
                                    refine wp_of e16 c16_243 (rw_icmp_ne (p1 := 250) (p2 := 246) (by decide) rfl ⟨by omega, by omega⟩ ⟨by omega, by omega⟩ (fun c4650 => ?_) (fun c4650 => ?_))
                                    · refine wp_of e16 c16_250 (rw_aload_n (pc' := 251) (v := .ref r0) rfl rfl rfl ?_)
                                      refine wp_of e16 c16_251 (xg_K (pc' := 254) lf_2_7 w4351 g0 sh_4 (by decide) (by decide) rfl q4558 rfl ?_)
                                      refine wp_of e16 c16_254 (rw_iload_n (pc' := 255) (z := v4349) rfl rfl ?_)
                                      refine wp_of e16 c16_255 (xa_B (by decide) (pc' := 256) w4351 grb sh_2 (by decide) (ty_2 _) (by omega) (by omega) rfl (fun b4651 b4652 => ?_))
                                      refine wp_of e16 c16_256 (rw_bipush (pc' := 258) (z := 44) rfl (by decide) ?_)
                                      refine wp_of e16 c16_258 (rw_icmp_ne (p1 := 265) (p2 := 261) (by decide) rfl ⟨by omega, by omega⟩ ⟨by omega, by omega⟩ (fun c4653 => ?_) (fun c4653 => ?_))
                                      · refine wp_of e16 c16_265 (rw_iconst (pc' := 266) rfl ?_)
                                        refine wp_of e16 c16_266 (xp_I (pc' := 269) lf_2_41 w4351 g0 sh_4 (by decide) (by decide) ty_4_3 rfl rfl (by omega) (by omega) ⟨by omega, by omega⟩ rfl (fun H4654 e4655 w4656 => ?_))
                                        have f4657 := f4355.put' e4655 g0 rfl
                                        have k4658 : H4654 r0 3 = 5 := wq_u_s e4655
                                        refine wp_of e16 c16_269 (rw_iinc (pc' := 272) (z := v4349) (L' := [(1, vI (v4349 + 1)), (3, vI ((v4349 - (H4350 r0 4)) - (v3426 - (H3427 r0 4)))), (2, vI (v3426 - (H3427 r0 4))), (0, .ref r0)]) rfl rfl rfl rfl ?_)
                                        refine wp_of e16 c16_272 (rw_goto (p1 := 280) (by decide) ?_)
                                        refine wp_of e16 c16_280 (rw_aload_n (pc' := 281) (v := .ref r0) rfl rfl rfl ?_)
                                        refine wp_of e16 c16_281 (rw_iload_n (pc' := 282) (z := v4349 + 1) rfl rfl ?_)
                                        refine wp_of e16 c16_282 (xp_I (pc' := 285) lf_2_23 w4656 g0 sh_4 (by decide) (by decide) ty_4_2 rfl rfl (by omega) (by omega) ⟨by omega, by omega⟩ rfl (fun H4659 e4660 w4661 => ?_))
                                        have f4662 := f4657.put' e4660 g0 rfl
                                        have k4663 : H4659 r0 2 = v4349 + 1 := wq_u_s e4660
                                        exact wp_return e16 c16_285 rfl ⟨rfl, w4661, f4662, rfl⟩
                                      · exfalso
                                        omega
                                    · refine wp_of e16 c16_246 (rw_iconst (pc' := 247) rfl ?_)
                                      refine wp_of e16 c16_247 (rw_goto (p1 := 266) (by decide) ?_)
                                      refine wp_of e16 c16_266 (xp_I (pc' := 269) lf_2_41 w4351 g0 sh_4 (by decide) (by decide) ty_4_3 rfl rfl (by omega) (by omega) ⟨by omega, by omega⟩ rfl (fun H4664 e4665 w4666 => ?_))
                                      have f4667 := f4355.put' e4665 g0 rfl
                                      have k4668 : H4664 r0 3 = 3 := wq_u_s e4665
                                      refine wp_of e16 c16_269 (rw_iinc (pc' := 272) (z := v4349) (L' := [(1, vI (v4349 + 1)), (3, vI ((v4349 - (H4350 r0 4)) - (v3426 - (H3427 r0 4)))), (2, vI (v3426 - (H3427 r0 4))), (0, .ref r0)]) rfl rfl rfl rfl ?_)
                                      refine wp_of e16 c16_272 (rw_goto (p1 := 280) (by decide) ?_)
                                      refine wp_of e16 c16_280 (rw_aload_n (pc' := 281) (v := .ref r0) rfl rfl rfl ?_)
                                      refine wp_of e16 c16_281 (rw_iload_n (pc' := 282) (z := v4349 + 1) rfl rfl ?_)
                                      refine wp_of e16 c16_282 (xp_I (pc' := 285) lf_2_23 w4666 g0 sh_4 (by decide) (by decide) ty_4_2 rfl rfl (by omega) (by omega) ⟨by omega, by omega⟩ rfl (fun H4669 e4670 w4671 => ?_))
                                      have f4672 := f4667.put' e4670 g0 rfl
                                      have k4673 : H4669 r0 2 = v4349 + 1 := wq_u_s e4670
                                      exact wp_return e16 c16_285 rfl ⟨rfl, w4671, f4672, rfl⟩
                                · refine wp_of e16 c16_209 (rw_aload_n (pc' := 210) (v := .ref r0) rfl rfl rfl ?_)
                                  refine wp_of e16 c16_210 (rw_iload_n (pc' := 211) (z := (v4349 - (H4350 r0 4)) - (v3426 - (H3427 r0 4))) rfl rfl ?_)
                                  refine wp_of e16 c16_211 (rw_iconst (pc' := 212) rfl ?_)
                                  refine wp_of e16 c16_212 (rw_icmp_gt (p1 := 219) (p2 := 215) (by decide) rfl ⟨by omega, by omega⟩ ⟨by omega, by omega⟩ (fun c4674 => ?_) (fun c4674 => ?_))
                                  · refine wp_of e16 c16_219 (rw_iconst (pc' := 220) rfl ?_)
                                    refine wp_of e16 c16_220 (xp_I (pc' := 223) lf_2_41 w4351 g0 sh_4 (by decide) (by decide) ty_4_3 rfl rfl (by omega) (by omega) ⟨by omega, by omega⟩ rfl (fun H4675 e4676 w4677 => ?_))
                                    have f4678 := f4355.put' e4676 g0 rfl
                                    have k4679 : H4675 r0 3 = 5 := wq_u_s e4676
                                    refine wp_of e16 c16_223 (rw_goto (p1 := 280) (by decide) ?_)
                                    refine wp_of e16 c16_280 (rw_aload_n (pc' := 281) (v := .ref r0) rfl rfl rfl ?_)
                                    refine wp_of e16 c16_281 (rw_iload_n (pc' := 282) (z := v4349) rfl rfl ?_)
                                    refine wp_of e16 c16_282 (xp_I (pc' := 285) lf_2_23 w4677 g0 sh_4 (by decide) (by decide) ty_4_2 rfl rfl (by omega) (by omega) ⟨by omega, by omega⟩ rfl (fun H4680 e4681 w4682 => ?_))
                                    have f4683 := f4678.put' e4681 g0 rfl
                                    have k4684 : H4680 r0 2 = v4349 := wq_u_s e4681
                                    exact wp_return e16 c16_285 rfl ⟨rfl, w4682, f4683, rfl⟩
                                  · refine wp_of e16 c16_215 (rw_iconst (pc' := 216) rfl ?_)
                                    refine wp_of e16 c16_216 (rw_goto (p1 := 220) (by decide) ?_)
                                    refine wp_of e16 c16_220 (xp_I (pc' := 223) lf_2_41 w4351 g0 sh_4 (by decide) (by decide) ty_4_3 rfl rfl (by omega) (by omega) ⟨by omega, by omega⟩ rfl (fun H4685 e4686 w4687 => ?_))
                                    have f4688 := f4355.put' e4686 g0 rfl
                                    have k4689 : H4685 r0 3 = 2 := wq_u_s e4686
                                    refine wp_of e16 c16_223 (rw_goto (p1 := 280) (by decide) ?_)
                                    refine wp_of e16 c16_280 (rw_aload_n (pc' := 281) (v := .ref r0) rfl rfl rfl ?_)
                                    refine wp_of e16 c16_281 (rw_iload_n (pc' := 282) (z := v4349) rfl rfl ?_)
                                    refine wp_of e16 c16_282 (xp_I (pc' := 285) lf_2_23 w4687 g0 sh_4 (by decide) (by decide) ty_4_2 rfl rfl (by omega) (by omega) ⟨by omega, by omega⟩ rfl (fun H4690 e4691 w4692 => ?_))
                                    have f4693 := f4688.put' e4691 g0 rfl
                                    have k4694 : H4690 r0 2 = v4349 := wq_u_s e4691
                                    exact wp_return e16 c16_285 rfl ⟨rfl, w4692, f4693, rfl⟩
                              · exfalso
                                omega
                            · refine wp_of e16 c16_147 (rw_aload_n (pc' := 148) (v := .ref r0) rfl rfl rfl ?_)
                              refine wp_of e16 c16_148 (rw_aload_n (pc' := 149) (v := .ref r0) rfl rfl rfl ?_)
                              refine wp_of e16 c16_149 (xg_I (pc' := 152) lf_2_38 w4351 g0 sh_4 (by decide) (by decide) ty_4_5 rfl rfl (fun b4695 b4696 => ?_))
                              refine wp_of e16 c16_152 (rw_bipush (pc' := 154) (z := 10) rfl (by decide) ?_)
                              refine wp_of e16 c16_154 (rw_imulw (pc' := 155) rfl ?_)
                              obtain ⟨v4697, e4698⟩ : ∃ x : Int, x = wq_w ((H4350 r0 5) * 10) := ⟨_, rfl⟩
                              rw [← e4698]
                              have b4699 : -2147483648 ≤ v4697 ∧ v4697 ≤ 2147483647 := by
                                rw [e4698]
                                exact wI_w _
                              refine wp_of e16 c16_155 (rw_aload_n (pc' := 156) (v := .ref r0) rfl rfl rfl ?_)
                              refine wp_of e16 c16_156 (xg_K (pc' := 159) lf_2_7 w4351 g0 sh_4 (by decide) (by decide) rfl q4558 rfl ?_)
                              refine wp_of e16 c16_159 (rw_iload_n (pc' := 160) (z := v4349) rfl rfl ?_)
                              refine wp_of e16 c16_160 (xa_B (by decide) (pc' := 161) w4351 grb sh_2 (by decide) (ty_2 _) (by omega) (by omega) rfl (fun b4700 b4701 => ?_))
                              refine wp_of e16 c16_161 (rw_bipush (pc' := 163) (z := 48) rfl (by decide) ?_)
                              refine wp_of e16 c16_163 (rw_isub (pc' := 164) rfl ?_)
                              refine wp_of e16 c16_164 (rw_iaddw (pc' := 165) rfl ?_)
                              obtain ⟨v4702, e4703⟩ : ∃ x : Int, x = wq_w (v4697 + ((H4350 rb (v4349.toNat)) - 48)) := ⟨_, rfl⟩
                              rw [← e4703]
                              have b4704 : -2147483648 ≤ v4702 ∧ v4702 ≤ 2147483647 := by
                                rw [e4703]
                                exact wI_w _
                              refine wp_of e16 c16_165 (xp_I (pc' := 168) lf_2_38 w4351 g0 sh_4 (by decide) (by decide) ty_4_5 rfl rfl (by omega) (by omega) ⟨by omega, by omega⟩ rfl (fun H4705 e4706 w4707 => ?_))
                              have f4708 := f4355.put' e4706 g0 rfl
                              have f4709 := f4352.put' e4706 g0 rfl
                              have k4710 : H4705 r0 5 = v4702 := wq_u_s e4706
                              refine wp_of e16 c16_168 (rw_iinc (pc' := 171) (z := v4349) (L' := [(1, vI (v4349 + 1)), (2, vI (v3426 - (H3427 r0 4))), (0, .ref r0)]) rfl rfl rfl rfl ?_)
                              refine wp_of e16 c16_171 (rw_goto (p1 := 113) (by decide) ?_)
                              exact wp_lc (ks := [1, 2, 0]) (wl_c rfl (wl_c rfl (wl_c rfl wl_n))) rfl (by decide) (ih4348 _ (by omega) (v4349 + 1) H4705 w4707 f4709 ⟨by omega, by omega⟩ rfl)
                  exact wp_lc (ks := [2, 1, 0]) (wl_c rfl (wl_c rfl (wl_c rfl wl_n))) rfl (by decide) (lp4346 _ v3426 H4292 w4294 wfr.rf ⟨by omega, by omega⟩ rfl)
                · refine wp_of e16 c16_70 (rw_aload_n (pc' := 71) (v := .ref r0) rfl rfl rfl ?_)
                  refine wp_of e16 c16_71 (rw_aload_n (pc' := 72) (v := .ref r0) rfl rfl rfl ?_)
                  refine wp_of e16 c16_72 (xg_L (pc' := 75) lf_2_32 w3428 g0 sh_4 (by decide) (by decide) ty_4_6 rfl rfl (fun b4711 b4712 => ?_))
                  refine wp_of e16 c16_75 (rw_ldc2 (pc' := 78) (z := 32) rfl rfl rfl ?_)
                  refine wp_of e16 c16_78 (rw_lmulw (pc' := 79) rfl ?_)
                  obtain ⟨v4713, e4714⟩ : ∃ x : Int, x = wl_w ((H3427 r0 6) * 32) := ⟨_, rfl⟩
                  rw [← e4714]
                  have b4715 : -9223372036854775808 ≤ v4713 ∧ v4713 ≤ 9223372036854775807 := by
                    rw [e4714]
                    exact wL_w _
                  refine wp_of e16 c16_79 (rw_aload_n (pc' := 80) (v := .ref r0) rfl rfl rfl ?_)
                  refine wp_of e16 c16_80 (xg_K (pc' := 83) lf_2_7 w3428 g0 sh_4 (by decide) (by decide) rfl q3860 rfl ?_)
                  refine wp_of e16 c16_83 (rw_iload_n (pc' := 84) (z := v3426) rfl rfl ?_)
                  refine wp_of e16 c16_84 (xa_B (by decide) (pc' := 85) w3428 grb sh_2 (by decide) (ty_2 _) (by omega) (by omega) rfl (fun b4716 b4717 => ?_))
                  refine wp_of e16 c16_85 (rw_bipush (pc' := 87) (z := 97) rfl (by decide) ?_)
                  refine wp_of e16 c16_87 (rw_isub (pc' := 88) rfl ?_)
                  refine wp_of e16 c16_88 (rw_iconst (pc' := 89) rfl ?_)
                  refine wp_of e16 c16_89 (rw_iadd (pc' := 90) rfl ?_)
                  refine wp_of e16 c16_90 (rw_i2l (pc' := 91) rfl ⟨by omega, by omega⟩ ?_)
                  refine wp_of e16 c16_91 (rw_laddw (pc' := 92) rfl ?_)
                  obtain ⟨v4718, e4719⟩ : ∃ x : Int, x = wl_w (v4713 + (((H3427 rb (v3426.toNat)) - 97) + 1)) := ⟨_, rfl⟩
                  rw [← e4719]
                  have b4720 : -9223372036854775808 ≤ v4718 ∧ v4718 ≤ 9223372036854775807 := by
                    rw [e4719]
                    exact wL_w _
                  refine wp_of e16 c16_92 (xp_L (pc' := 95) lf_2_32 w3428 g0 sh_4 (by decide) (by decide) ty_4_6 rfl rfl (by omega) (by omega) ⟨by omega, by omega⟩ rfl (fun H4721 e4722 w4723 => ?_))
                  have f4724 := f3432.put' e4722 g0 rfl
                  have f4725 := f3429.put' e4722 g0 rfl
                  have k4726 : H4721 r0 6 = v4718 := wq_u_s e4722
                  refine wp_of e16 c16_95 (rw_iinc (pc' := 98) (z := v3426) (L' := [(1, vI (v3426 + 1)), (0, .ref r0)]) rfl rfl rfl rfl ?_)
                  refine wp_of e16 c16_98 (rw_goto (p1 := 40) (by decide) ?_)
                  exact wp_lc (ks := [1, 0]) (wl_c rfl (wl_c rfl wl_n)) rfl (by decide) (ih3425 _ (by omega) (v3426 + 1) H4721 w4723 f4725 ⟨by omega, by omega⟩ rfl)
        exact wp_lc (ks := [1, 0]) (wl_c rfl (wl_c rfl wl_n)) rfl (by decide) (lp3423 _ v3358 H3371 w3373 wfr.rf ⟨by omega, by omega⟩ rfl)
      · refine wp_of e16 c16_13 (rw_aload_n (pc' := 14) (v := .ref r0) rfl rfl rfl ?_)
        refine wp_of e16 c16_14 (xg_K (pc' := 17) lf_2_7 hW g0 sh_4 (by decide) (by decide) rfl qrb rfl ?_)
        refine wp_of e16 c16_17 (rw_iload_n (pc' := 18) (z := v3358) rfl rfl ?_)
        refine wp_of e16 c16_18 (xa_B (by decide) (pc' := 19) hW grb sh_2 (by decide) (ty_2 _) (by omega) (by omega) rfl (fun b4727 b4728 => ?_))
        refine wp_of e16 c16_19 (rw_bipush (pc' := 21) (z := 32) rfl (by decide) ?_)
        refine wp_of e16 c16_21 (rw_icmp_ne (p1 := 30) (p2 := 24) (by decide) rfl ⟨by omega, by omega⟩ ⟨by omega, by omega⟩ (fun c4729 => ?_) (fun c4729 => ?_))
        · refine wp_of e16 c16_30 (rw_aload_n (pc' := 31) (v := .ref r0) rfl rfl rfl ?_)
          refine wp_of e16 c16_31 (rw_iload_n (pc' := 32) (z := v3358) rfl rfl ?_)
          refine wp_of e16 c16_32 (xp_I (pc' := 35) lf_2_29 hW g0 sh_4 (by decide) (by decide) ty_4_4 rfl rfl (by omega) (by omega) ⟨by omega, by omega⟩ rfl (fun H4730 e4731 w4732 => ?_))
          have f4733 := f0.put' e4731 g0 rfl
          have k4734 : H4730 r0 4 = v3358 := wq_u_s e4731
          refine wp_of e16 c16_35 (rw_aload_n (pc' := 36) (v := .ref r0) rfl rfl rfl ?_)
          refine wp_of e16 c16_36 (rw_lconst (pc' := 37) (z := 0) rfl rfl ?_)
          refine wp_of e16 c16_37 (xp_L (pc' := 40) lf_2_32 w4732 g0 sh_4 (by decide) (by decide) ty_4_6 rfl rfl (by omega) (by omega) ⟨by omega, by omega⟩ rfl (fun H4735 e4736 w4737 => ?_))
          have f4738 := f4733.put' e4736 g0 rfl
          have k4739 : H4735 r0 6 = 0 := wq_u_s e4736
          have lp4787 : ∀ (n4788 : Nat) (v4790 : Int) (H4791 : wq_H), WT T H4791 → wfr [(4, 6)] T H4735 H4791 → (0 ≤ v4790 ∧ v4790 ≤ 900) → (900 - v4790).toNat = n4788 → wp kt 0 16 40 [(1, vI v4790), (0, .ref r0)] [] T H4791 (q_16 r0 rb T H) := by
            intro n4788
            induction n4788 using Nat.strongRecOn with
            | _ n4788 ih4789 =>
              intro v4790 H4791 w4792 f4793 b4794 m4795
              have f4796 := f4738.tr f4793 rfl
              refine wp_of e16 c16_40 (rw_iload_n (pc' := 41) (z := v4790) rfl rfl ?_)
              refine wp_of e16 c16_41 (rw_aload_n (pc' := 42) (v := .ref r0) rfl rfl rfl ?_)
              have k4797 : H4791 r0 1 = H r0 1 := ((f4793 r0 1 _ g0 rfl).trans ((wq_u_j e4736 rfl).trans (wq_u_j e4731 rfl)))
              refine wp_of e16 c16_42 (xg_I (pc' := 45) lf_2_19 w4792 g0 sh_4 (by decide) (by decide) ty_4_1 rfl rfl (fun b4798 b4799 => ?_))
              refine wp_of e16 c16_45 (rw_icmp_ge (p1 := 101) (p2 := 48) (by decide) rfl ⟨by omega, by omega⟩ ⟨by omega, by omega⟩ (fun c4800 => ?_) (fun c4800 => ?_))
              · refine wp_of e16 c16_101 (rw_iload_n (pc' := 102) (z := v4790) rfl rfl ?_)
                refine wp_of e16 c16_102 (rw_aload_n (pc' := 103) (v := .ref r0) rfl rfl rfl ?_)
                have k4801 : H4791 r0 4 = H4730 r0 4 := ((f4793 r0 4 _ g0 rfl).trans (wq_u_j e4736 rfl))
                refine wp_of e16 c16_103 (xg_I (pc' := 106) lf_2_29 w4792 g0 sh_4 (by decide) (by decide) ty_4_4 rfl rfl (fun b4802 b4803 => ?_))
                refine wp_of e16 c16_106 (rw_isub (pc' := 107) rfl ?_)
                refine wp_of e16 c16_107 (rw_istore_n (pc' := 108) (z := v4790 - (H4791 r0 4)) (L' := [(2, vI (v4790 - (H4791 r0 4))), (1, vI v4790), (0, .ref r0)]) rfl rfl rfl ?_)
                refine wp_of e16 c16_108 (rw_aload_n (pc' := 109) (v := .ref r0) rfl rfl rfl ?_)
                refine wp_of e16 c16_109 (rw_iconst (pc' := 110) rfl ?_)
                refine wp_of e16 c16_110 (xp_I (pc' := 113) lf_2_38 w4792 g0 sh_4 (by decide) (by decide) ty_4_5 rfl rfl (by omega) (by omega) ⟨by omega, by omega⟩ rfl (fun H4804 e4805 w4806 => ?_))
                have f4807 := f4796.put' e4805 g0 rfl
                have k4808 : H4804 r0 5 = 0 := wq_u_s e4805
                have lp4858 : ∀ (n4859 : Nat) (v4861 : Int) (H4862 : wq_H), WT T H4862 → wfr [(4, 5)] T H4804 H4862 → (1 ≤ v4861 ∧ v4861 ≤ 900) → (900 - v4861).toNat = n4859 → wp kt 0 16 113 [(1, vI v4861), (2, vI (v4790 - (H4791 r0 4))), (0, .ref r0)] [] T H4862 (q_16 r0 rb T H) := by
                  intro n4859
                  induction n4859 using Nat.strongRecOn with
                  | _ n4859 ih4860 =>
                    intro v4861 H4862 w4863 f4864 b4865 m4866
                    have f4867 := f4807.tr f4864 rfl
                    refine wp_of e16 c16_113 (rw_iload_n (pc' := 114) (z := v4861) rfl rfl ?_)
                    refine wp_of e16 c16_114 (rw_aload_n (pc' := 115) (v := .ref r0) rfl rfl rfl ?_)
                    have k4868 : H4862 r0 1 = H4791 r0 1 := ((f4864 r0 1 _ g0 rfl).trans (wq_u_j e4805 rfl))
                    refine wp_of e16 c16_115 (xg_I (pc' := 118) lf_2_19 w4863 g0 sh_4 (by decide) (by decide) ty_4_1 rfl rfl (fun b4869 b4870 => ?_))
                    refine wp_of e16 c16_118 (rw_icmp_ge (p1 := 174) (p2 := 121) (by decide) rfl ⟨by omega, by omega⟩ ⟨by omega, by omega⟩ (fun c4871 => ?_) (fun c4871 => ?_))
                    · refine wp_of e16 c16_174 (rw_iload_n (pc' := 175) (z := v4861) rfl rfl ?_)
                      refine wp_of e16 c16_175 (rw_aload_n (pc' := 176) (v := .ref r0) rfl rfl rfl ?_)
                      have k4872 : H4862 r0 4 = H4791 r0 4 := ((f4864 r0 4 _ g0 rfl).trans (wq_u_j e4805 rfl))
                      refine wp_of e16 c16_176 (xg_I (pc' := 179) lf_2_29 w4863 g0 sh_4 (by decide) (by decide) ty_4_4 rfl rfl (fun b4873 b4874 => ?_))
                      refine wp_of e16 c16_179 (rw_isub (pc' := 180) rfl ?_)
                      refine wp_of e16 c16_180 (rw_iload_n (pc' := 181) (z := v4790 - (H4791 r0 4)) rfl rfl ?_)
                      refine wp_of e16 c16_181 (rw_isub (pc' := 182) rfl ?_)
                      refine wp_of e16 c16_182 (rw_istore_n (pc' := 183) (z := (v4861 - (H4862 r0 4)) - (v4790 - (H4791 r0 4))) (L' := [(3, vI ((v4861 - (H4862 r0 4)) - (v4790 - (H4791 r0 4)))), (1, vI v4861), (2, vI (v4790 - (H4791 r0 4))), (0, .ref r0)]) rfl rfl rfl ?_)
                      refine wp_of e16 c16_183 (rw_iload_n (pc' := 184) (z := v4790 - (H4791 r0 4)) rfl rfl ?_)
                      refine wp_of e16 c16_184 (rw_if_le (p1 := 205) (p2 := 187) (by decide) rfl ⟨by omega, by omega⟩ (fun c4875 => ?_) (fun c4875 => ?_))
                      · refine wp_of e16 c16_205 (rw_iload_n (pc' := 206) (z := (v4861 - (H4862 r0 4)) - (v4790 - (H4791 r0 4))) rfl rfl ?_)
                        refine wp_of e16 c16_206 (rw_if_le (p1 := 226) (p2 := 209) (by decide) rfl ⟨by omega, by omega⟩ (fun c4876 => ?_) (fun c4876 => ?_))
                        · refine wp_of e16 c16_226 (rw_iload_n (pc' := 227) (z := v4861) rfl rfl ?_)
                          refine wp_of e16 c16_227 (rw_aload_n (pc' := 228) (v := .ref r0) rfl rfl rfl ?_)
                          refine wp_of e16 c16_228 (xg_I (pc' := 231) lf_2_19 w4863 g0 sh_4 (by decide) (by decide) ty_4_1 rfl rfl (fun b4877 b4878 => ?_))
                          refine wp_of e16 c16_231 (rw_icmp_ge (p1 := 275) (p2 := 234) (by decide) rfl ⟨by omega, by omega⟩ ⟨by omega, by omega⟩ (fun c4879 => ?_) (fun c4879 => ?_))
                          · refine wp_of e16 c16_275 (rw_aload_n (pc' := 276) (v := .ref r0) rfl rfl rfl ?_)
                            refine wp_of e16 c16_276 (rw_iconst (pc' := 277) rfl ?_)
                            refine wp_of e16 c16_277 (xp_I (pc' := 280) lf_2_41 w4863 g0 sh_4 (by decide) (by decide) ty_4_3 rfl rfl (by omega) (by omega) ⟨by omega, by omega⟩ rfl (fun H4880 e4881 w4882 => ?_))
                            have f4883 := f4867.put' e4881 g0 rfl
                            have k4884 : H4880 r0 3 = 0 := wq_u_s e4881
                            refine wp_of e16 c16_280 (rw_aload_n (pc' := 281) (v := .ref r0) rfl rfl rfl ?_)
                            refine wp_of e16 c16_281 (rw_iload_n (pc' := 282) (z := v4861) rfl rfl ?_)
                            refine wp_of e16 c16_282 (xp_I (pc' := 285) lf_2_23 w4882 g0 sh_4 (by decide) (by decide) ty_4_2 rfl rfl (by omega) (by omega) ⟨by omega, by omega⟩ rfl (fun H4885 e4886 w4887 => ?_))
                            have f4888 := f4883.put' e4886 g0 rfl
                            have k4889 : H4885 r0 2 = v4861 := wq_u_s e4886
                            exact wp_return e16 c16_285 rfl ⟨rfl, w4887, f4888, rfl⟩
                          · refine wp_of e16 c16_234 (rw_aload_n (pc' := 235) (v := .ref r0) rfl rfl rfl ?_)
                            refine wp_of e16 c16_235 (rw_aload_n (pc' := 236) (v := .ref r0) rfl rfl rfl ?_)
                            have k4890 : H4862 r0 0 = H r0 0 := ((f4864 r0 0 _ g0 rfl).trans ((wq_u_j e4805 rfl).trans ((f4793 r0 0 _ g0 rfl).trans ((wq_u_j e4736 rfl).trans (wq_u_j e4731 rfl)))))
                            have q4891 : H4862 r0 0 = (rb : Int) := k4890.trans qrb
                            refine wp_of e16 c16_236 (xg_K (pc' := 239) lf_2_7 w4863 g0 sh_4 (by decide) (by decide) rfl q4891 rfl ?_)
                            refine wp_of e16 c16_239 (rw_iload_n (pc' := 240) (z := v4861) rfl rfl ?_)
                            refine wp_of e16 c16_240 (xa_B (by decide) (pc' := 241) w4863 grb sh_2 (by decide) (ty_2 _) (by omega) (by omega) rfl (fun b4892 b4893 => ?_))
                            refine wp_of e16 c16_241 (rw_bipush (pc' := 243) (z := 59) rfl (by decide) ?_)
                            refine wp_of e16 c16_243 (rw_icmp_ne (p1 := 250) (p2 := 246) (by decide) rfl ⟨by omega, by omega⟩ ⟨by omega, by omega⟩ (fun c4894 => ?_) (fun c4894 => ?_))
                            · refine wp_of e16 c16_250 (rw_aload_n (pc' := 251) (v := .ref r0) rfl rfl rfl ?_)
                              refine wp_of e16 c16_251 (xg_K (pc' := 254) lf_2_7 w4863 g0 sh_4 (by decide) (by decide) rfl q4891 rfl ?_)
                              refine wp_of e16 c16_254 (rw_iload_n (pc' := 255) (z := v4861) rfl rfl ?_)
                              refine wp_of e16 c16_255 (xa_B (by decide) (pc' := 256) w4863 grb sh_2 (by decide) (ty_2 _) (by omega) (by omega) rfl (fun b4895 b4896 => ?_))
                              refine wp_of e16 c16_256 (rw_bipush (pc' := 258) (z := 44) rfl (by decide) ?_)
                              refine wp_of e16 c16_258 (rw_icmp_ne (p1 := 265) (p2 := 261) (by decide) rfl ⟨by omega, by omega⟩ ⟨by omega, by omega⟩ (fun c4897 => ?_) (fun c4897 => ?_))
                              · refine wp_of e16 c16_265 (rw_iconst (pc' := 266) rfl ?_)
                                refine wp_of e16 c16_266 (xp_I (pc' := 269) lf_2_41 w4863 g0 sh_4 (by decide) (by decide) ty_4_3 rfl rfl (by omega) (by omega) ⟨by omega, by omega⟩ rfl (fun H4898 e4899 w4900 => ?_))
                                have f4901 := f4867.put' e4899 g0 rfl
                                have k4902 : H4898 r0 3 = 5 := wq_u_s e4899
                                refine wp_of e16 c16_269 (rw_iinc (pc' := 272) (z := v4861) (L' := [(1, vI (v4861 + 1)), (3, vI ((v4861 - (H4862 r0 4)) - (v4790 - (H4791 r0 4)))), (2, vI (v4790 - (H4791 r0 4))), (0, .ref r0)]) rfl rfl rfl rfl ?_)
                                refine wp_of e16 c16_272 (rw_goto (p1 := 280) (by decide) ?_)
                                refine wp_of e16 c16_280 (rw_aload_n (pc' := 281) (v := .ref r0) rfl rfl rfl ?_)
                                refine wp_of e16 c16_281 (rw_iload_n (pc' := 282) (z := v4861 + 1) rfl rfl ?_)
                                refine wp_of e16 c16_282 (xp_I (pc' := 285) lf_2_23 w4900 g0 sh_4 (by decide) (by decide) ty_4_2 rfl rfl (by omega) (by omega) ⟨by omega, by omega⟩ rfl (fun H4903 e4904 w4905 => ?_))
                                have f4906 := f4901.put' e4904 g0 rfl
                                have k4907 : H4903 r0 2 = v4861 + 1 := wq_u_s e4904
                                exact wp_return e16 c16_285 rfl ⟨rfl, w4905, f4906, rfl⟩
                              · refine wp_of e16 c16_261 (rw_iconst (pc' := 262) rfl ?_)
                                refine wp_of e16 c16_262 (rw_goto (p1 := 266) (by decide) ?_)
                                refine wp_of e16 c16_266 (xp_I (pc' := 269) lf_2_41 w4863 g0 sh_4 (by decide) (by decide) ty_4_3 rfl rfl (by omega) (by omega) ⟨by omega, by omega⟩ rfl (fun H4908 e4909 w4910 => ?_))
                                have f4911 := f4867.put' e4909 g0 rfl
                                have k4912 : H4908 r0 3 = 4 := wq_u_s e4909
                                refine wp_of e16 c16_269 (rw_iinc (pc' := 272) (z := v4861) (L' := [(1, vI (v4861 + 1)), (3, vI ((v4861 - (H4862 r0 4)) - (v4790 - (H4791 r0 4)))), (2, vI (v4790 - (H4791 r0 4))), (0, .ref r0)]) rfl rfl rfl rfl ?_)
                                refine wp_of e16 c16_272 (rw_goto (p1 := 280) (by decide) ?_)
                                refine wp_of e16 c16_280 (rw_aload_n (pc' := 281) (v := .ref r0) rfl rfl rfl ?_)
                                refine wp_of e16 c16_281 (rw_iload_n (pc' := 282) (z := v4861 + 1) rfl rfl ?_)
                                refine wp_of e16 c16_282 (xp_I (pc' := 285) lf_2_23 w4910 g0 sh_4 (by decide) (by decide) ty_4_2 rfl rfl (by omega) (by omega) ⟨by omega, by omega⟩ rfl (fun H4913 e4914 w4915 => ?_))
                                have f4916 := f4911.put' e4914 g0 rfl
                                have k4917 : H4913 r0 2 = v4861 + 1 := wq_u_s e4914
                                exact wp_return e16 c16_285 rfl ⟨rfl, w4915, f4916, rfl⟩
                            · refine wp_of e16 c16_246 (rw_iconst (pc' := 247) rfl ?_)
                              refine wp_of e16 c16_247 (rw_goto (p1 := 266) (by decide) ?_)
                              refine wp_of e16 c16_266 (xp_I (pc' := 269) lf_2_41 w4863 g0 sh_4 (by decide) (by decide) ty_4_3 rfl rfl (by omega) (by omega) ⟨by omega, by omega⟩ rfl (fun H4918 e4919 w4920 => ?_))
                              have f4921 := f4867.put' e4919 g0 rfl
                              have k4922 : H4918 r0 3 = 3 := wq_u_s e4919
                              refine wp_of e16 c16_269 (rw_iinc (pc' := 272) (z := v4861) (L' := [(1, vI (v4861 + 1)), (3, vI ((v4861 - (H4862 r0 4)) - (v4790 - (H4791 r0 4)))), (2, vI (v4790 - (H4791 r0 4))), (0, .ref r0)]) rfl rfl rfl rfl ?_)
                              refine wp_of e16 c16_272 (rw_goto (p1 := 280) (by decide) ?_)
                              refine wp_of e16 c16_280 (rw_aload_n (pc' := 281) (v := .ref r0) rfl rfl rfl ?_)
                              refine wp_of e16 c16_281 (rw_iload_n (pc' := 282) (z := v4861 + 1) rfl rfl ?_)
                              refine wp_of e16 c16_282 (xp_I (pc' := 285) lf_2_23 w4920 g0 sh_4 (by decide) (by decide) ty_4_2 rfl rfl (by omega) (by omega) ⟨by omega, by omega⟩ rfl (fun H4923 e4924 w4925 => ?_))
                              have f4926 := f4921.put' e4924 g0 rfl
                              have k4927 : H4923 r0 2 = v4861 + 1 := wq_u_s e4924
                              exact wp_return e16 c16_285 rfl ⟨rfl, w4925, f4926, rfl⟩
                        · refine wp_of e16 c16_209 (rw_aload_n (pc' := 210) (v := .ref r0) rfl rfl rfl ?_)
                          refine wp_of e16 c16_210 (rw_iload_n (pc' := 211) (z := (v4861 - (H4862 r0 4)) - (v4790 - (H4791 r0 4))) rfl rfl ?_)
                          refine wp_of e16 c16_211 (rw_iconst (pc' := 212) rfl ?_)
                          refine wp_of e16 c16_212 (rw_icmp_gt (p1 := 219) (p2 := 215) (by decide) rfl ⟨by omega, by omega⟩ ⟨by omega, by omega⟩ (fun c4928 => ?_) (fun c4928 => ?_))
                          · refine wp_of e16 c16_219 (rw_iconst (pc' := 220) rfl ?_)
                            refine wp_of e16 c16_220 (xp_I (pc' := 223) lf_2_41 w4863 g0 sh_4 (by decide) (by decide) ty_4_3 rfl rfl (by omega) (by omega) ⟨by omega, by omega⟩ rfl (fun H4929 e4930 w4931 => ?_))
                            have f4932 := f4867.put' e4930 g0 rfl
                            have k4933 : H4929 r0 3 = 5 := wq_u_s e4930
                            refine wp_of e16 c16_223 (rw_goto (p1 := 280) (by decide) ?_)
                            refine wp_of e16 c16_280 (rw_aload_n (pc' := 281) (v := .ref r0) rfl rfl rfl ?_)
                            refine wp_of e16 c16_281 (rw_iload_n (pc' := 282) (z := v4861) rfl rfl ?_)
                            refine wp_of e16 c16_282 (xp_I (pc' := 285) lf_2_23 w4931 g0 sh_4 (by decide) (by decide) ty_4_2 rfl rfl (by omega) (by omega) ⟨by omega, by omega⟩ rfl (fun H4934 e4935 w4936 => ?_))
                            have f4937 := f4932.put' e4935 g0 rfl
                            have k4938 : H4934 r0 2 = v4861 := wq_u_s e4935
                            exact wp_return e16 c16_285 rfl ⟨rfl, w4936, f4937, rfl⟩
                          · refine wp_of e16 c16_215 (rw_iconst (pc' := 216) rfl ?_)
                            refine wp_of e16 c16_216 (rw_goto (p1 := 220) (by decide) ?_)
                            refine wp_of e16 c16_220 (xp_I (pc' := 223) lf_2_41 w4863 g0 sh_4 (by decide) (by decide) ty_4_3 rfl rfl (by omega) (by omega) ⟨by omega, by omega⟩ rfl (fun H4939 e4940 w4941 => ?_))
                            have f4942 := f4867.put' e4940 g0 rfl
                            have k4943 : H4939 r0 3 = 2 := wq_u_s e4940
                            refine wp_of e16 c16_223 (rw_goto (p1 := 280) (by decide) ?_)
                            refine wp_of e16 c16_280 (rw_aload_n (pc' := 281) (v := .ref r0) rfl rfl rfl ?_)
                            refine wp_of e16 c16_281 (rw_iload_n (pc' := 282) (z := v4861) rfl rfl ?_)
                            refine wp_of e16 c16_282 (xp_I (pc' := 285) lf_2_23 w4941 g0 sh_4 (by decide) (by decide) ty_4_2 rfl rfl (by omega) (by omega) ⟨by omega, by omega⟩ rfl (fun H4944 e4945 w4946 => ?_))
                            have f4947 := f4942.put' e4945 g0 rfl
                            have k4948 : H4944 r0 2 = v4861 := wq_u_s e4945
                            exact wp_return e16 c16_285 rfl ⟨rfl, w4946, f4947, rfl⟩
                      · refine wp_of e16 c16_187 (rw_aload_n (pc' := 188) (v := .ref r0) rfl rfl rfl ?_)
                        refine wp_of e16 c16_188 (rw_iload_n (pc' := 189) (z := v4790 - (H4791 r0 4)) rfl rfl ?_)
                        refine wp_of e16 c16_189 (rw_bipush (pc' := 191) (z := 8) rfl (by decide) ?_)
                        refine wp_of e16 c16_191 (rw_icmp_gt (p1 := 198) (p2 := 194) (by decide) rfl ⟨by omega, by omega⟩ ⟨by omega, by omega⟩ (fun c4949 => ?_) (fun c4949 => ?_))
                        · refine wp_of e16 c16_198 (rw_iconst (pc' := 199) rfl ?_)
                          refine wp_of e16 c16_199 (xp_I (pc' := 202) lf_2_41 w4863 g0 sh_4 (by decide) (by decide) ty_4_3 rfl rfl (by omega) (by omega) ⟨by omega, by omega⟩ rfl (fun H4950 e4951 w4952 => ?_))
                          have f4953 := f4867.put' e4951 g0 rfl
                          have k4954 : H4950 r0 3 = 5 := wq_u_s e4951
                          refine wp_of e16 c16_202 (rw_goto (p1 := 280) (by decide) ?_)
                          refine wp_of e16 c16_280 (rw_aload_n (pc' := 281) (v := .ref r0) rfl rfl rfl ?_)
                          refine wp_of e16 c16_281 (rw_iload_n (pc' := 282) (z := v4861) rfl rfl ?_)
                          refine wp_of e16 c16_282 (xp_I (pc' := 285) lf_2_23 w4952 g0 sh_4 (by decide) (by decide) ty_4_2 rfl rfl (by omega) (by omega) ⟨by omega, by omega⟩ rfl (fun H4955 e4956 w4957 => ?_))
                          have f4958 := f4953.put' e4956 g0 rfl
                          have k4959 : H4955 r0 2 = v4861 := wq_u_s e4956
                          exact wp_return e16 c16_285 rfl ⟨rfl, w4957, f4958, rfl⟩
                        · refine wp_of e16 c16_194 (rw_iconst (pc' := 195) rfl ?_)
                          refine wp_of e16 c16_195 (rw_goto (p1 := 199) (by decide) ?_)
                          refine wp_of e16 c16_199 (xp_I (pc' := 202) lf_2_41 w4863 g0 sh_4 (by decide) (by decide) ty_4_3 rfl rfl (by omega) (by omega) ⟨by omega, by omega⟩ rfl (fun H4960 e4961 w4962 => ?_))
                          have f4963 := f4867.put' e4961 g0 rfl
                          have k4964 : H4960 r0 3 = 1 := wq_u_s e4961
                          refine wp_of e16 c16_202 (rw_goto (p1 := 280) (by decide) ?_)
                          refine wp_of e16 c16_280 (rw_aload_n (pc' := 281) (v := .ref r0) rfl rfl rfl ?_)
                          refine wp_of e16 c16_281 (rw_iload_n (pc' := 282) (z := v4861) rfl rfl ?_)
                          refine wp_of e16 c16_282 (xp_I (pc' := 285) lf_2_23 w4962 g0 sh_4 (by decide) (by decide) ty_4_2 rfl rfl (by omega) (by omega) ⟨by omega, by omega⟩ rfl (fun H4965 e4966 w4967 => ?_))
                          have f4968 := f4963.put' e4966 g0 rfl
                          have k4969 : H4965 r0 2 = v4861 := wq_u_s e4966
                          exact wp_return e16 c16_285 rfl ⟨rfl, w4967, f4968, rfl⟩
                    · refine wp_of e16 c16_121 (rw_iload_n (pc' := 122) (z := v4790 - (H4791 r0 4)) rfl rfl ?_)
                      refine wp_of e16 c16_122 (rw_if_ne (p1 := 174) (p2 := 125) (by decide) rfl ⟨by omega, by omega⟩ (fun c4970 => ?_) (fun c4970 => ?_))
                      · refine wp_of e16 c16_174 (rw_iload_n (pc' := 175) (z := v4861) rfl rfl ?_)
                        refine wp_of e16 c16_175 (rw_aload_n (pc' := 176) (v := .ref r0) rfl rfl rfl ?_)
                        have k4971 : H4862 r0 4 = H4791 r0 4 := ((f4864 r0 4 _ g0 rfl).trans (wq_u_j e4805 rfl))
                        refine wp_of e16 c16_176 (xg_I (pc' := 179) lf_2_29 w4863 g0 sh_4 (by decide) (by decide) ty_4_4 rfl rfl (fun b4972 b4973 => ?_))
                        refine wp_of e16 c16_179 (rw_isub (pc' := 180) rfl ?_)
                        refine wp_of e16 c16_180 (rw_iload_n (pc' := 181) (z := v4790 - (H4791 r0 4)) rfl rfl ?_)
                        refine wp_of e16 c16_181 (rw_isub (pc' := 182) rfl ?_)
                        refine wp_of e16 c16_182 (rw_istore_n (pc' := 183) (z := (v4861 - (H4862 r0 4)) - (v4790 - (H4791 r0 4))) (L' := [(3, vI ((v4861 - (H4862 r0 4)) - (v4790 - (H4791 r0 4)))), (1, vI v4861), (2, vI (v4790 - (H4791 r0 4))), (0, .ref r0)]) rfl rfl rfl ?_)
                        refine wp_of e16 c16_183 (rw_iload_n (pc' := 184) (z := v4790 - (H4791 r0 4)) rfl rfl ?_)
                        refine wp_of e16 c16_184 (rw_if_le (p1 := 205) (p2 := 187) (by decide) rfl ⟨by omega, by omega⟩ (fun c4974 => ?_) (fun c4974 => ?_))
                        · refine wp_of e16 c16_205 (rw_iload_n (pc' := 206) (z := (v4861 - (H4862 r0 4)) - (v4790 - (H4791 r0 4))) rfl rfl ?_)
                          refine wp_of e16 c16_206 (rw_if_le (p1 := 226) (p2 := 209) (by decide) rfl ⟨by omega, by omega⟩ (fun c4975 => ?_) (fun c4975 => ?_))
                          · refine wp_of e16 c16_226 (rw_iload_n (pc' := 227) (z := v4861) rfl rfl ?_)
                            refine wp_of e16 c16_227 (rw_aload_n (pc' := 228) (v := .ref r0) rfl rfl rfl ?_)
                            refine wp_of e16 c16_228 (xg_I (pc' := 231) lf_2_19 w4863 g0 sh_4 (by decide) (by decide) ty_4_1 rfl rfl (fun b4976 b4977 => ?_))
                            refine wp_of e16 c16_231 (rw_icmp_ge (p1 := 275) (p2 := 234) (by decide) rfl ⟨by omega, by omega⟩ ⟨by omega, by omega⟩ (fun c4978 => ?_) (fun c4978 => ?_))
                            · refine wp_of e16 c16_275 (rw_aload_n (pc' := 276) (v := .ref r0) rfl rfl rfl ?_)
                              refine wp_of e16 c16_276 (rw_iconst (pc' := 277) rfl ?_)
                              refine wp_of e16 c16_277 (xp_I (pc' := 280) lf_2_41 w4863 g0 sh_4 (by decide) (by decide) ty_4_3 rfl rfl (by omega) (by omega) ⟨by omega, by omega⟩ rfl (fun H4979 e4980 w4981 => ?_))
                              have f4982 := f4867.put' e4980 g0 rfl
                              have k4983 : H4979 r0 3 = 0 := wq_u_s e4980
                              refine wp_of e16 c16_280 (rw_aload_n (pc' := 281) (v := .ref r0) rfl rfl rfl ?_)
                              refine wp_of e16 c16_281 (rw_iload_n (pc' := 282) (z := v4861) rfl rfl ?_)
                              refine wp_of e16 c16_282 (xp_I (pc' := 285) lf_2_23 w4981 g0 sh_4 (by decide) (by decide) ty_4_2 rfl rfl (by omega) (by omega) ⟨by omega, by omega⟩ rfl (fun H4984 e4985 w4986 => ?_))
                              have f4987 := f4982.put' e4985 g0 rfl
                              have k4988 : H4984 r0 2 = v4861 := wq_u_s e4985
                              exact wp_return e16 c16_285 rfl ⟨rfl, w4986, f4987, rfl⟩
                            · refine wp_of e16 c16_234 (rw_aload_n (pc' := 235) (v := .ref r0) rfl rfl rfl ?_)
                              refine wp_of e16 c16_235 (rw_aload_n (pc' := 236) (v := .ref r0) rfl rfl rfl ?_)
                              have k4989 : H4862 r0 0 = H r0 0 := ((f4864 r0 0 _ g0 rfl).trans ((wq_u_j e4805 rfl).trans ((f4793 r0 0 _ g0 rfl).trans ((wq_u_j e4736 rfl).trans (wq_u_j e4731 rfl)))))
                              have q4990 : H4862 r0 0 = (rb : Int) := k4989.trans qrb
                              refine wp_of e16 c16_236 (xg_K (pc' := 239) lf_2_7 w4863 g0 sh_4 (by decide) (by decide) rfl q4990 rfl ?_)
                              refine wp_of e16 c16_239 (rw_iload_n (pc' := 240) (z := v4861) rfl rfl ?_)
                              refine wp_of e16 c16_240 (xa_B (by decide) (pc' := 241) w4863 grb sh_2 (by decide) (ty_2 _) (by omega) (by omega) rfl (fun b4991 b4992 => ?_))
                              refine wp_of e16 c16_241 (rw_bipush (pc' := 243) (z := 59) rfl (by decide) ?_)
                              refine wp_of e16 c16_243 (rw_icmp_ne (p1 := 250) (p2 := 246) (by decide) rfl ⟨by omega, by omega⟩ ⟨by omega, by omega⟩ (fun c4993 => ?_) (fun c4993 => ?_))
                              · refine wp_of e16 c16_250 (rw_aload_n (pc' := 251) (v := .ref r0) rfl rfl rfl ?_)
                                refine wp_of e16 c16_251 (xg_K (pc' := 254) lf_2_7 w4863 g0 sh_4 (by decide) (by decide) rfl q4990 rfl ?_)
                                refine wp_of e16 c16_254 (rw_iload_n (pc' := 255) (z := v4861) rfl rfl ?_)
                                refine wp_of e16 c16_255 (xa_B (by decide) (pc' := 256) w4863 grb sh_2 (by decide) (ty_2 _) (by omega) (by omega) rfl (fun b4994 b4995 => ?_))
                                refine wp_of e16 c16_256 (rw_bipush (pc' := 258) (z := 44) rfl (by decide) ?_)
                                refine wp_of e16 c16_258 (rw_icmp_ne (p1 := 265) (p2 := 261) (by decide) rfl ⟨by omega, by omega⟩ ⟨by omega, by omega⟩ (fun c4996 => ?_) (fun c4996 => ?_))
                                · refine wp_of e16 c16_265 (rw_iconst (pc' := 266) rfl ?_)
                                  refine wp_of e16 c16_266 (xp_I (pc' := 269) lf_2_41 w4863 g0 sh_4 (by decide) (by decide) ty_4_3 rfl rfl (by omega) (by omega) ⟨by omega, by omega⟩ rfl (fun H4997 e4998 w4999 => ?_))
                                  have f5000 := f4867.put' e4998 g0 rfl
                                  have k5001 : H4997 r0 3 = 5 := wq_u_s e4998
                                  refine wp_of e16 c16_269 (rw_iinc (pc' := 272) (z := v4861) (L' := [(1, vI (v4861 + 1)), (3, vI ((v4861 - (H4862 r0 4)) - (v4790 - (H4791 r0 4)))), (2, vI (v4790 - (H4791 r0 4))), (0, .ref r0)]) rfl rfl rfl rfl ?_)
                                  refine wp_of e16 c16_272 (rw_goto (p1 := 280) (by decide) ?_)
                                  refine wp_of e16 c16_280 (rw_aload_n (pc' := 281) (v := .ref r0) rfl rfl rfl ?_)
                                  refine wp_of e16 c16_281 (rw_iload_n (pc' := 282) (z := v4861 + 1) rfl rfl ?_)
                                  refine wp_of e16 c16_282 (xp_I (pc' := 285) lf_2_23 w4999 g0 sh_4 (by decide) (by decide) ty_4_2 rfl rfl (by omega) (by omega) ⟨by omega, by omega⟩ rfl (fun H5002 e5003 w5004 => ?_))
                                  have f5005 := f5000.put' e5003 g0 rfl
                                  have k5006 : H5002 r0 2 = v4861 + 1 := wq_u_s e5003
                                  exact wp_return e16 c16_285 rfl ⟨rfl, w5004, f5005, rfl⟩
                                · refine wp_of e16 c16_261 (rw_iconst (pc' := 262) rfl ?_)
                                  refine wp_of e16 c16_262 (rw_goto (p1 := 266) (by decide) ?_)
                                  refine wp_of e16 c16_266 (xp_I (pc' := 269) lf_2_41 w4863 g0 sh_4 (by decide) (by decide) ty_4_3 rfl rfl (by omega) (by omega) ⟨by omega, by omega⟩ rfl (fun H5007 e5008 w5009 => ?_))
                                  have f5010 := f4867.put' e5008 g0 rfl
                                  have k5011 : H5007 r0 3 = 4 := wq_u_s e5008
                                  refine wp_of e16 c16_269 (rw_iinc (pc' := 272) (z := v4861) (L' := [(1, vI (v4861 + 1)), (3, vI ((v4861 - (H4862 r0 4)) - (v4790 - (H4791 r0 4)))), (2, vI (v4790 - (H4791 r0 4))), (0, .ref r0)]) rfl rfl rfl rfl ?_)
                                  refine wp_of e16 c16_272 (rw_goto (p1 := 280) (by decide) ?_)
                                  refine wp_of e16 c16_280 (rw_aload_n (pc' := 281) (v := .ref r0) rfl rfl rfl ?_)
                                  refine wp_of e16 c16_281 (rw_iload_n (pc' := 282) (z := v4861 + 1) rfl rfl ?_)
                                  refine wp_of e16 c16_282 (xp_I (pc' := 285) lf_2_23 w5009 g0 sh_4 (by decide) (by decide) ty_4_2 rfl rfl (by omega) (by omega) ⟨by omega, by omega⟩ rfl (fun H5012 e5013 w5014 => ?_))
                                  have f5015 := f5010.put' e5013 g0 rfl
                                  have k5016 : H5012 r0 2 = v4861 + 1 := wq_u_s e5013
                                  exact wp_return e16 c16_285 rfl ⟨rfl, w5014, f5015, rfl⟩
                              · refine wp_of e16 c16_246 (rw_iconst (pc' := 247) rfl ?_)
                                refine wp_of e16 c16_247 (rw_goto (p1 := 266) (by decide) ?_)
                                refine wp_of e16 c16_266 (xp_I (pc' := 269) lf_2_41 w4863 g0 sh_4 (by decide) (by decide) ty_4_3 rfl rfl (by omega) (by omega) ⟨by omega, by omega⟩ rfl (fun H5017 e5018 w5019 => ?_))
                                have f5020 := f4867.put' e5018 g0 rfl
                                have k5021 : H5017 r0 3 = 3 := wq_u_s e5018
                                refine wp_of e16 c16_269 (rw_iinc (pc' := 272) (z := v4861) (L' := [(1, vI (v4861 + 1)), (3, vI ((v4861 - (H4862 r0 4)) - (v4790 - (H4791 r0 4)))), (2, vI (v4790 - (H4791 r0 4))), (0, .ref r0)]) rfl rfl rfl rfl ?_)
                                refine wp_of e16 c16_272 (rw_goto (p1 := 280) (by decide) ?_)
                                refine wp_of e16 c16_280 (rw_aload_n (pc' := 281) (v := .ref r0) rfl rfl rfl ?_)
                                refine wp_of e16 c16_281 (rw_iload_n (pc' := 282) (z := v4861 + 1) rfl rfl ?_)
                                refine wp_of e16 c16_282 (xp_I (pc' := 285) lf_2_23 w5019 g0 sh_4 (by decide) (by decide) ty_4_2 rfl rfl (by omega) (by omega) ⟨by omega, by omega⟩ rfl (fun H5022 e5023 w5024 => ?_))
                                have f5025 := f5020.put' e5023 g0 rfl
                                have k5026 : H5022 r0 2 = v4861 + 1 := wq_u_s e5023
                                exact wp_return e16 c16_285 rfl ⟨rfl, w5024, f5025, rfl⟩
                          · refine wp_of e16 c16_209 (rw_aload_n (pc' := 210) (v := .ref r0) rfl rfl rfl ?_)
                            refine wp_of e16 c16_210 (rw_iload_n (pc' := 211) (z := (v4861 - (H4862 r0 4)) - (v4790 - (H4791 r0 4))) rfl rfl ?_)
                            refine wp_of e16 c16_211 (rw_iconst (pc' := 212) rfl ?_)
                            refine wp_of e16 c16_212 (rw_icmp_gt (p1 := 219) (p2 := 215) (by decide) rfl ⟨by omega, by omega⟩ ⟨by omega, by omega⟩ (fun c5027 => ?_) (fun c5027 => ?_))
                            · refine wp_of e16 c16_219 (rw_iconst (pc' := 220) rfl ?_)
                              refine wp_of e16 c16_220 (xp_I (pc' := 223) lf_2_41 w4863 g0 sh_4 (by decide) (by decide) ty_4_3 rfl rfl (by omega) (by omega) ⟨by omega, by omega⟩ rfl (fun H5028 e5029 w5030 => ?_))
                              have f5031 := f4867.put' e5029 g0 rfl
                              have k5032 : H5028 r0 3 = 5 := wq_u_s e5029
                              refine wp_of e16 c16_223 (rw_goto (p1 := 280) (by decide) ?_)
                              refine wp_of e16 c16_280 (rw_aload_n (pc' := 281) (v := .ref r0) rfl rfl rfl ?_)
                              refine wp_of e16 c16_281 (rw_iload_n (pc' := 282) (z := v4861) rfl rfl ?_)
                              refine wp_of e16 c16_282 (xp_I (pc' := 285) lf_2_23 w5030 g0 sh_4 (by decide) (by decide) ty_4_2 rfl rfl (by omega) (by omega) ⟨by omega, by omega⟩ rfl (fun H5033 e5034 w5035 => ?_))
                              have f5036 := f5031.put' e5034 g0 rfl
                              have k5037 : H5033 r0 2 = v4861 := wq_u_s e5034
                              exact wp_return e16 c16_285 rfl ⟨rfl, w5035, f5036, rfl⟩
                            · refine wp_of e16 c16_215 (rw_iconst (pc' := 216) rfl ?_)
                              refine wp_of e16 c16_216 (rw_goto (p1 := 220) (by decide) ?_)
                              refine wp_of e16 c16_220 (xp_I (pc' := 223) lf_2_41 w4863 g0 sh_4 (by decide) (by decide) ty_4_3 rfl rfl (by omega) (by omega) ⟨by omega, by omega⟩ rfl (fun H5038 e5039 w5040 => ?_))
                              have f5041 := f4867.put' e5039 g0 rfl
                              have k5042 : H5038 r0 3 = 2 := wq_u_s e5039
                              refine wp_of e16 c16_223 (rw_goto (p1 := 280) (by decide) ?_)
                              refine wp_of e16 c16_280 (rw_aload_n (pc' := 281) (v := .ref r0) rfl rfl rfl ?_)
                              refine wp_of e16 c16_281 (rw_iload_n (pc' := 282) (z := v4861) rfl rfl ?_)
                              refine wp_of e16 c16_282 (xp_I (pc' := 285) lf_2_23 w5040 g0 sh_4 (by decide) (by decide) ty_4_2 rfl rfl (by omega) (by omega) ⟨by omega, by omega⟩ rfl (fun H5043 e5044 w5045 => ?_))
                              have f5046 := f5041.put' e5044 g0 rfl
                              have k5047 : H5043 r0 2 = v4861 := wq_u_s e5044
                              exact wp_return e16 c16_285 rfl ⟨rfl, w5045, f5046, rfl⟩
                        · refine wp_of e16 c16_187 (rw_aload_n (pc' := 188) (v := .ref r0) rfl rfl rfl ?_)
                          refine wp_of e16 c16_188 (rw_iload_n (pc' := 189) (z := v4790 - (H4791 r0 4)) rfl rfl ?_)
                          refine wp_of e16 c16_189 (rw_bipush (pc' := 191) (z := 8) rfl (by decide) ?_)
                          refine wp_of e16 c16_191 (rw_icmp_gt (p1 := 198) (p2 := 194) (by decide) rfl ⟨by omega, by omega⟩ ⟨by omega, by omega⟩ (fun c5048 => ?_) (fun c5048 => ?_))
                          · refine wp_of e16 c16_198 (rw_iconst (pc' := 199) rfl ?_)
                            refine wp_of e16 c16_199 (xp_I (pc' := 202) lf_2_41 w4863 g0 sh_4 (by decide) (by decide) ty_4_3 rfl rfl (by omega) (by omega) ⟨by omega, by omega⟩ rfl (fun H5049 e5050 w5051 => ?_))
                            have f5052 := f4867.put' e5050 g0 rfl
                            have k5053 : H5049 r0 3 = 5 := wq_u_s e5050
                            refine wp_of e16 c16_202 (rw_goto (p1 := 280) (by decide) ?_)
                            refine wp_of e16 c16_280 (rw_aload_n (pc' := 281) (v := .ref r0) rfl rfl rfl ?_)
                            refine wp_of e16 c16_281 (rw_iload_n (pc' := 282) (z := v4861) rfl rfl ?_)
                            refine wp_of e16 c16_282 (xp_I (pc' := 285) lf_2_23 w5051 g0 sh_4 (by decide) (by decide) ty_4_2 rfl rfl (by omega) (by omega) ⟨by omega, by omega⟩ rfl (fun H5054 e5055 w5056 => ?_))
                            have f5057 := f5052.put' e5055 g0 rfl
                            have k5058 : H5054 r0 2 = v4861 := wq_u_s e5055
                            exact wp_return e16 c16_285 rfl ⟨rfl, w5056, f5057, rfl⟩
                          · refine wp_of e16 c16_194 (rw_iconst (pc' := 195) rfl ?_)
                            refine wp_of e16 c16_195 (rw_goto (p1 := 199) (by decide) ?_)
                            refine wp_of e16 c16_199 (xp_I (pc' := 202) lf_2_41 w4863 g0 sh_4 (by decide) (by decide) ty_4_3 rfl rfl (by omega) (by omega) ⟨by omega, by omega⟩ rfl (fun H5059 e5060 w5061 => ?_))
                            have f5062 := f4867.put' e5060 g0 rfl
                            have k5063 : H5059 r0 3 = 1 := wq_u_s e5060
                            refine wp_of e16 c16_202 (rw_goto (p1 := 280) (by decide) ?_)
                            refine wp_of e16 c16_280 (rw_aload_n (pc' := 281) (v := .ref r0) rfl rfl rfl ?_)
                            refine wp_of e16 c16_281 (rw_iload_n (pc' := 282) (z := v4861) rfl rfl ?_)
                            refine wp_of e16 c16_282 (xp_I (pc' := 285) lf_2_23 w5061 g0 sh_4 (by decide) (by decide) ty_4_2 rfl rfl (by omega) (by omega) ⟨by omega, by omega⟩ rfl (fun H5064 e5065 w5066 => ?_))
                            have f5067 := f5062.put' e5065 g0 rfl
                            have k5068 : H5064 r0 2 = v4861 := wq_u_s e5065
                            exact wp_return e16 c16_285 rfl ⟨rfl, w5066, f5067, rfl⟩
                      · refine wp_of e16 c16_125 (rw_aload_n (pc' := 126) (v := .ref r0) rfl rfl rfl ?_)
                        have k5069 : H4862 r0 0 = H r0 0 := ((f4864 r0 0 _ g0 rfl).trans ((wq_u_j e4805 rfl).trans ((f4793 r0 0 _ g0 rfl).trans ((wq_u_j e4736 rfl).trans (wq_u_j e4731 rfl)))))
                        have q5070 : H4862 r0 0 = (rb : Int) := k5069.trans qrb
                        refine wp_of e16 c16_126 (xg_K (pc' := 129) lf_2_7 w4863 g0 sh_4 (by decide) (by decide) rfl q5070 rfl ?_)
                        refine wp_of e16 c16_129 (rw_iload_n (pc' := 130) (z := v4861) rfl rfl ?_)
                        refine wp_of e16 c16_130 (xa_B (by decide) (pc' := 131) w4863 grb sh_2 (by decide) (ty_2 _) (by omega) (by omega) rfl (fun b5071 b5072 => ?_))
                        refine wp_of e16 c16_131 (rw_bipush (pc' := 133) (z := 48) rfl (by decide) ?_)
                        refine wp_of e16 c16_133 (rw_icmp_lt (p1 := 174) (p2 := 136) (by decide) rfl ⟨by omega, by omega⟩ ⟨by omega, by omega⟩ (fun c5073 => ?_) (fun c5073 => ?_))
                        · refine wp_of e16 c16_174 (rw_iload_n (pc' := 175) (z := v4861) rfl rfl ?_)
                          refine wp_of e16 c16_175 (rw_aload_n (pc' := 176) (v := .ref r0) rfl rfl rfl ?_)
                          have k5074 : H4862 r0 4 = H4791 r0 4 := ((f4864 r0 4 _ g0 rfl).trans (wq_u_j e4805 rfl))
                          refine wp_of e16 c16_176 (xg_I (pc' := 179) lf_2_29 w4863 g0 sh_4 (by decide) (by decide) ty_4_4 rfl rfl (fun b5075 b5076 => ?_))
                          refine wp_of e16 c16_179 (rw_isub (pc' := 180) rfl ?_)
                          refine wp_of e16 c16_180 (rw_iload_n (pc' := 181) (z := v4790 - (H4791 r0 4)) rfl rfl ?_)
                          refine wp_of e16 c16_181 (rw_isub (pc' := 182) rfl ?_)
                          refine wp_of e16 c16_182 (rw_istore_n (pc' := 183) (z := (v4861 - (H4862 r0 4)) - (v4790 - (H4791 r0 4))) (L' := [(3, vI ((v4861 - (H4862 r0 4)) - (v4790 - (H4791 r0 4)))), (1, vI v4861), (2, vI (v4790 - (H4791 r0 4))), (0, .ref r0)]) rfl rfl rfl ?_)
                          refine wp_of e16 c16_183 (rw_iload_n (pc' := 184) (z := v4790 - (H4791 r0 4)) rfl rfl ?_)
                          refine wp_of e16 c16_184 (rw_if_le (p1 := 205) (p2 := 187) (by decide) rfl ⟨by omega, by omega⟩ (fun c5077 => ?_) (fun c5077 => ?_))
                          · refine wp_of e16 c16_205 (rw_iload_n (pc' := 206) (z := (v4861 - (H4862 r0 4)) - (v4790 - (H4791 r0 4))) rfl rfl ?_)
                            refine wp_of e16 c16_206 (rw_if_le (p1 := 226) (p2 := 209) (by decide) rfl ⟨by omega, by omega⟩ (fun c5078 => ?_) (fun c5078 => ?_))
                            · refine wp_of e16 c16_226 (rw_iload_n (pc' := 227) (z := v4861) rfl rfl ?_)
                              refine wp_of e16 c16_227 (rw_aload_n (pc' := 228) (v := .ref r0) rfl rfl rfl ?_)
                              refine wp_of e16 c16_228 (xg_I (pc' := 231) lf_2_19 w4863 g0 sh_4 (by decide) (by decide) ty_4_1 rfl rfl (fun b5079 b5080 => ?_))
                              refine wp_of e16 c16_231 (rw_icmp_ge (p1 := 275) (p2 := 234) (by decide) rfl ⟨by omega, by omega⟩ ⟨by omega, by omega⟩ (fun c5081 => ?_) (fun c5081 => ?_))
                              · refine wp_of e16 c16_275 (rw_aload_n (pc' := 276) (v := .ref r0) rfl rfl rfl ?_)
                                refine wp_of e16 c16_276 (rw_iconst (pc' := 277) rfl ?_)
                                refine wp_of e16 c16_277 (xp_I (pc' := 280) lf_2_41 w4863 g0 sh_4 (by decide) (by decide) ty_4_3 rfl rfl (by omega) (by omega) ⟨by omega, by omega⟩ rfl (fun H5082 e5083 w5084 => ?_))
                                have f5085 := f4867.put' e5083 g0 rfl
                                have k5086 : H5082 r0 3 = 0 := wq_u_s e5083
                                refine wp_of e16 c16_280 (rw_aload_n (pc' := 281) (v := .ref r0) rfl rfl rfl ?_)
                                refine wp_of e16 c16_281 (rw_iload_n (pc' := 282) (z := v4861) rfl rfl ?_)
                                refine wp_of e16 c16_282 (xp_I (pc' := 285) lf_2_23 w5084 g0 sh_4 (by decide) (by decide) ty_4_2 rfl rfl (by omega) (by omega) ⟨by omega, by omega⟩ rfl (fun H5087 e5088 w5089 => ?_))
                                have f5090 := f5085.put' e5088 g0 rfl
                                have k5091 : H5087 r0 2 = v4861 := wq_u_s e5088
                                exact wp_return e16 c16_285 rfl ⟨rfl, w5089, f5090, rfl⟩
                              · refine wp_of e16 c16_234 (rw_aload_n (pc' := 235) (v := .ref r0) rfl rfl rfl ?_)
                                refine wp_of e16 c16_235 (rw_aload_n (pc' := 236) (v := .ref r0) rfl rfl rfl ?_)
                                refine wp_of e16 c16_236 (xg_K (pc' := 239) lf_2_7 w4863 g0 sh_4 (by decide) (by decide) rfl q5070 rfl ?_)
                                refine wp_of e16 c16_239 (rw_iload_n (pc' := 240) (z := v4861) rfl rfl ?_)
                                refine wp_of e16 c16_240 (xa_B (by decide) (pc' := 241) w4863 grb sh_2 (by decide) (ty_2 _) (by omega) (by omega) rfl (fun b5092 b5093 => ?_))
                                refine wp_of e16 c16_241 (rw_bipush (pc' := 243) (z := 59) rfl (by decide) ?_)
                                refine wp_of e16 c16_243 (rw_icmp_ne (p1 := 250) (p2 := 246) (by decide) rfl ⟨by omega, by omega⟩ ⟨by omega, by omega⟩ (fun c5094 => ?_) (fun c5094 => ?_))
                                · refine wp_of e16 c16_250 (rw_aload_n (pc' := 251) (v := .ref r0) rfl rfl rfl ?_)
                                  refine wp_of e16 c16_251 (xg_K (pc' := 254) lf_2_7 w4863 g0 sh_4 (by decide) (by decide) rfl q5070 rfl ?_)
                                  refine wp_of e16 c16_254 (rw_iload_n (pc' := 255) (z := v4861) rfl rfl ?_)
                                  refine wp_of e16 c16_255 (xa_B (by decide) (pc' := 256) w4863 grb sh_2 (by decide) (ty_2 _) (by omega) (by omega) rfl (fun b5095 b5096 => ?_))
                                  refine wp_of e16 c16_256 (rw_bipush (pc' := 258) (z := 44) rfl (by decide) ?_)
                                  refine wp_of e16 c16_258 (rw_icmp_ne (p1 := 265) (p2 := 261) (by decide) rfl ⟨by omega, by omega⟩ ⟨by omega, by omega⟩ (fun c5097 => ?_) (fun c5097 => ?_))
                                  · refine wp_of e16 c16_265 (rw_iconst (pc' := 266) rfl ?_)
                                    refine wp_of e16 c16_266 (xp_I (pc' := 269) lf_2_41 w4863 g0 sh_4 (by decide) (by decide) ty_4_3 rfl rfl (by omega) (by omega) ⟨by omega, by omega⟩ rfl (fun H5098 e5099 w5100 => ?_))
                                    have f5101 := f4867.put' e5099 g0 rfl
                                    have k5102 : H5098 r0 3 = 5 := wq_u_s e5099
                                    refine wp_of e16 c16_269 (rw_iinc (pc' := 272) (z := v4861) (L' := [(1, vI (v4861 + 1)), (3, vI ((v4861 - (H4862 r0 4)) - (v4790 - (H4791 r0 4)))), (2, vI (v4790 - (H4791 r0 4))), (0, .ref r0)]) rfl rfl rfl rfl ?_)
                                    refine wp_of e16 c16_272 (rw_goto (p1 := 280) (by decide) ?_)
                                    refine wp_of e16 c16_280 (rw_aload_n (pc' := 281) (v := .ref r0) rfl rfl rfl ?_)
                                    refine wp_of e16 c16_281 (rw_iload_n (pc' := 282) (z := v4861 + 1) rfl rfl ?_)
                                    refine wp_of e16 c16_282 (xp_I (pc' := 285) lf_2_23 w5100 g0 sh_4 (by decide) (by decide) ty_4_2 rfl rfl (by omega) (by omega) ⟨by omega, by omega⟩ rfl (fun H5103 e5104 w5105 => ?_))
                                    have f5106 := f5101.put' e5104 g0 rfl
                                    have k5107 : H5103 r0 2 = v4861 + 1 := wq_u_s e5104
                                    exact wp_return e16 c16_285 rfl ⟨rfl, w5105, f5106, rfl⟩
                                  · refine wp_of e16 c16_261 (rw_iconst (pc' := 262) rfl ?_)
                                    refine wp_of e16 c16_262 (rw_goto (p1 := 266) (by decide) ?_)
                                    refine wp_of e16 c16_266 (xp_I (pc' := 269) lf_2_41 w4863 g0 sh_4 (by decide) (by decide) ty_4_3 rfl rfl (by omega) (by omega) ⟨by omega, by omega⟩ rfl (fun H5108 e5109 w5110 => ?_))
                                    have f5111 := f4867.put' e5109 g0 rfl
                                    have k5112 : H5108 r0 3 = 4 := wq_u_s e5109
                                    refine wp_of e16 c16_269 (rw_iinc (pc' := 272) (z := v4861) (L' := [(1, vI (v4861 + 1)), (3, vI ((v4861 - (H4862 r0 4)) - (v4790 - (H4791 r0 4)))), (2, vI (v4790 - (H4791 r0 4))), (0, .ref r0)]) rfl rfl rfl rfl ?_)
                                    refine wp_of e16 c16_272 (rw_goto (p1 := 280) (by decide) ?_)
                                    refine wp_of e16 c16_280 (rw_aload_n (pc' := 281) (v := .ref r0) rfl rfl rfl ?_)
                                    refine wp_of e16 c16_281 (rw_iload_n (pc' := 282) (z := v4861 + 1) rfl rfl ?_)
                                    refine wp_of e16 c16_282 (xp_I (pc' := 285) lf_2_23 w5110 g0 sh_4 (by decide) (by decide) ty_4_2 rfl rfl (by omega) (by omega) ⟨by omega, by omega⟩ rfl (fun H5113 e5114 w5115 => ?_))
                                    have f5116 := f5111.put' e5114 g0 rfl
                                    have k5117 : H5113 r0 2 = v4861 + 1 := wq_u_s e5114
                                    exact wp_return e16 c16_285 rfl ⟨rfl, w5115, f5116, rfl⟩
                                · exfalso
                                  omega
                            · refine wp_of e16 c16_209 (rw_aload_n (pc' := 210) (v := .ref r0) rfl rfl rfl ?_)
                              refine wp_of e16 c16_210 (rw_iload_n (pc' := 211) (z := (v4861 - (H4862 r0 4)) - (v4790 - (H4791 r0 4))) rfl rfl ?_)
                              refine wp_of e16 c16_211 (rw_iconst (pc' := 212) rfl ?_)
                              refine wp_of e16 c16_212 (rw_icmp_gt (p1 := 219) (p2 := 215) (by decide) rfl ⟨by omega, by omega⟩ ⟨by omega, by omega⟩ (fun c5118 => ?_) (fun c5118 => ?_))
                              · refine wp_of e16 c16_219 (rw_iconst (pc' := 220) rfl ?_)
                                refine wp_of e16 c16_220 (xp_I (pc' := 223) lf_2_41 w4863 g0 sh_4 (by decide) (by decide) ty_4_3 rfl rfl (by omega) (by omega) ⟨by omega, by omega⟩ rfl (fun H5119 e5120 w5121 => ?_))
                                have f5122 := f4867.put' e5120 g0 rfl
                                have k5123 : H5119 r0 3 = 5 := wq_u_s e5120
                                refine wp_of e16 c16_223 (rw_goto (p1 := 280) (by decide) ?_)
                                refine wp_of e16 c16_280 (rw_aload_n (pc' := 281) (v := .ref r0) rfl rfl rfl ?_)
                                refine wp_of e16 c16_281 (rw_iload_n (pc' := 282) (z := v4861) rfl rfl ?_)
                                refine wp_of e16 c16_282 (xp_I (pc' := 285) lf_2_23 w5121 g0 sh_4 (by decide) (by decide) ty_4_2 rfl rfl (by omega) (by omega) ⟨by omega, by omega⟩ rfl (fun H5124 e5125 w5126 => ?_))
                                have f5127 := f5122.put' e5125 g0 rfl
                                have k5128 : H5124 r0 2 = v4861 := wq_u_s e5125
                                exact wp_return e16 c16_285 rfl ⟨rfl, w5126, f5127, rfl⟩
                              · refine wp_of e16 c16_215 (rw_iconst (pc' := 216) rfl ?_)
                                refine wp_of e16 c16_216 (rw_goto (p1 := 220) (by decide) ?_)
                                refine wp_of e16 c16_220 (xp_I (pc' := 223) lf_2_41 w4863 g0 sh_4 (by decide) (by decide) ty_4_3 rfl rfl (by omega) (by omega) ⟨by omega, by omega⟩ rfl (fun H5129 e5130 w5131 => ?_))
                                have f5132 := f4867.put' e5130 g0 rfl
                                have k5133 : H5129 r0 3 = 2 := wq_u_s e5130
                                refine wp_of e16 c16_223 (rw_goto (p1 := 280) (by decide) ?_)
                                refine wp_of e16 c16_280 (rw_aload_n (pc' := 281) (v := .ref r0) rfl rfl rfl ?_)
                                refine wp_of e16 c16_281 (rw_iload_n (pc' := 282) (z := v4861) rfl rfl ?_)
                                refine wp_of e16 c16_282 (xp_I (pc' := 285) lf_2_23 w5131 g0 sh_4 (by decide) (by decide) ty_4_2 rfl rfl (by omega) (by omega) ⟨by omega, by omega⟩ rfl (fun H5134 e5135 w5136 => ?_))
                                have f5137 := f5132.put' e5135 g0 rfl
                                have k5138 : H5134 r0 2 = v4861 := wq_u_s e5135
                                exact wp_return e16 c16_285 rfl ⟨rfl, w5136, f5137, rfl⟩
                          · exfalso
                            omega
                        · refine wp_of e16 c16_136 (rw_aload_n (pc' := 137) (v := .ref r0) rfl rfl rfl ?_)
                          refine wp_of e16 c16_137 (xg_K (pc' := 140) lf_2_7 w4863 g0 sh_4 (by decide) (by decide) rfl q5070 rfl ?_)
                          refine wp_of e16 c16_140 (rw_iload_n (pc' := 141) (z := v4861) rfl rfl ?_)
                          refine wp_of e16 c16_141 (xa_B (by decide) (pc' := 142) w4863 grb sh_2 (by decide) (ty_2 _) (by omega) (by omega) rfl (fun b5139 b5140 => ?_))
                          refine wp_of e16 c16_142 (rw_bipush (pc' := 144) (z := 57) rfl (by decide) ?_)
                          refine wp_of e16 c16_144 (rw_icmp_gt (p1 := 174) (p2 := 147) (by decide) rfl ⟨by omega, by omega⟩ ⟨by omega, by omega⟩ (fun c5141 => ?_) (fun c5141 => ?_))
                          · refine wp_of e16 c16_174 (rw_iload_n (pc' := 175) (z := v4861) rfl rfl ?_)
                            refine wp_of e16 c16_175 (rw_aload_n (pc' := 176) (v := .ref r0) rfl rfl rfl ?_)
                            have k5142 : H4862 r0 4 = H4791 r0 4 := ((f4864 r0 4 _ g0 rfl).trans (wq_u_j e4805 rfl))
                            refine wp_of e16 c16_176 (xg_I (pc' := 179) lf_2_29 w4863 g0 sh_4 (by decide) (by decide) ty_4_4 rfl rfl (fun b5143 b5144 => ?_))
                            refine wp_of e16 c16_179 (rw_isub (pc' := 180) rfl ?_)
                            refine wp_of e16 c16_180 (rw_iload_n (pc' := 181) (z := v4790 - (H4791 r0 4)) rfl rfl ?_)
                            refine wp_of e16 c16_181 (rw_isub (pc' := 182) rfl ?_)
                            refine wp_of e16 c16_182 (rw_istore_n (pc' := 183) (z := (v4861 - (H4862 r0 4)) - (v4790 - (H4791 r0 4))) (L' := [(3, vI ((v4861 - (H4862 r0 4)) - (v4790 - (H4791 r0 4)))), (1, vI v4861), (2, vI (v4790 - (H4791 r0 4))), (0, .ref r0)]) rfl rfl rfl ?_)
                            refine wp_of e16 c16_183 (rw_iload_n (pc' := 184) (z := v4790 - (H4791 r0 4)) rfl rfl ?_)
                            refine wp_of e16 c16_184 (rw_if_le (p1 := 205) (p2 := 187) (by decide) rfl ⟨by omega, by omega⟩ (fun c5145 => ?_) (fun c5145 => ?_))
                            · refine wp_of e16 c16_205 (rw_iload_n (pc' := 206) (z := (v4861 - (H4862 r0 4)) - (v4790 - (H4791 r0 4))) rfl rfl ?_)
                              refine wp_of e16 c16_206 (rw_if_le (p1 := 226) (p2 := 209) (by decide) rfl ⟨by omega, by omega⟩ (fun c5146 => ?_) (fun c5146 => ?_))
                              · refine wp_of e16 c16_226 (rw_iload_n (pc' := 227) (z := v4861) rfl rfl ?_)
                                refine wp_of e16 c16_227 (rw_aload_n (pc' := 228) (v := .ref r0) rfl rfl rfl ?_)
                                refine wp_of e16 c16_228 (xg_I (pc' := 231) lf_2_19 w4863 g0 sh_4 (by decide) (by decide) ty_4_1 rfl rfl (fun b5147 b5148 => ?_))
                                refine wp_of e16 c16_231 (rw_icmp_ge (p1 := 275) (p2 := 234) (by decide) rfl ⟨by omega, by omega⟩ ⟨by omega, by omega⟩ (fun c5149 => ?_) (fun c5149 => ?_))
                                · refine wp_of e16 c16_275 (rw_aload_n (pc' := 276) (v := .ref r0) rfl rfl rfl ?_)
                                  refine wp_of e16 c16_276 (rw_iconst (pc' := 277) rfl ?_)
                                  refine wp_of e16 c16_277 (xp_I (pc' := 280) lf_2_41 w4863 g0 sh_4 (by decide) (by decide) ty_4_3 rfl rfl (by omega) (by omega) ⟨by omega, by omega⟩ rfl (fun H5150 e5151 w5152 => ?_))
                                  have f5153 := f4867.put' e5151 g0 rfl
                                  have k5154 : H5150 r0 3 = 0 := wq_u_s e5151
                                  refine wp_of e16 c16_280 (rw_aload_n (pc' := 281) (v := .ref r0) rfl rfl rfl ?_)
                                  refine wp_of e16 c16_281 (rw_iload_n (pc' := 282) (z := v4861) rfl rfl ?_)
                                  refine wp_of e16 c16_282 (xp_I (pc' := 285) lf_2_23 w5152 g0 sh_4 (by decide) (by decide) ty_4_2 rfl rfl (by omega) (by omega) ⟨by omega, by omega⟩ rfl (fun H5155 e5156 w5157 => ?_))
                                  have f5158 := f5153.put' e5156 g0 rfl
                                  have k5159 : H5155 r0 2 = v4861 := wq_u_s e5156
                                  exact wp_return e16 c16_285 rfl ⟨rfl, w5157, f5158, rfl⟩
                                · refine wp_of e16 c16_234 (rw_aload_n (pc' := 235) (v := .ref r0) rfl rfl rfl ?_)
                                  refine wp_of e16 c16_235 (rw_aload_n (pc' := 236) (v := .ref r0) rfl rfl rfl ?_)
                                  refine wp_of e16 c16_236 (xg_K (pc' := 239) lf_2_7 w4863 g0 sh_4 (by decide) (by decide) rfl q5070 rfl ?_)
                                  refine wp_of e16 c16_239 (rw_iload_n (pc' := 240) (z := v4861) rfl rfl ?_)
                                  refine wp_of e16 c16_240 (xa_B (by decide) (pc' := 241) w4863 grb sh_2 (by decide) (ty_2 _) (by omega) (by omega) rfl (fun b5160 b5161 => ?_))
                                  refine wp_of e16 c16_241 (rw_bipush (pc' := 243) (z := 59) rfl (by decide) ?_)
                                  refine wp_of e16 c16_243 (rw_icmp_ne (p1 := 250) (p2 := 246) (by decide) rfl ⟨by omega, by omega⟩ ⟨by omega, by omega⟩ (fun c5162 => ?_) (fun c5162 => ?_))
                                  · refine wp_of e16 c16_250 (rw_aload_n (pc' := 251) (v := .ref r0) rfl rfl rfl ?_)
                                    refine wp_of e16 c16_251 (xg_K (pc' := 254) lf_2_7 w4863 g0 sh_4 (by decide) (by decide) rfl q5070 rfl ?_)
                                    refine wp_of e16 c16_254 (rw_iload_n (pc' := 255) (z := v4861) rfl rfl ?_)
                                    refine wp_of e16 c16_255 (xa_B (by decide) (pc' := 256) w4863 grb sh_2 (by decide) (ty_2 _) (by omega) (by omega) rfl (fun b5163 b5164 => ?_))
                                    refine wp_of e16 c16_256 (rw_bipush (pc' := 258) (z := 44) rfl (by decide) ?_)
                                    refine wp_of e16 c16_258 (rw_icmp_ne (p1 := 265) (p2 := 261) (by decide) rfl ⟨by omega, by omega⟩ ⟨by omega, by omega⟩ (fun c5165 => ?_) (fun c5165 => ?_))
                                    · refine wp_of e16 c16_265 (rw_iconst (pc' := 266) rfl ?_)
                                      refine wp_of e16 c16_266 (xp_I (pc' := 269) lf_2_41 w4863 g0 sh_4 (by decide) (by decide) ty_4_3 rfl rfl (by omega) (by omega) ⟨by omega, by omega⟩ rfl (fun H5166 e5167 w5168 => ?_))
                                      have f5169 := f4867.put' e5167 g0 rfl
                                      have k5170 : H5166 r0 3 = 5 := wq_u_s e5167
                                      refine wp_of e16 c16_269 (rw_iinc (pc' := 272) (z := v4861) (L' := [(1, vI (v4861 + 1)), (3, vI ((v4861 - (H4862 r0 4)) - (v4790 - (H4791 r0 4)))), (2, vI (v4790 - (H4791 r0 4))), (0, .ref r0)]) rfl rfl rfl rfl ?_)
                                      refine wp_of e16 c16_272 (rw_goto (p1 := 280) (by decide) ?_)
                                      refine wp_of e16 c16_280 (rw_aload_n (pc' := 281) (v := .ref r0) rfl rfl rfl ?_)
                                      refine wp_of e16 c16_281 (rw_iload_n (pc' := 282) (z := v4861 + 1) rfl rfl ?_)
                                      refine wp_of e16 c16_282 (xp_I (pc' := 285) lf_2_23 w5168 g0 sh_4 (by decide) (by decide) ty_4_2 rfl rfl (by omega) (by omega) ⟨by omega, by omega⟩ rfl (fun H5171 e5172 w5173 => ?_))
                                      have f5174 := f5169.put' e5172 g0 rfl
                                      have k5175 : H5171 r0 2 = v4861 + 1 := wq_u_s e5172
                                      exact wp_return e16 c16_285 rfl ⟨rfl, w5173, f5174, rfl⟩
                                    · exfalso
                                      omega
                                  · refine wp_of e16 c16_246 (rw_iconst (pc' := 247) rfl ?_)
                                    refine wp_of e16 c16_247 (rw_goto (p1 := 266) (by decide) ?_)
                                    refine wp_of e16 c16_266 (xp_I (pc' := 269) lf_2_41 w4863 g0 sh_4 (by decide) (by decide) ty_4_3 rfl rfl (by omega) (by omega) ⟨by omega, by omega⟩ rfl (fun H5176 e5177 w5178 => ?_))
                                    have f5179 := f4867.put' e5177 g0 rfl
                                    have k5180 : H5176 r0 3 = 3 := wq_u_s e5177
                                    refine wp_of e16 c16_269 (rw_iinc (pc' := 272) (z := v4861) (L' := [(1, vI (v4861 + 1)), (3, vI ((v4861 - (H4862 r0 4)) - (v4790 - (H4791 r0 4)))), (2, vI (v4790 - (H4791 r0 4))), (0, .ref r0)]) rfl rfl rfl rfl ?_)
                                    refine wp_of e16 c16_272 (rw_goto (p1 := 280) (by decide) ?_)
                                    refine wp_of e16 c16_280 (rw_aload_n (pc' := 281) (v := .ref r0) rfl rfl rfl ?_)
                                    refine wp_of e16 c16_281 (rw_iload_n (pc' := 282) (z := v4861 + 1) rfl rfl ?_)
                                    refine wp_of e16 c16_282 (xp_I (pc' := 285) lf_2_23 w5178 g0 sh_4 (by decide) (by decide) ty_4_2 rfl rfl (by omega) (by omega) ⟨by omega, by omega⟩ rfl (fun H5181 e5182 w5183 => ?_))
                                    have f5184 := f5179.put' e5182 g0 rfl
                                    have k5185 : H5181 r0 2 = v4861 + 1 := wq_u_s e5182
                                    exact wp_return e16 c16_285 rfl ⟨rfl, w5183, f5184, rfl⟩
                              · refine wp_of e16 c16_209 (rw_aload_n (pc' := 210) (v := .ref r0) rfl rfl rfl ?_)
                                refine wp_of e16 c16_210 (rw_iload_n (pc' := 211) (z := (v4861 - (H4862 r0 4)) - (v4790 - (H4791 r0 4))) rfl rfl ?_)
                                refine wp_of e16 c16_211 (rw_iconst (pc' := 212) rfl ?_)
                                refine wp_of e16 c16_212 (rw_icmp_gt (p1 := 219) (p2 := 215) (by decide) rfl ⟨by omega, by omega⟩ ⟨by omega, by omega⟩ (fun c5186 => ?_) (fun c5186 => ?_))
                                · refine wp_of e16 c16_219 (rw_iconst (pc' := 220) rfl ?_)
                                  refine wp_of e16 c16_220 (xp_I (pc' := 223) lf_2_41 w4863 g0 sh_4 (by decide) (by decide) ty_4_3 rfl rfl (by omega) (by omega) ⟨by omega, by omega⟩ rfl (fun H5187 e5188 w5189 => ?_))
                                  have f5190 := f4867.put' e5188 g0 rfl
                                  have k5191 : H5187 r0 3 = 5 := wq_u_s e5188
                                  refine wp_of e16 c16_223 (rw_goto (p1 := 280) (by decide) ?_)
                                  refine wp_of e16 c16_280 (rw_aload_n (pc' := 281) (v := .ref r0) rfl rfl rfl ?_)
                                  refine wp_of e16 c16_281 (rw_iload_n (pc' := 282) (z := v4861) rfl rfl ?_)
                                  refine wp_of e16 c16_282 (xp_I (pc' := 285) lf_2_23 w5189 g0 sh_4 (by decide) (by decide) ty_4_2 rfl rfl (by omega) (by omega) ⟨by omega, by omega⟩ rfl (fun H5192 e5193 w5194 => ?_))
                                  have f5195 := f5190.put' e5193 g0 rfl
                                  have k5196 : H5192 r0 2 = v4861 := wq_u_s e5193
                                  exact wp_return e16 c16_285 rfl ⟨rfl, w5194, f5195, rfl⟩
                                · refine wp_of e16 c16_215 (rw_iconst (pc' := 216) rfl ?_)
                                  refine wp_of e16 c16_216 (rw_goto (p1 := 220) (by decide) ?_)
                                  refine wp_of e16 c16_220 (xp_I (pc' := 223) lf_2_41 w4863 g0 sh_4 (by decide) (by decide) ty_4_3 rfl rfl (by omega) (by omega) ⟨by omega, by omega⟩ rfl (fun H5197 e5198 w5199 => ?_))
                                  have f5200 := f4867.put' e5198 g0 rfl
                                  have k5201 : H5197 r0 3 = 2 := wq_u_s e5198
                                  refine wp_of e16 c16_223 (rw_goto (p1 := 280) (by decide) ?_)
                                  refine wp_of e16 c16_280 (rw_aload_n (pc' := 281) (v := .ref r0) rfl rfl rfl ?_)
                                  refine wp_of e16 c16_281 (rw_iload_n (pc' := 282) (z := v4861) rfl rfl ?_)
                                  refine wp_of e16 c16_282 (xp_I (pc' := 285) lf_2_23 w5199 g0 sh_4 (by decide) (by decide) ty_4_2 rfl rfl (by omega) (by omega) ⟨by omega, by omega⟩ rfl (fun H5202 e5203 w5204 => ?_))
                                  have f5205 := f5200.put' e5203 g0 rfl
                                  have k5206 : H5202 r0 2 = v4861 := wq_u_s e5203
                                  exact wp_return e16 c16_285 rfl ⟨rfl, w5204, f5205, rfl⟩
                            · exfalso
                              omega
                          · refine wp_of e16 c16_147 (rw_aload_n (pc' := 148) (v := .ref r0) rfl rfl rfl ?_)
                            refine wp_of e16 c16_148 (rw_aload_n (pc' := 149) (v := .ref r0) rfl rfl rfl ?_)
                            refine wp_of e16 c16_149 (xg_I (pc' := 152) lf_2_38 w4863 g0 sh_4 (by decide) (by decide) ty_4_5 rfl rfl (fun b5207 b5208 => ?_))
                            refine wp_of e16 c16_152 (rw_bipush (pc' := 154) (z := 10) rfl (by decide) ?_)
                            refine wp_of e16 c16_154 (rw_imulw (pc' := 155) rfl ?_)
                            obtain ⟨v5209, e5210⟩ : ∃ x : Int, x = wq_w ((H4862 r0 5) * 10) := ⟨_, rfl⟩
                            rw [← e5210]
                            have b5211 : -2147483648 ≤ v5209 ∧ v5209 ≤ 2147483647 := by
                              rw [e5210]
                              exact wI_w _
                            refine wp_of e16 c16_155 (rw_aload_n (pc' := 156) (v := .ref r0) rfl rfl rfl ?_)
                            refine wp_of e16 c16_156 (xg_K (pc' := 159) lf_2_7 w4863 g0 sh_4 (by decide) (by decide) rfl q5070 rfl ?_)
                            refine wp_of e16 c16_159 (rw_iload_n (pc' := 160) (z := v4861) rfl rfl ?_)
                            refine wp_of e16 c16_160 (xa_B (by decide) (pc' := 161) w4863 grb sh_2 (by decide) (ty_2 _) (by omega) (by omega) rfl (fun b5212 b5213 => ?_))
                            refine wp_of e16 c16_161 (rw_bipush (pc' := 163) (z := 48) rfl (by decide) ?_)
                            refine wp_of e16 c16_163 (rw_isub (pc' := 164) rfl ?_)
                            refine wp_of e16 c16_164 (rw_iaddw (pc' := 165) rfl ?_)
                            obtain ⟨v5214, e5215⟩ : ∃ x : Int, x = wq_w (v5209 + ((H4862 rb (v4861.toNat)) - 48)) := ⟨_, rfl⟩
                            rw [← e5215]
                            have b5216 : -2147483648 ≤ v5214 ∧ v5214 ≤ 2147483647 := by
                              rw [e5215]
                              exact wI_w _
                            refine wp_of e16 c16_165 (xp_I (pc' := 168) lf_2_38 w4863 g0 sh_4 (by decide) (by decide) ty_4_5 rfl rfl (by omega) (by omega) ⟨by omega, by omega⟩ rfl (fun H5217 e5218 w5219 => ?_))
                            have f5220 := f4867.put' e5218 g0 rfl
                            have f5221 := f4864.put' e5218 g0 rfl
                            have k5222 : H5217 r0 5 = v5214 := wq_u_s e5218
                            refine wp_of e16 c16_168 (rw_iinc (pc' := 171) (z := v4861) (L' := [(1, vI (v4861 + 1)), (2, vI (v4790 - (H4791 r0 4))), (0, .ref r0)]) rfl rfl rfl rfl ?_)
                            refine wp_of e16 c16_171 (rw_goto (p1 := 113) (by decide) ?_)
                            exact wp_lc (ks := [1, 2, 0]) (wl_c rfl (wl_c rfl (wl_c rfl wl_n))) rfl (by decide) (ih4860 _ (by omega) (v4861 + 1) H5217 w5219 f5221 ⟨by omega, by omega⟩ rfl)
                exact wp_lc (ks := [2, 1, 0]) (wl_c rfl (wl_c rfl (wl_c rfl wl_n))) rfl (by decide) (lp4858 _ v4790 H4804 w4806 wfr.rf ⟨by omega, by omega⟩ rfl)
              · refine wp_of e16 c16_48 (rw_aload_n (pc' := 49) (v := .ref r0) rfl rfl rfl ?_)
                have k5223 : H4791 r0 0 = H r0 0 := ((f4793 r0 0 _ g0 rfl).trans ((wq_u_j e4736 rfl).trans (wq_u_j e4731 rfl)))
                have q5224 : H4791 r0 0 = (rb : Int) := k5223.trans qrb
                refine wp_of e16 c16_49 (xg_K (pc' := 52) lf_2_7 w4792 g0 sh_4 (by decide) (by decide) rfl q5224 rfl ?_)
                refine wp_of e16 c16_52 (rw_iload_n (pc' := 53) (z := v4790) rfl rfl ?_)
                refine wp_of e16 c16_53 (xa_B (by decide) (pc' := 54) w4792 grb sh_2 (by decide) (ty_2 _) (by omega) (by omega) rfl (fun b5225 b5226 => ?_))
                refine wp_of e16 c16_54 (rw_bipush (pc' := 56) (z := 97) rfl (by decide) ?_)
                refine wp_of e16 c16_56 (rw_icmp_lt (p1 := 101) (p2 := 59) (by decide) rfl ⟨by omega, by omega⟩ ⟨by omega, by omega⟩ (fun c5227 => ?_) (fun c5227 => ?_))
                · refine wp_of e16 c16_101 (rw_iload_n (pc' := 102) (z := v4790) rfl rfl ?_)
                  refine wp_of e16 c16_102 (rw_aload_n (pc' := 103) (v := .ref r0) rfl rfl rfl ?_)
                  have k5228 : H4791 r0 4 = H4730 r0 4 := ((f4793 r0 4 _ g0 rfl).trans (wq_u_j e4736 rfl))
                  refine wp_of e16 c16_103 (xg_I (pc' := 106) lf_2_29 w4792 g0 sh_4 (by decide) (by decide) ty_4_4 rfl rfl (fun b5229 b5230 => ?_))
                  refine wp_of e16 c16_106 (rw_isub (pc' := 107) rfl ?_)
                  refine wp_of e16 c16_107 (rw_istore_n (pc' := 108) (z := v4790 - (H4791 r0 4)) (L' := [(2, vI (v4790 - (H4791 r0 4))), (1, vI v4790), (0, .ref r0)]) rfl rfl rfl ?_)
                  refine wp_of e16 c16_108 (rw_aload_n (pc' := 109) (v := .ref r0) rfl rfl rfl ?_)
                  refine wp_of e16 c16_109 (rw_iconst (pc' := 110) rfl ?_)
                  refine wp_of e16 c16_110 (xp_I (pc' := 113) lf_2_38 w4792 g0 sh_4 (by decide) (by decide) ty_4_5 rfl rfl (by omega) (by omega) ⟨by omega, by omega⟩ rfl (fun H5231 e5232 w5233 => ?_))
                  have f5234 := f4796.put' e5232 g0 rfl
                  have k5235 : H5231 r0 5 = 0 := wq_u_s e5232
                  have lp5285 : ∀ (n5286 : Nat) (v5288 : Int) (H5289 : wq_H), WT T H5289 → wfr [(4, 5)] T H5231 H5289 → (0 ≤ v5288 ∧ v5288 ≤ 900) → (900 - v5288).toNat = n5286 → wp kt 0 16 113 [(1, vI v5288), (2, vI (v4790 - (H4791 r0 4))), (0, .ref r0)] [] T H5289 (q_16 r0 rb T H) := by
                    intro n5286
                    induction n5286 using Nat.strongRecOn with
                    | _ n5286 ih5287 =>
                      intro v5288 H5289 w5290 f5291 b5292 m5293
                      have f5294 := f5234.tr f5291 rfl
                      refine wp_of e16 c16_113 (rw_iload_n (pc' := 114) (z := v5288) rfl rfl ?_)
                      refine wp_of e16 c16_114 (rw_aload_n (pc' := 115) (v := .ref r0) rfl rfl rfl ?_)
                      have k5295 : H5289 r0 1 = H4791 r0 1 := ((f5291 r0 1 _ g0 rfl).trans (wq_u_j e5232 rfl))
                      refine wp_of e16 c16_115 (xg_I (pc' := 118) lf_2_19 w5290 g0 sh_4 (by decide) (by decide) ty_4_1 rfl rfl (fun b5296 b5297 => ?_))
                      refine wp_of e16 c16_118 (rw_icmp_ge (p1 := 174) (p2 := 121) (by decide) rfl ⟨by omega, by omega⟩ ⟨by omega, by omega⟩ (fun c5298 => ?_) (fun c5298 => ?_))
                      · refine wp_of e16 c16_174 (rw_iload_n (pc' := 175) (z := v5288) rfl rfl ?_)
                        refine wp_of e16 c16_175 (rw_aload_n (pc' := 176) (v := .ref r0) rfl rfl rfl ?_)
                        have k5299 : H5289 r0 4 = H4791 r0 4 := ((f5291 r0 4 _ g0 rfl).trans (wq_u_j e5232 rfl))
                        refine wp_of e16 c16_176 (xg_I (pc' := 179) lf_2_29 w5290 g0 sh_4 (by decide) (by decide) ty_4_4 rfl rfl (fun b5300 b5301 => ?_))
                        refine wp_of e16 c16_179 (rw_isub (pc' := 180) rfl ?_)
                        refine wp_of e16 c16_180 (rw_iload_n (pc' := 181) (z := v4790 - (H4791 r0 4)) rfl rfl ?_)
                        refine wp_of e16 c16_181 (rw_isub (pc' := 182) rfl ?_)
                        refine wp_of e16 c16_182 (rw_istore_n (pc' := 183) (z := (v5288 - (H5289 r0 4)) - (v4790 - (H4791 r0 4))) (L' := [(3, vI ((v5288 - (H5289 r0 4)) - (v4790 - (H4791 r0 4)))), (1, vI v5288), (2, vI (v4790 - (H4791 r0 4))), (0, .ref r0)]) rfl rfl rfl ?_)
                        refine wp_of e16 c16_183 (rw_iload_n (pc' := 184) (z := v4790 - (H4791 r0 4)) rfl rfl ?_)
                        refine wp_of e16 c16_184 (rw_if_le (p1 := 205) (p2 := 187) (by decide) rfl ⟨by omega, by omega⟩ (fun c5302 => ?_) (fun c5302 => ?_))
                        · refine wp_of e16 c16_205 (rw_iload_n (pc' := 206) (z := (v5288 - (H5289 r0 4)) - (v4790 - (H4791 r0 4))) rfl rfl ?_)
                          refine wp_of e16 c16_206 (rw_if_le (p1 := 226) (p2 := 209) (by decide) rfl ⟨by omega, by omega⟩ (fun c5303 => ?_) (fun c5303 => ?_))
                          · refine wp_of e16 c16_226 (rw_iload_n (pc' := 227) (z := v5288) rfl rfl ?_)
                            refine wp_of e16 c16_227 (rw_aload_n (pc' := 228) (v := .ref r0) rfl rfl rfl ?_)
                            refine wp_of e16 c16_228 (xg_I (pc' := 231) lf_2_19 w5290 g0 sh_4 (by decide) (by decide) ty_4_1 rfl rfl (fun b5304 b5305 => ?_))
                            refine wp_of e16 c16_231 (rw_icmp_ge (p1 := 275) (p2 := 234) (by decide) rfl ⟨by omega, by omega⟩ ⟨by omega, by omega⟩ (fun c5306 => ?_) (fun c5306 => ?_))
                            · refine wp_of e16 c16_275 (rw_aload_n (pc' := 276) (v := .ref r0) rfl rfl rfl ?_)
                              refine wp_of e16 c16_276 (rw_iconst (pc' := 277) rfl ?_)
                              refine wp_of e16 c16_277 (xp_I (pc' := 280) lf_2_41 w5290 g0 sh_4 (by decide) (by decide) ty_4_3 rfl rfl (by omega) (by omega) ⟨by omega, by omega⟩ rfl (fun H5307 e5308 w5309 => ?_))
                              have f5310 := f5294.put' e5308 g0 rfl
                              have k5311 : H5307 r0 3 = 0 := wq_u_s e5308
                              refine wp_of e16 c16_280 (rw_aload_n (pc' := 281) (v := .ref r0) rfl rfl rfl ?_)
                              refine wp_of e16 c16_281 (rw_iload_n (pc' := 282) (z := v5288) rfl rfl ?_)
                              refine wp_of e16 c16_282 (xp_I (pc' := 285) lf_2_23 w5309 g0 sh_4 (by decide) (by decide) ty_4_2 rfl rfl (by omega) (by omega) ⟨by omega, by omega⟩ rfl (fun H5312 e5313 w5314 => ?_))
                              have f5315 := f5310.put' e5313 g0 rfl
                              have k5316 : H5312 r0 2 = v5288 := wq_u_s e5313
                              exact wp_return e16 c16_285 rfl ⟨rfl, w5314, f5315, rfl⟩
                            · refine wp_of e16 c16_234 (rw_aload_n (pc' := 235) (v := .ref r0) rfl rfl rfl ?_)
                              refine wp_of e16 c16_235 (rw_aload_n (pc' := 236) (v := .ref r0) rfl rfl rfl ?_)
                              have k5317 : H5289 r0 0 = H4791 r0 0 := ((f5291 r0 0 _ g0 rfl).trans (wq_u_j e5232 rfl))
                              have q5318 : H5289 r0 0 = (rb : Int) := k5317.trans q5224
                              refine wp_of e16 c16_236 (xg_K (pc' := 239) lf_2_7 w5290 g0 sh_4 (by decide) (by decide) rfl q5318 rfl ?_)
                              refine wp_of e16 c16_239 (rw_iload_n (pc' := 240) (z := v5288) rfl rfl ?_)
                              refine wp_of e16 c16_240 (xa_B (by decide) (pc' := 241) w5290 grb sh_2 (by decide) (ty_2 _) (by omega) (by omega) rfl (fun b5319 b5320 => ?_))
                              refine wp_of e16 c16_241 (rw_bipush (pc' := 243) (z := 59) rfl (by decide) ?_)
                              refine wp_of e16 c16_243 (rw_icmp_ne (p1 := 250) (p2 := 246) (by decide) rfl ⟨by omega, by omega⟩ ⟨by omega, by omega⟩ (fun c5321 => ?_) (fun c5321 => ?_))
                              · refine wp_of e16 c16_250 (rw_aload_n (pc' := 251) (v := .ref r0) rfl rfl rfl ?_)
                                refine wp_of e16 c16_251 (xg_K (pc' := 254) lf_2_7 w5290 g0 sh_4 (by decide) (by decide) rfl q5318 rfl ?_)
                                refine wp_of e16 c16_254 (rw_iload_n (pc' := 255) (z := v5288) rfl rfl ?_)
                                refine wp_of e16 c16_255 (xa_B (by decide) (pc' := 256) w5290 grb sh_2 (by decide) (ty_2 _) (by omega) (by omega) rfl (fun b5322 b5323 => ?_))
                                refine wp_of e16 c16_256 (rw_bipush (pc' := 258) (z := 44) rfl (by decide) ?_)
                                refine wp_of e16 c16_258 (rw_icmp_ne (p1 := 265) (p2 := 261) (by decide) rfl ⟨by omega, by omega⟩ ⟨by omega, by omega⟩ (fun c5324 => ?_) (fun c5324 => ?_))
                                · refine wp_of e16 c16_265 (rw_iconst (pc' := 266) rfl ?_)
                                  refine wp_of e16 c16_266 (xp_I (pc' := 269) lf_2_41 w5290 g0 sh_4 (by decide) (by decide) ty_4_3 rfl rfl (by omega) (by omega) ⟨by omega, by omega⟩ rfl (fun H5325 e5326 w5327 => ?_))
                                  have f5328 := f5294.put' e5326 g0 rfl
                                  have k5329 : H5325 r0 3 = 5 := wq_u_s e5326
                                  refine wp_of e16 c16_269 (rw_iinc (pc' := 272) (z := v5288) (L' := [(1, vI (v5288 + 1)), (3, vI ((v5288 - (H5289 r0 4)) - (v4790 - (H4791 r0 4)))), (2, vI (v4790 - (H4791 r0 4))), (0, .ref r0)]) rfl rfl rfl rfl ?_)
                                  refine wp_of e16 c16_272 (rw_goto (p1 := 280) (by decide) ?_)
                                  refine wp_of e16 c16_280 (rw_aload_n (pc' := 281) (v := .ref r0) rfl rfl rfl ?_)
                                  refine wp_of e16 c16_281 (rw_iload_n (pc' := 282) (z := v5288 + 1) rfl rfl ?_)
                                  refine wp_of e16 c16_282 (xp_I (pc' := 285) lf_2_23 w5327 g0 sh_4 (by decide) (by decide) ty_4_2 rfl rfl (by omega) (by omega) ⟨by omega, by omega⟩ rfl (fun H5330 e5331 w5332 => ?_))
                                  have f5333 := f5328.put' e5331 g0 rfl
                                  have k5334 : H5330 r0 2 = v5288 + 1 := wq_u_s e5331
                                  exact wp_return e16 c16_285 rfl ⟨rfl, w5332, f5333, rfl⟩
                                · refine wp_of e16 c16_261 (rw_iconst (pc' := 262) rfl ?_)
                                  refine wp_of e16 c16_262 (rw_goto (p1 := 266) (by decide) ?_)
                                  refine wp_of e16 c16_266 (xp_I (pc' := 269) lf_2_41 w5290 g0 sh_4 (by decide) (by decide) ty_4_3 rfl rfl (by omega) (by omega) ⟨by omega, by omega⟩ rfl (fun H5335 e5336 w5337 => ?_))
                                  have f5338 := f5294.put' e5336 g0 rfl
                                  have k5339 : H5335 r0 3 = 4 := wq_u_s e5336
                                  refine wp_of e16 c16_269 (rw_iinc (pc' := 272) (z := v5288) (L' := [(1, vI (v5288 + 1)), (3, vI ((v5288 - (H5289 r0 4)) - (v4790 - (H4791 r0 4)))), (2, vI (v4790 - (H4791 r0 4))), (0, .ref r0)]) rfl rfl rfl rfl ?_)
                                  refine wp_of e16 c16_272 (rw_goto (p1 := 280) (by decide) ?_)
                                  refine wp_of e16 c16_280 (rw_aload_n (pc' := 281) (v := .ref r0) rfl rfl rfl ?_)
                                  refine wp_of e16 c16_281 (rw_iload_n (pc' := 282) (z := v5288 + 1) rfl rfl ?_)
                                  refine wp_of e16 c16_282 (xp_I (pc' := 285) lf_2_23 w5337 g0 sh_4 (by decide) (by decide) ty_4_2 rfl rfl (by omega) (by omega) ⟨by omega, by omega⟩ rfl (fun H5340 e5341 w5342 => ?_))
                                  have f5343 := f5338.put' e5341 g0 rfl
                                  have k5344 : H5340 r0 2 = v5288 + 1 := wq_u_s e5341
                                  exact wp_return e16 c16_285 rfl ⟨rfl, w5342, f5343, rfl⟩
                              · refine wp_of e16 c16_246 (rw_iconst (pc' := 247) rfl ?_)
                                refine wp_of e16 c16_247 (rw_goto (p1 := 266) (by decide) ?_)
                                refine wp_of e16 c16_266 (xp_I (pc' := 269) lf_2_41 w5290 g0 sh_4 (by decide) (by decide) ty_4_3 rfl rfl (by omega) (by omega) ⟨by omega, by omega⟩ rfl (fun H5345 e5346 w5347 => ?_))
                                have f5348 := f5294.put' e5346 g0 rfl
                                have k5349 : H5345 r0 3 = 3 := wq_u_s e5346
                                refine wp_of e16 c16_269 (rw_iinc (pc' := 272) (z := v5288) (L' := [(1, vI (v5288 + 1)), (3, vI ((v5288 - (H5289 r0 4)) - (v4790 - (H4791 r0 4)))), (2, vI (v4790 - (H4791 r0 4))), (0, .ref r0)]) rfl rfl rfl rfl ?_)
                                refine wp_of e16 c16_272 (rw_goto (p1 := 280) (by decide) ?_)
                                refine wp_of e16 c16_280 (rw_aload_n (pc' := 281) (v := .ref r0) rfl rfl rfl ?_)
                                refine wp_of e16 c16_281 (rw_iload_n (pc' := 282) (z := v5288 + 1) rfl rfl ?_)
                                refine wp_of e16 c16_282 (xp_I (pc' := 285) lf_2_23 w5347 g0 sh_4 (by decide) (by decide) ty_4_2 rfl rfl (by omega) (by omega) ⟨by omega, by omega⟩ rfl (fun H5350 e5351 w5352 => ?_))
                                have f5353 := f5348.put' e5351 g0 rfl
                                have k5354 : H5350 r0 2 = v5288 + 1 := wq_u_s e5351
                                exact wp_return e16 c16_285 rfl ⟨rfl, w5352, f5353, rfl⟩
                          · refine wp_of e16 c16_209 (rw_aload_n (pc' := 210) (v := .ref r0) rfl rfl rfl ?_)
                            refine wp_of e16 c16_210 (rw_iload_n (pc' := 211) (z := (v5288 - (H5289 r0 4)) - (v4790 - (H4791 r0 4))) rfl rfl ?_)
                            refine wp_of e16 c16_211 (rw_iconst (pc' := 212) rfl ?_)
                            refine wp_of e16 c16_212 (rw_icmp_gt (p1 := 219) (p2 := 215) (by decide) rfl ⟨by omega, by omega⟩ ⟨by omega, by omega⟩ (fun c5355 => ?_) (fun c5355 => ?_))
                            · refine wp_of e16 c16_219 (rw_iconst (pc' := 220) rfl ?_)
                              refine wp_of e16 c16_220 (xp_I (pc' := 223) lf_2_41 w5290 g0 sh_4 (by decide) (by decide) ty_4_3 rfl rfl (by omega) (by omega) ⟨by omega, by omega⟩ rfl (fun H5356 e5357 w5358 => ?_))
                              have f5359 := f5294.put' e5357 g0 rfl
                              have k5360 : H5356 r0 3 = 5 := wq_u_s e5357
                              refine wp_of e16 c16_223 (rw_goto (p1 := 280) (by decide) ?_)
                              refine wp_of e16 c16_280 (rw_aload_n (pc' := 281) (v := .ref r0) rfl rfl rfl ?_)
                              refine wp_of e16 c16_281 (rw_iload_n (pc' := 282) (z := v5288) rfl rfl ?_)
                              refine wp_of e16 c16_282 (xp_I (pc' := 285) lf_2_23 w5358 g0 sh_4 (by decide) (by decide) ty_4_2 rfl rfl (by omega) (by omega) ⟨by omega, by omega⟩ rfl (fun H5361 e5362 w5363 => ?_))
                              have f5364 := f5359.put' e5362 g0 rfl
                              have k5365 : H5361 r0 2 = v5288 := wq_u_s e5362
                              exact wp_return e16 c16_285 rfl ⟨rfl, w5363, f5364, rfl⟩
                            · refine wp_of e16 c16_215 (rw_iconst (pc' := 216) rfl ?_)
                              refine wp_of e16 c16_216 (rw_goto (p1 := 220) (by decide) ?_)
                              refine wp_of e16 c16_220 (xp_I (pc' := 223) lf_2_41 w5290 g0 sh_4 (by decide) (by decide) ty_4_3 rfl rfl (by omega) (by omega) ⟨by omega, by omega⟩ rfl (fun H5366 e5367 w5368 => ?_))
                              have f5369 := f5294.put' e5367 g0 rfl
                              have k5370 : H5366 r0 3 = 2 := wq_u_s e5367
                              refine wp_of e16 c16_223 (rw_goto (p1 := 280) (by decide) ?_)
                              refine wp_of e16 c16_280 (rw_aload_n (pc' := 281) (v := .ref r0) rfl rfl rfl ?_)
                              refine wp_of e16 c16_281 (rw_iload_n (pc' := 282) (z := v5288) rfl rfl ?_)
                              refine wp_of e16 c16_282 (xp_I (pc' := 285) lf_2_23 w5368 g0 sh_4 (by decide) (by decide) ty_4_2 rfl rfl (by omega) (by omega) ⟨by omega, by omega⟩ rfl (fun H5371 e5372 w5373 => ?_))
                              have f5374 := f5369.put' e5372 g0 rfl
                              have k5375 : H5371 r0 2 = v5288 := wq_u_s e5372
                              exact wp_return e16 c16_285 rfl ⟨rfl, w5373, f5374, rfl⟩
                        · refine wp_of e16 c16_187 (rw_aload_n (pc' := 188) (v := .ref r0) rfl rfl rfl ?_)
                          refine wp_of e16 c16_188 (rw_iload_n (pc' := 189) (z := v4790 - (H4791 r0 4)) rfl rfl ?_)
                          refine wp_of e16 c16_189 (rw_bipush (pc' := 191) (z := 8) rfl (by decide) ?_)
                          refine wp_of e16 c16_191 (rw_icmp_gt (p1 := 198) (p2 := 194) (by decide) rfl ⟨by omega, by omega⟩ ⟨by omega, by omega⟩ (fun c5376 => ?_) (fun c5376 => ?_))
                          · refine wp_of e16 c16_198 (rw_iconst (pc' := 199) rfl ?_)
                            refine wp_of e16 c16_199 (xp_I (pc' := 202) lf_2_41 w5290 g0 sh_4 (by decide) (by decide) ty_4_3 rfl rfl (by omega) (by omega) ⟨by omega, by omega⟩ rfl (fun H5377 e5378 w5379 => ?_))
                            have f5380 := f5294.put' e5378 g0 rfl
                            have k5381 : H5377 r0 3 = 5 := wq_u_s e5378
                            refine wp_of e16 c16_202 (rw_goto (p1 := 280) (by decide) ?_)
                            refine wp_of e16 c16_280 (rw_aload_n (pc' := 281) (v := .ref r0) rfl rfl rfl ?_)
                            refine wp_of e16 c16_281 (rw_iload_n (pc' := 282) (z := v5288) rfl rfl ?_)
                            refine wp_of e16 c16_282 (xp_I (pc' := 285) lf_2_23 w5379 g0 sh_4 (by decide) (by decide) ty_4_2 rfl rfl (by omega) (by omega) ⟨by omega, by omega⟩ rfl (fun H5382 e5383 w5384 => ?_))
                            have f5385 := f5380.put' e5383 g0 rfl
                            have k5386 : H5382 r0 2 = v5288 := wq_u_s e5383
                            exact wp_return e16 c16_285 rfl ⟨rfl, w5384, f5385, rfl⟩
                          · refine wp_of e16 c16_194 (rw_iconst (pc' := 195) rfl ?_)
                            refine wp_of e16 c16_195 (rw_goto (p1 := 199) (by decide) ?_)
                            refine wp_of e16 c16_199 (xp_I (pc' := 202) lf_2_41 w5290 g0 sh_4 (by decide) (by decide) ty_4_3 rfl rfl (by omega) (by omega) ⟨by omega, by omega⟩ rfl (fun H5387 e5388 w5389 => ?_))
                            have f5390 := f5294.put' e5388 g0 rfl
                            have k5391 : H5387 r0 3 = 1 := wq_u_s e5388
                            refine wp_of e16 c16_202 (rw_goto (p1 := 280) (by decide) ?_)
                            refine wp_of e16 c16_280 (rw_aload_n (pc' := 281) (v := .ref r0) rfl rfl rfl ?_)
                            refine wp_of e16 c16_281 (rw_iload_n (pc' := 282) (z := v5288) rfl rfl ?_)
                            refine wp_of e16 c16_282 (xp_I (pc' := 285) lf_2_23 w5389 g0 sh_4 (by decide) (by decide) ty_4_2 rfl rfl (by omega) (by omega) ⟨by omega, by omega⟩ rfl (fun H5392 e5393 w5394 => ?_))
                            have f5395 := f5390.put' e5393 g0 rfl
                            have k5396 : H5392 r0 2 = v5288 := wq_u_s e5393
                            exact wp_return e16 c16_285 rfl ⟨rfl, w5394, f5395, rfl⟩
                      · refine wp_of e16 c16_121 (rw_iload_n (pc' := 122) (z := v4790 - (H4791 r0 4)) rfl rfl ?_)
                        refine wp_of e16 c16_122 (rw_if_ne (p1 := 174) (p2 := 125) (by decide) rfl ⟨by omega, by omega⟩ (fun c5397 => ?_) (fun c5397 => ?_))
                        · refine wp_of e16 c16_174 (rw_iload_n (pc' := 175) (z := v5288) rfl rfl ?_)
                          refine wp_of e16 c16_175 (rw_aload_n (pc' := 176) (v := .ref r0) rfl rfl rfl ?_)
                          have k5398 : H5289 r0 4 = H4791 r0 4 := ((f5291 r0 4 _ g0 rfl).trans (wq_u_j e5232 rfl))
                          refine wp_of e16 c16_176 (xg_I (pc' := 179) lf_2_29 w5290 g0 sh_4 (by decide) (by decide) ty_4_4 rfl rfl (fun b5399 b5400 => ?_))
                          refine wp_of e16 c16_179 (rw_isub (pc' := 180) rfl ?_)
                          refine wp_of e16 c16_180 (rw_iload_n (pc' := 181) (z := v4790 - (H4791 r0 4)) rfl rfl ?_)
                          refine wp_of e16 c16_181 (rw_isub (pc' := 182) rfl ?_)
                          refine wp_of e16 c16_182 (rw_istore_n (pc' := 183) (z := (v5288 - (H5289 r0 4)) - (v4790 - (H4791 r0 4))) (L' := [(3, vI ((v5288 - (H5289 r0 4)) - (v4790 - (H4791 r0 4)))), (1, vI v5288), (2, vI (v4790 - (H4791 r0 4))), (0, .ref r0)]) rfl rfl rfl ?_)
                          refine wp_of e16 c16_183 (rw_iload_n (pc' := 184) (z := v4790 - (H4791 r0 4)) rfl rfl ?_)
                          refine wp_of e16 c16_184 (rw_if_le (p1 := 205) (p2 := 187) (by decide) rfl ⟨by omega, by omega⟩ (fun c5401 => ?_) (fun c5401 => ?_))
                          · refine wp_of e16 c16_205 (rw_iload_n (pc' := 206) (z := (v5288 - (H5289 r0 4)) - (v4790 - (H4791 r0 4))) rfl rfl ?_)
                            refine wp_of e16 c16_206 (rw_if_le (p1 := 226) (p2 := 209) (by decide) rfl ⟨by omega, by omega⟩ (fun c5402 => ?_) (fun c5402 => ?_))
                            · refine wp_of e16 c16_226 (rw_iload_n (pc' := 227) (z := v5288) rfl rfl ?_)
                              refine wp_of e16 c16_227 (rw_aload_n (pc' := 228) (v := .ref r0) rfl rfl rfl ?_)
                              refine wp_of e16 c16_228 (xg_I (pc' := 231) lf_2_19 w5290 g0 sh_4 (by decide) (by decide) ty_4_1 rfl rfl (fun b5403 b5404 => ?_))
                              refine wp_of e16 c16_231 (rw_icmp_ge (p1 := 275) (p2 := 234) (by decide) rfl ⟨by omega, by omega⟩ ⟨by omega, by omega⟩ (fun c5405 => ?_) (fun c5405 => ?_))
                              · refine wp_of e16 c16_275 (rw_aload_n (pc' := 276) (v := .ref r0) rfl rfl rfl ?_)
                                refine wp_of e16 c16_276 (rw_iconst (pc' := 277) rfl ?_)
                                refine wp_of e16 c16_277 (xp_I (pc' := 280) lf_2_41 w5290 g0 sh_4 (by decide) (by decide) ty_4_3 rfl rfl (by omega) (by omega) ⟨by omega, by omega⟩ rfl (fun H5406 e5407 w5408 => ?_))
                                have f5409 := f5294.put' e5407 g0 rfl
                                have k5410 : H5406 r0 3 = 0 := wq_u_s e5407
                                refine wp_of e16 c16_280 (rw_aload_n (pc' := 281) (v := .ref r0) rfl rfl rfl ?_)
                                refine wp_of e16 c16_281 (rw_iload_n (pc' := 282) (z := v5288) rfl rfl ?_)
                                refine wp_of e16 c16_282 (xp_I (pc' := 285) lf_2_23 w5408 g0 sh_4 (by decide) (by decide) ty_4_2 rfl rfl (by omega) (by omega) ⟨by omega, by omega⟩ rfl (fun H5411 e5412 w5413 => ?_))
                                have f5414 := f5409.put' e5412 g0 rfl
                                have k5415 : H5411 r0 2 = v5288 := wq_u_s e5412
                                exact wp_return e16 c16_285 rfl ⟨rfl, w5413, f5414, rfl⟩
                              · refine wp_of e16 c16_234 (rw_aload_n (pc' := 235) (v := .ref r0) rfl rfl rfl ?_)
                                refine wp_of e16 c16_235 (rw_aload_n (pc' := 236) (v := .ref r0) rfl rfl rfl ?_)
                                have k5416 : H5289 r0 0 = H4791 r0 0 := ((f5291 r0 0 _ g0 rfl).trans (wq_u_j e5232 rfl))
                                have q5417 : H5289 r0 0 = (rb : Int) := k5416.trans q5224
                                refine wp_of e16 c16_236 (xg_K (pc' := 239) lf_2_7 w5290 g0 sh_4 (by decide) (by decide) rfl q5417 rfl ?_)
                                refine wp_of e16 c16_239 (rw_iload_n (pc' := 240) (z := v5288) rfl rfl ?_)
                                refine wp_of e16 c16_240 (xa_B (by decide) (pc' := 241) w5290 grb sh_2 (by decide) (ty_2 _) (by omega) (by omega) rfl (fun b5418 b5419 => ?_))
                                refine wp_of e16 c16_241 (rw_bipush (pc' := 243) (z := 59) rfl (by decide) ?_)
                                refine wp_of e16 c16_243 (rw_icmp_ne (p1 := 250) (p2 := 246) (by decide) rfl ⟨by omega, by omega⟩ ⟨by omega, by omega⟩ (fun c5420 => ?_) (fun c5420 => ?_))
                                · refine wp_of e16 c16_250 (rw_aload_n (pc' := 251) (v := .ref r0) rfl rfl rfl ?_)
                                  refine wp_of e16 c16_251 (xg_K (pc' := 254) lf_2_7 w5290 g0 sh_4 (by decide) (by decide) rfl q5417 rfl ?_)
                                  refine wp_of e16 c16_254 (rw_iload_n (pc' := 255) (z := v5288) rfl rfl ?_)
                                  refine wp_of e16 c16_255 (xa_B (by decide) (pc' := 256) w5290 grb sh_2 (by decide) (ty_2 _) (by omega) (by omega) rfl (fun b5421 b5422 => ?_))
                                  refine wp_of e16 c16_256 (rw_bipush (pc' := 258) (z := 44) rfl (by decide) ?_)
                                  refine wp_of e16 c16_258 (rw_icmp_ne (p1 := 265) (p2 := 261) (by decide) rfl ⟨by omega, by omega⟩ ⟨by omega, by omega⟩ (fun c5423 => ?_) (fun c5423 => ?_))
                                  · refine wp_of e16 c16_265 (rw_iconst (pc' := 266) rfl ?_)
                                    refine wp_of e16 c16_266 (xp_I (pc' := 269) lf_2_41 w5290 g0 sh_4 (by decide) (by decide) ty_4_3 rfl rfl (by omega) (by omega) ⟨by omega, by omega⟩ rfl (fun H5424 e5425 w5426 => ?_))
                                    have f5427 := f5294.put' e5425 g0 rfl
                                    have k5428 : H5424 r0 3 = 5 := wq_u_s e5425
                                    refine wp_of e16 c16_269 (rw_iinc (pc' := 272) (z := v5288) (L' := [(1, vI (v5288 + 1)), (3, vI ((v5288 - (H5289 r0 4)) - (v4790 - (H4791 r0 4)))), (2, vI (v4790 - (H4791 r0 4))), (0, .ref r0)]) rfl rfl rfl rfl ?_)
                                    refine wp_of e16 c16_272 (rw_goto (p1 := 280) (by decide) ?_)
                                    refine wp_of e16 c16_280 (rw_aload_n (pc' := 281) (v := .ref r0) rfl rfl rfl ?_)
                                    refine wp_of e16 c16_281 (rw_iload_n (pc' := 282) (z := v5288 + 1) rfl rfl ?_)
                                    refine wp_of e16 c16_282 (xp_I (pc' := 285) lf_2_23 w5426 g0 sh_4 (by decide) (by decide) ty_4_2 rfl rfl (by omega) (by omega) ⟨by omega, by omega⟩ rfl (fun H5429 e5430 w5431 => ?_))
                                    have f5432 := f5427.put' e5430 g0 rfl
                                    have k5433 : H5429 r0 2 = v5288 + 1 := wq_u_s e5430
                                    exact wp_return e16 c16_285 rfl ⟨rfl, w5431, f5432, rfl⟩
                                  · refine wp_of e16 c16_261 (rw_iconst (pc' := 262) rfl ?_)
                                    refine wp_of e16 c16_262 (rw_goto (p1 := 266) (by decide) ?_)
                                    refine wp_of e16 c16_266 (xp_I (pc' := 269) lf_2_41 w5290 g0 sh_4 (by decide) (by decide) ty_4_3 rfl rfl (by omega) (by omega) ⟨by omega, by omega⟩ rfl (fun H5434 e5435 w5436 => ?_))
                                    have f5437 := f5294.put' e5435 g0 rfl
                                    have k5438 : H5434 r0 3 = 4 := wq_u_s e5435
                                    refine wp_of e16 c16_269 (rw_iinc (pc' := 272) (z := v5288) (L' := [(1, vI (v5288 + 1)), (3, vI ((v5288 - (H5289 r0 4)) - (v4790 - (H4791 r0 4)))), (2, vI (v4790 - (H4791 r0 4))), (0, .ref r0)]) rfl rfl rfl rfl ?_)
                                    refine wp_of e16 c16_272 (rw_goto (p1 := 280) (by decide) ?_)
                                    refine wp_of e16 c16_280 (rw_aload_n (pc' := 281) (v := .ref r0) rfl rfl rfl ?_)
                                    refine wp_of e16 c16_281 (rw_iload_n (pc' := 282) (z := v5288 + 1) rfl rfl ?_)
                                    refine wp_of e16 c16_282 (xp_I (pc' := 285) lf_2_23 w5436 g0 sh_4 (by decide) (by decide) ty_4_2 rfl rfl (by omega) (by omega) ⟨by omega, by omega⟩ rfl (fun H5439 e5440 w5441 => ?_))
                                    have f5442 := f5437.put' e5440 g0 rfl
                                    have k5443 : H5439 r0 2 = v5288 + 1 := wq_u_s e5440
                                    exact wp_return e16 c16_285 rfl ⟨rfl, w5441, f5442, rfl⟩
                                · refine wp_of e16 c16_246 (rw_iconst (pc' := 247) rfl ?_)
                                  refine wp_of e16 c16_247 (rw_goto (p1 := 266) (by decide) ?_)
                                  refine wp_of e16 c16_266 (xp_I (pc' := 269) lf_2_41 w5290 g0 sh_4 (by decide) (by decide) ty_4_3 rfl rfl (by omega) (by omega) ⟨by omega, by omega⟩ rfl (fun H5444 e5445 w5446 => ?_))
                                  have f5447 := f5294.put' e5445 g0 rfl
                                  have k5448 : H5444 r0 3 = 3 := wq_u_s e5445
                                  refine wp_of e16 c16_269 (rw_iinc (pc' := 272) (z := v5288) (L' := [(1, vI (v5288 + 1)), (3, vI ((v5288 - (H5289 r0 4)) - (v4790 - (H4791 r0 4)))), (2, vI (v4790 - (H4791 r0 4))), (0, .ref r0)]) rfl rfl rfl rfl ?_)
                                  refine wp_of e16 c16_272 (rw_goto (p1 := 280) (by decide) ?_)
                                  refine wp_of e16 c16_280 (rw_aload_n (pc' := 281) (v := .ref r0) rfl rfl rfl ?_)
                                  refine wp_of e16 c16_281 (rw_iload_n (pc' := 282) (z := v5288 + 1) rfl rfl ?_)
                                  refine wp_of e16 c16_282 (xp_I (pc' := 285) lf_2_23 w5446 g0 sh_4 (by decide) (by decide) ty_4_2 rfl rfl (by omega) (by omega) ⟨by omega, by omega⟩ rfl (fun H5449 e5450 w5451 => ?_))
                                  have f5452 := f5447.put' e5450 g0 rfl
                                  have k5453 : H5449 r0 2 = v5288 + 1 := wq_u_s e5450
                                  exact wp_return e16 c16_285 rfl ⟨rfl, w5451, f5452, rfl⟩
                            · refine wp_of e16 c16_209 (rw_aload_n (pc' := 210) (v := .ref r0) rfl rfl rfl ?_)
                              refine wp_of e16 c16_210 (rw_iload_n (pc' := 211) (z := (v5288 - (H5289 r0 4)) - (v4790 - (H4791 r0 4))) rfl rfl ?_)
                              refine wp_of e16 c16_211 (rw_iconst (pc' := 212) rfl ?_)
                              refine wp_of e16 c16_212 (rw_icmp_gt (p1 := 219) (p2 := 215) (by decide) rfl ⟨by omega, by omega⟩ ⟨by omega, by omega⟩ (fun c5454 => ?_) (fun c5454 => ?_))
                              · refine wp_of e16 c16_219 (rw_iconst (pc' := 220) rfl ?_)
                                refine wp_of e16 c16_220 (xp_I (pc' := 223) lf_2_41 w5290 g0 sh_4 (by decide) (by decide) ty_4_3 rfl rfl (by omega) (by omega) ⟨by omega, by omega⟩ rfl (fun H5455 e5456 w5457 => ?_))
                                have f5458 := f5294.put' e5456 g0 rfl
                                have k5459 : H5455 r0 3 = 5 := wq_u_s e5456
                                refine wp_of e16 c16_223 (rw_goto (p1 := 280) (by decide) ?_)
                                refine wp_of e16 c16_280 (rw_aload_n (pc' := 281) (v := .ref r0) rfl rfl rfl ?_)
                                refine wp_of e16 c16_281 (rw_iload_n (pc' := 282) (z := v5288) rfl rfl ?_)
                                refine wp_of e16 c16_282 (xp_I (pc' := 285) lf_2_23 w5457 g0 sh_4 (by decide) (by decide) ty_4_2 rfl rfl (by omega) (by omega) ⟨by omega, by omega⟩ rfl (fun H5460 e5461 w5462 => ?_))
                                have f5463 := f5458.put' e5461 g0 rfl
                                have k5464 : H5460 r0 2 = v5288 := wq_u_s e5461
                                exact wp_return e16 c16_285 rfl ⟨rfl, w5462, f5463, rfl⟩
                              · refine wp_of e16 c16_215 (rw_iconst (pc' := 216) rfl ?_)
                                refine wp_of e16 c16_216 (rw_goto (p1 := 220) (by decide) ?_)
                                refine wp_of e16 c16_220 (xp_I (pc' := 223) lf_2_41 w5290 g0 sh_4 (by decide) (by decide) ty_4_3 rfl rfl (by omega) (by omega) ⟨by omega, by omega⟩ rfl (fun H5465 e5466 w5467 => ?_))
                                have f5468 := f5294.put' e5466 g0 rfl
                                have k5469 : H5465 r0 3 = 2 := wq_u_s e5466
                                refine wp_of e16 c16_223 (rw_goto (p1 := 280) (by decide) ?_)
                                refine wp_of e16 c16_280 (rw_aload_n (pc' := 281) (v := .ref r0) rfl rfl rfl ?_)
                                refine wp_of e16 c16_281 (rw_iload_n (pc' := 282) (z := v5288) rfl rfl ?_)
                                refine wp_of e16 c16_282 (xp_I (pc' := 285) lf_2_23 w5467 g0 sh_4 (by decide) (by decide) ty_4_2 rfl rfl (by omega) (by omega) ⟨by omega, by omega⟩ rfl (fun H5470 e5471 w5472 => ?_))
                                have f5473 := f5468.put' e5471 g0 rfl
                                have k5474 : H5470 r0 2 = v5288 := wq_u_s e5471
                                exact wp_return e16 c16_285 rfl ⟨rfl, w5472, f5473, rfl⟩
                          · refine wp_of e16 c16_187 (rw_aload_n (pc' := 188) (v := .ref r0) rfl rfl rfl ?_)
                            refine wp_of e16 c16_188 (rw_iload_n (pc' := 189) (z := v4790 - (H4791 r0 4)) rfl rfl ?_)
                            refine wp_of e16 c16_189 (rw_bipush (pc' := 191) (z := 8) rfl (by decide) ?_)
                            refine wp_of e16 c16_191 (rw_icmp_gt (p1 := 198) (p2 := 194) (by decide) rfl ⟨by omega, by omega⟩ ⟨by omega, by omega⟩ (fun c5475 => ?_) (fun c5475 => ?_))
                            · refine wp_of e16 c16_198 (rw_iconst (pc' := 199) rfl ?_)
                              refine wp_of e16 c16_199 (xp_I (pc' := 202) lf_2_41 w5290 g0 sh_4 (by decide) (by decide) ty_4_3 rfl rfl (by omega) (by omega) ⟨by omega, by omega⟩ rfl (fun H5476 e5477 w5478 => ?_))
                              have f5479 := f5294.put' e5477 g0 rfl
                              have k5480 : H5476 r0 3 = 5 := wq_u_s e5477
                              refine wp_of e16 c16_202 (rw_goto (p1 := 280) (by decide) ?_)
                              refine wp_of e16 c16_280 (rw_aload_n (pc' := 281) (v := .ref r0) rfl rfl rfl ?_)
                              refine wp_of e16 c16_281 (rw_iload_n (pc' := 282) (z := v5288) rfl rfl ?_)
                              refine wp_of e16 c16_282 (xp_I (pc' := 285) lf_2_23 w5478 g0 sh_4 (by decide) (by decide) ty_4_2 rfl rfl (by omega) (by omega) ⟨by omega, by omega⟩ rfl (fun H5481 e5482 w5483 => ?_))
                              have f5484 := f5479.put' e5482 g0 rfl
                              have k5485 : H5481 r0 2 = v5288 := wq_u_s e5482
                              exact wp_return e16 c16_285 rfl ⟨rfl, w5483, f5484, rfl⟩
                            · refine wp_of e16 c16_194 (rw_iconst (pc' := 195) rfl ?_)
                              refine wp_of e16 c16_195 (rw_goto (p1 := 199) (by decide) ?_)
                              refine wp_of e16 c16_199 (xp_I (pc' := 202) lf_2_41 w5290 g0 sh_4 (by decide) (by decide) ty_4_3 rfl rfl (by omega) (by omega) ⟨by omega, by omega⟩ rfl (fun H5486 e5487 w5488 => ?_))
                              have f5489 := f5294.put' e5487 g0 rfl
                              have k5490 : H5486 r0 3 = 1 := wq_u_s e5487
                              refine wp_of e16 c16_202 (rw_goto (p1 := 280) (by decide) ?_)
                              refine wp_of e16 c16_280 (rw_aload_n (pc' := 281) (v := .ref r0) rfl rfl rfl ?_)
                              refine wp_of e16 c16_281 (rw_iload_n (pc' := 282) (z := v5288) rfl rfl ?_)
                              refine wp_of e16 c16_282 (xp_I (pc' := 285) lf_2_23 w5488 g0 sh_4 (by decide) (by decide) ty_4_2 rfl rfl (by omega) (by omega) ⟨by omega, by omega⟩ rfl (fun H5491 e5492 w5493 => ?_))
                              have f5494 := f5489.put' e5492 g0 rfl
                              have k5495 : H5491 r0 2 = v5288 := wq_u_s e5492
                              exact wp_return e16 c16_285 rfl ⟨rfl, w5493, f5494, rfl⟩
                        · refine wp_of e16 c16_125 (rw_aload_n (pc' := 126) (v := .ref r0) rfl rfl rfl ?_)
                          have k5496 : H5289 r0 0 = H4791 r0 0 := ((f5291 r0 0 _ g0 rfl).trans (wq_u_j e5232 rfl))
                          have q5497 : H5289 r0 0 = (rb : Int) := k5496.trans q5224
                          refine wp_of e16 c16_126 (xg_K (pc' := 129) lf_2_7 w5290 g0 sh_4 (by decide) (by decide) rfl q5497 rfl ?_)
                          refine wp_of e16 c16_129 (rw_iload_n (pc' := 130) (z := v5288) rfl rfl ?_)
                          refine wp_of e16 c16_130 (xa_B (by decide) (pc' := 131) w5290 grb sh_2 (by decide) (ty_2 _) (by omega) (by omega) rfl (fun b5498 b5499 => ?_))
                          refine wp_of e16 c16_131 (rw_bipush (pc' := 133) (z := 48) rfl (by decide) ?_)
                          refine wp_of e16 c16_133 (rw_icmp_lt (p1 := 174) (p2 := 136) (by decide) rfl ⟨by omega, by omega⟩ ⟨by omega, by omega⟩ (fun c5500 => ?_) (fun c5500 => ?_))
                          · refine wp_of e16 c16_174 (rw_iload_n (pc' := 175) (z := v5288) rfl rfl ?_)
                            refine wp_of e16 c16_175 (rw_aload_n (pc' := 176) (v := .ref r0) rfl rfl rfl ?_)
                            have k5501 : H5289 r0 4 = H4791 r0 4 := ((f5291 r0 4 _ g0 rfl).trans (wq_u_j e5232 rfl))
                            refine wp_of e16 c16_176 (xg_I (pc' := 179) lf_2_29 w5290 g0 sh_4 (by decide) (by decide) ty_4_4 rfl rfl (fun b5502 b5503 => ?_))
                            refine wp_of e16 c16_179 (rw_isub (pc' := 180) rfl ?_)
                            refine wp_of e16 c16_180 (rw_iload_n (pc' := 181) (z := v4790 - (H4791 r0 4)) rfl rfl ?_)
                            refine wp_of e16 c16_181 (rw_isub (pc' := 182) rfl ?_)
                            refine wp_of e16 c16_182 (rw_istore_n (pc' := 183) (z := (v5288 - (H5289 r0 4)) - (v4790 - (H4791 r0 4))) (L' := [(3, vI ((v5288 - (H5289 r0 4)) - (v4790 - (H4791 r0 4)))), (1, vI v5288), (2, vI (v4790 - (H4791 r0 4))), (0, .ref r0)]) rfl rfl rfl ?_)
                            refine wp_of e16 c16_183 (rw_iload_n (pc' := 184) (z := v4790 - (H4791 r0 4)) rfl rfl ?_)
                            refine wp_of e16 c16_184 (rw_if_le (p1 := 205) (p2 := 187) (by decide) rfl ⟨by omega, by omega⟩ (fun c5504 => ?_) (fun c5504 => ?_))
                            · refine wp_of e16 c16_205 (rw_iload_n (pc' := 206) (z := (v5288 - (H5289 r0 4)) - (v4790 - (H4791 r0 4))) rfl rfl ?_)
                              refine wp_of e16 c16_206 (rw_if_le (p1 := 226) (p2 := 209) (by decide) rfl ⟨by omega, by omega⟩ (fun c5505 => ?_) (fun c5505 => ?_))
                              · refine wp_of e16 c16_226 (rw_iload_n (pc' := 227) (z := v5288) rfl rfl ?_)
                                refine wp_of e16 c16_227 (rw_aload_n (pc' := 228) (v := .ref r0) rfl rfl rfl ?_)
                                refine wp_of e16 c16_228 (xg_I (pc' := 231) lf_2_19 w5290 g0 sh_4 (by decide) (by decide) ty_4_1 rfl rfl (fun b5506 b5507 => ?_))
                                refine wp_of e16 c16_231 (rw_icmp_ge (p1 := 275) (p2 := 234) (by decide) rfl ⟨by omega, by omega⟩ ⟨by omega, by omega⟩ (fun c5508 => ?_) (fun c5508 => ?_))
                                · refine wp_of e16 c16_275 (rw_aload_n (pc' := 276) (v := .ref r0) rfl rfl rfl ?_)
                                  refine wp_of e16 c16_276 (rw_iconst (pc' := 277) rfl ?_)
                                  refine wp_of e16 c16_277 (xp_I (pc' := 280) lf_2_41 w5290 g0 sh_4 (by decide) (by decide) ty_4_3 rfl rfl (by omega) (by omega) ⟨by omega, by omega⟩ rfl (fun H5509 e5510 w5511 => ?_))
                                  have f5512 := f5294.put' e5510 g0 rfl
                                  have k5513 : H5509 r0 3 = 0 := wq_u_s e5510
                                  refine wp_of e16 c16_280 (rw_aload_n (pc' := 281) (v := .ref r0) rfl rfl rfl ?_)
                                  refine wp_of e16 c16_281 (rw_iload_n (pc' := 282) (z := v5288) rfl rfl ?_)
                                  refine wp_of e16 c16_282 (xp_I (pc' := 285) lf_2_23 w5511 g0 sh_4 (by decide) (by decide) ty_4_2 rfl rfl (by omega) (by omega) ⟨by omega, by omega⟩ rfl (fun H5514 e5515 w5516 => ?_))
                                  have f5517 := f5512.put' e5515 g0 rfl
                                  have k5518 : H5514 r0 2 = v5288 := wq_u_s e5515
                                  exact wp_return e16 c16_285 rfl ⟨rfl, w5516, f5517, rfl⟩
                                · refine wp_of e16 c16_234 (rw_aload_n (pc' := 235) (v := .ref r0) rfl rfl rfl ?_)
                                  refine wp_of e16 c16_235 (rw_aload_n (pc' := 236) (v := .ref r0) rfl rfl rfl ?_)
                                  refine wp_of e16 c16_236 (xg_K (pc' := 239) lf_2_7 w5290 g0 sh_4 (by decide) (by decide) rfl q5497 rfl ?_)
                                  refine wp_of e16 c16_239 (rw_iload_n (pc' := 240) (z := v5288) rfl rfl ?_)
                                  refine wp_of e16 c16_240 (xa_B (by decide) (pc' := 241) w5290 grb sh_2 (by decide) (ty_2 _) (by omega) (by omega) rfl (fun b5519 b5520 => ?_))
                                  refine wp_of e16 c16_241 (rw_bipush (pc' := 243) (z := 59) rfl (by decide) ?_)
                                  refine wp_of e16 c16_243 (rw_icmp_ne (p1 := 250) (p2 := 246) (by decide) rfl ⟨by omega, by omega⟩ ⟨by omega, by omega⟩ (fun c5521 => ?_) (fun c5521 => ?_))
                                  · refine wp_of e16 c16_250 (rw_aload_n (pc' := 251) (v := .ref r0) rfl rfl rfl ?_)
                                    refine wp_of e16 c16_251 (xg_K (pc' := 254) lf_2_7 w5290 g0 sh_4 (by decide) (by decide) rfl q5497 rfl ?_)
                                    refine wp_of e16 c16_254 (rw_iload_n (pc' := 255) (z := v5288) rfl rfl ?_)
                                    refine wp_of e16 c16_255 (xa_B (by decide) (pc' := 256) w5290 grb sh_2 (by decide) (ty_2 _) (by omega) (by omega) rfl (fun b5522 b5523 => ?_))
                                    refine wp_of e16 c16_256 (rw_bipush (pc' := 258) (z := 44) rfl (by decide) ?_)
                                    refine wp_of e16 c16_258 (rw_icmp_ne (p1 := 265) (p2 := 261) (by decide) rfl ⟨by omega, by omega⟩ ⟨by omega, by omega⟩ (fun c5524 => ?_) (fun c5524 => ?_))
                                    · refine wp_of e16 c16_265 (rw_iconst (pc' := 266) rfl ?_)
                                      refine wp_of e16 c16_266 (xp_I (pc' := 269) lf_2_41 w5290 g0 sh_4 (by decide) (by decide) ty_4_3 rfl rfl (by omega) (by omega) ⟨by omega, by omega⟩ rfl (fun H5525 e5526 w5527 => ?_))
                                      have f5528 := f5294.put' e5526 g0 rfl
                                      have k5529 : H5525 r0 3 = 5 := wq_u_s e5526
                                      refine wp_of e16 c16_269 (rw_iinc (pc' := 272) (z := v5288) (L' := [(1, vI (v5288 + 1)), (3, vI ((v5288 - (H5289 r0 4)) - (v4790 - (H4791 r0 4)))), (2, vI (v4790 - (H4791 r0 4))), (0, .ref r0)]) rfl rfl rfl rfl ?_)
                                      refine wp_of e16 c16_272 (rw_goto (p1 := 280) (by decide) ?_)
                                      refine wp_of e16 c16_280 (rw_aload_n (pc' := 281) (v := .ref r0) rfl rfl rfl ?_)
                                      refine wp_of e16 c16_281 (rw_iload_n (pc' := 282) (z := v5288 + 1) rfl rfl ?_)
                                      refine wp_of e16 c16_282 (xp_I (pc' := 285) lf_2_23 w5527 g0 sh_4 (by decide) (by decide) ty_4_2 rfl rfl (by omega) (by omega) ⟨by omega, by omega⟩ rfl (fun H5530 e5531 w5532 => ?_))
                                      have f5533 := f5528.put' e5531 g0 rfl
                                      have k5534 : H5530 r0 2 = v5288 + 1 := wq_u_s e5531
                                      exact wp_return e16 c16_285 rfl ⟨rfl, w5532, f5533, rfl⟩
                                    · refine wp_of e16 c16_261 (rw_iconst (pc' := 262) rfl ?_)
                                      refine wp_of e16 c16_262 (rw_goto (p1 := 266) (by decide) ?_)
                                      refine wp_of e16 c16_266 (xp_I (pc' := 269) lf_2_41 w5290 g0 sh_4 (by decide) (by decide) ty_4_3 rfl rfl (by omega) (by omega) ⟨by omega, by omega⟩ rfl (fun H5535 e5536 w5537 => ?_))
                                      have f5538 := f5294.put' e5536 g0 rfl
                                      have k5539 : H5535 r0 3 = 4 := wq_u_s e5536
                                      refine wp_of e16 c16_269 (rw_iinc (pc' := 272) (z := v5288) (L' := [(1, vI (v5288 + 1)), (3, vI ((v5288 - (H5289 r0 4)) - (v4790 - (H4791 r0 4)))), (2, vI (v4790 - (H4791 r0 4))), (0, .ref r0)]) rfl rfl rfl rfl ?_)
                                      refine wp_of e16 c16_272 (rw_goto (p1 := 280) (by decide) ?_)
                                      refine wp_of e16 c16_280 (rw_aload_n (pc' := 281) (v := .ref r0) rfl rfl rfl ?_)
                                      refine wp_of e16 c16_281 (rw_iload_n (pc' := 282) (z := v5288 + 1) rfl rfl ?_)
                                      refine wp_of e16 c16_282 (xp_I (pc' := 285) lf_2_23 w5537 g0 sh_4 (by decide) (by decide) ty_4_2 rfl rfl (by omega) (by omega) ⟨by omega, by omega⟩ rfl (fun H5540 e5541 w5542 => ?_))
                                      have f5543 := f5538.put' e5541 g0 rfl
                                      have k5544 : H5540 r0 2 = v5288 + 1 := wq_u_s e5541
                                      exact wp_return e16 c16_285 rfl ⟨rfl, w5542, f5543, rfl⟩
                                  · exfalso
                                    omega
                              · refine wp_of e16 c16_209 (rw_aload_n (pc' := 210) (v := .ref r0) rfl rfl rfl ?_)
                                refine wp_of e16 c16_210 (rw_iload_n (pc' := 211) (z := (v5288 - (H5289 r0 4)) - (v4790 - (H4791 r0 4))) rfl rfl ?_)
                                refine wp_of e16 c16_211 (rw_iconst (pc' := 212) rfl ?_)
                                refine wp_of e16 c16_212 (rw_icmp_gt (p1 := 219) (p2 := 215) (by decide) rfl ⟨by omega, by omega⟩ ⟨by omega, by omega⟩ (fun c5545 => ?_) (fun c5545 => ?_))
                                · refine wp_of e16 c16_219 (rw_iconst (pc' := 220) rfl ?_)
                                  refine wp_of e16 c16_220 (xp_I (pc' := 223) lf_2_41 w5290 g0 sh_4 (by decide) (by decide) ty_4_3 rfl rfl (by omega) (by omega) ⟨by omega, by omega⟩ rfl (fun H5546 e5547 w5548 => ?_))
                                  have f5549 := f5294.put' e5547 g0 rfl
                                  have k5550 : H5546 r0 3 = 5 := wq_u_s e5547
                                  refine wp_of e16 c16_223 (rw_goto (p1 := 280) (by decide) ?_)
                                  refine wp_of e16 c16_280 (rw_aload_n (pc' := 281) (v := .ref r0) rfl rfl rfl ?_)
                                  refine wp_of e16 c16_281 (rw_iload_n (pc' := 282) (z := v5288) rfl rfl ?_)
                                  refine wp_of e16 c16_282 (xp_I (pc' := 285) lf_2_23 w5548 g0 sh_4 (by decide) (by decide) ty_4_2 rfl rfl (by omega) (by omega) ⟨by omega, by omega⟩ rfl (fun H5551 e5552 w5553 => ?_))
                                  have f5554 := f5549.put' e5552 g0 rfl
                                  have k5555 : H5551 r0 2 = v5288 := wq_u_s e5552
                                  exact wp_return e16 c16_285 rfl ⟨rfl, w5553, f5554, rfl⟩
                                · refine wp_of e16 c16_215 (rw_iconst (pc' := 216) rfl ?_)
                                  refine wp_of e16 c16_216 (rw_goto (p1 := 220) (by decide) ?_)
                                  refine wp_of e16 c16_220 (xp_I (pc' := 223) lf_2_41 w5290 g0 sh_4 (by decide) (by decide) ty_4_3 rfl rfl (by omega) (by omega) ⟨by omega, by omega⟩ rfl (fun H5556 e5557 w5558 => ?_))
                                  have f5559 := f5294.put' e5557 g0 rfl
                                  have k5560 : H5556 r0 3 = 2 := wq_u_s e5557
                                  refine wp_of e16 c16_223 (rw_goto (p1 := 280) (by decide) ?_)
                                  refine wp_of e16 c16_280 (rw_aload_n (pc' := 281) (v := .ref r0) rfl rfl rfl ?_)
                                  refine wp_of e16 c16_281 (rw_iload_n (pc' := 282) (z := v5288) rfl rfl ?_)
                                  refine wp_of e16 c16_282 (xp_I (pc' := 285) lf_2_23 w5558 g0 sh_4 (by decide) (by decide) ty_4_2 rfl rfl (by omega) (by omega) ⟨by omega, by omega⟩ rfl (fun H5561 e5562 w5563 => ?_))
                                  have f5564 := f5559.put' e5562 g0 rfl
                                  have k5565 : H5561 r0 2 = v5288 := wq_u_s e5562
                                  exact wp_return e16 c16_285 rfl ⟨rfl, w5563, f5564, rfl⟩
                            · exfalso
                              omega
                          · refine wp_of e16 c16_136 (rw_aload_n (pc' := 137) (v := .ref r0) rfl rfl rfl ?_)
                            refine wp_of e16 c16_137 (xg_K (pc' := 140) lf_2_7 w5290 g0 sh_4 (by decide) (by decide) rfl q5497 rfl ?_)
                            refine wp_of e16 c16_140 (rw_iload_n (pc' := 141) (z := v5288) rfl rfl ?_)
                            refine wp_of e16 c16_141 (xa_B (by decide) (pc' := 142) w5290 grb sh_2 (by decide) (ty_2 _) (by omega) (by omega) rfl (fun b5566 b5567 => ?_))
                            refine wp_of e16 c16_142 (rw_bipush (pc' := 144) (z := 57) rfl (by decide) ?_)
                            refine wp_of e16 c16_144 (rw_icmp_gt (p1 := 174) (p2 := 147) (by decide) rfl ⟨by omega, by omega⟩ ⟨by omega, by omega⟩ (fun c5568 => ?_) (fun c5568 => ?_))
                            · refine wp_of e16 c16_174 (rw_iload_n (pc' := 175) (z := v5288) rfl rfl ?_)
                              refine wp_of e16 c16_175 (rw_aload_n (pc' := 176) (v := .ref r0) rfl rfl rfl ?_)
                              have k5569 : H5289 r0 4 = H4791 r0 4 := ((f5291 r0 4 _ g0 rfl).trans (wq_u_j e5232 rfl))
                              refine wp_of e16 c16_176 (xg_I (pc' := 179) lf_2_29 w5290 g0 sh_4 (by decide) (by decide) ty_4_4 rfl rfl (fun b5570 b5571 => ?_))
                              refine wp_of e16 c16_179 (rw_isub (pc' := 180) rfl ?_)
                              refine wp_of e16 c16_180 (rw_iload_n (pc' := 181) (z := v4790 - (H4791 r0 4)) rfl rfl ?_)
                              refine wp_of e16 c16_181 (rw_isub (pc' := 182) rfl ?_)
                              refine wp_of e16 c16_182 (rw_istore_n (pc' := 183) (z := (v5288 - (H5289 r0 4)) - (v4790 - (H4791 r0 4))) (L' := [(3, vI ((v5288 - (H5289 r0 4)) - (v4790 - (H4791 r0 4)))), (1, vI v5288), (2, vI (v4790 - (H4791 r0 4))), (0, .ref r0)]) rfl rfl rfl ?_)
                              refine wp_of e16 c16_183 (rw_iload_n (pc' := 184) (z := v4790 - (H4791 r0 4)) rfl rfl ?_)
                              refine wp_of e16 c16_184 (rw_if_le (p1 := 205) (p2 := 187) (by decide) rfl ⟨by omega, by omega⟩ (fun c5572 => ?_) (fun c5572 => ?_))
                              · refine wp_of e16 c16_205 (rw_iload_n (pc' := 206) (z := (v5288 - (H5289 r0 4)) - (v4790 - (H4791 r0 4))) rfl rfl ?_)
                                refine wp_of e16 c16_206 (rw_if_le (p1 := 226) (p2 := 209) (by decide) rfl ⟨by omega, by omega⟩ (fun c5573 => ?_) (fun c5573 => ?_))
                                · refine wp_of e16 c16_226 (rw_iload_n (pc' := 227) (z := v5288) rfl rfl ?_)
                                  refine wp_of e16 c16_227 (rw_aload_n (pc' := 228) (v := .ref r0) rfl rfl rfl ?_)
                                  refine wp_of e16 c16_228 (xg_I (pc' := 231) lf_2_19 w5290 g0 sh_4 (by decide) (by decide) ty_4_1 rfl rfl (fun b5574 b5575 => ?_))
                                  refine wp_of e16 c16_231 (rw_icmp_ge (p1 := 275) (p2 := 234) (by decide) rfl ⟨by omega, by omega⟩ ⟨by omega, by omega⟩ (fun c5576 => ?_) (fun c5576 => ?_))
                                  · refine wp_of e16 c16_275 (rw_aload_n (pc' := 276) (v := .ref r0) rfl rfl rfl ?_)
                                    refine wp_of e16 c16_276 (rw_iconst (pc' := 277) rfl ?_)
                                    refine wp_of e16 c16_277 (xp_I (pc' := 280) lf_2_41 w5290 g0 sh_4 (by decide) (by decide) ty_4_3 rfl rfl (by omega) (by omega) ⟨by omega, by omega⟩ rfl (fun H5577 e5578 w5579 => ?_))
                                    have f5580 := f5294.put' e5578 g0 rfl
                                    have k5581 : H5577 r0 3 = 0 := wq_u_s e5578
                                    refine wp_of e16 c16_280 (rw_aload_n (pc' := 281) (v := .ref r0) rfl rfl rfl ?_)
                                    refine wp_of e16 c16_281 (rw_iload_n (pc' := 282) (z := v5288) rfl rfl ?_)
                                    refine wp_of e16 c16_282 (xp_I (pc' := 285) lf_2_23 w5579 g0 sh_4 (by decide) (by decide) ty_4_2 rfl rfl (by omega) (by omega) ⟨by omega, by omega⟩ rfl (fun H5582 e5583 w5584 => ?_))
                                    have f5585 := f5580.put' e5583 g0 rfl
                                    have k5586 : H5582 r0 2 = v5288 := wq_u_s e5583
                                    exact wp_return e16 c16_285 rfl ⟨rfl, w5584, f5585, rfl⟩
                                  · refine wp_of e16 c16_234 (rw_aload_n (pc' := 235) (v := .ref r0) rfl rfl rfl ?_)
                                    refine wp_of e16 c16_235 (rw_aload_n (pc' := 236) (v := .ref r0) rfl rfl rfl ?_)
                                    refine wp_of e16 c16_236 (xg_K (pc' := 239) lf_2_7 w5290 g0 sh_4 (by decide) (by decide) rfl q5497 rfl ?_)
                                    refine wp_of e16 c16_239 (rw_iload_n (pc' := 240) (z := v5288) rfl rfl ?_)
                                    refine wp_of e16 c16_240 (xa_B (by decide) (pc' := 241) w5290 grb sh_2 (by decide) (ty_2 _) (by omega) (by omega) rfl (fun b5587 b5588 => ?_))
                                    refine wp_of e16 c16_241 (rw_bipush (pc' := 243) (z := 59) rfl (by decide) ?_)
                                    refine wp_of e16 c16_243 (rw_icmp_ne (p1 := 250) (p2 := 246) (by decide) rfl ⟨by omega, by omega⟩ ⟨by omega, by omega⟩ (fun c5589 => ?_) (fun c5589 => ?_))
                                    · refine wp_of e16 c16_250 (rw_aload_n (pc' := 251) (v := .ref r0) rfl rfl rfl ?_)
                                      refine wp_of e16 c16_251 (xg_K (pc' := 254) lf_2_7 w5290 g0 sh_4 (by decide) (by decide) rfl q5497 rfl ?_)
                                      refine wp_of e16 c16_254 (rw_iload_n (pc' := 255) (z := v5288) rfl rfl ?_)
                                      refine wp_of e16 c16_255 (xa_B (by decide) (pc' := 256) w5290 grb sh_2 (by decide) (ty_2 _) (by omega) (by omega) rfl (fun b5590 b5591 => ?_))
                                      refine wp_of e16 c16_256 (rw_bipush (pc' := 258) (z := 44) rfl (by decide) ?_)
                                      refine wp_of e16 c16_258 (rw_icmp_ne (p1 := 265) (p2 := 261) (by decide) rfl ⟨by omega, by omega⟩ ⟨by omega, by omega⟩ (fun c5592 => ?_) (fun c5592 => ?_))
                                      · refine wp_of e16 c16_265 (rw_iconst (pc' := 266) rfl ?_)
                                        refine wp_of e16 c16_266 (xp_I (pc' := 269) lf_2_41 w5290 g0 sh_4 (by decide) (by decide) ty_4_3 rfl rfl (by omega) (by omega) ⟨by omega, by omega⟩ rfl (fun H5593 e5594 w5595 => ?_))
                                        have f5596 := f5294.put' e5594 g0 rfl
                                        have k5597 : H5593 r0 3 = 5 := wq_u_s e5594
                                        refine wp_of e16 c16_269 (rw_iinc (pc' := 272) (z := v5288) (L' := [(1, vI (v5288 + 1)), (3, vI ((v5288 - (H5289 r0 4)) - (v4790 - (H4791 r0 4)))), (2, vI (v4790 - (H4791 r0 4))), (0, .ref r0)]) rfl rfl rfl rfl ?_)
                                        refine wp_of e16 c16_272 (rw_goto (p1 := 280) (by decide) ?_)
                                        refine wp_of e16 c16_280 (rw_aload_n (pc' := 281) (v := .ref r0) rfl rfl rfl ?_)
                                        refine wp_of e16 c16_281 (rw_iload_n (pc' := 282) (z := v5288 + 1) rfl rfl ?_)
                                        refine wp_of e16 c16_282 (xp_I (pc' := 285) lf_2_23 w5595 g0 sh_4 (by decide) (by decide) ty_4_2 rfl rfl (by omega) (by omega) ⟨by omega, by omega⟩ rfl (fun H5598 e5599 w5600 => ?_))
                                        have f5601 := f5596.put' e5599 g0 rfl
                                        have k5602 : H5598 r0 2 = v5288 + 1 := wq_u_s e5599
                                        exact wp_return e16 c16_285 rfl ⟨rfl, w5600, f5601, rfl⟩
                                      · exfalso
                                        omega
                                    · refine wp_of e16 c16_246 (rw_iconst (pc' := 247) rfl ?_)
                                      refine wp_of e16 c16_247 (rw_goto (p1 := 266) (by decide) ?_)
                                      refine wp_of e16 c16_266 (xp_I (pc' := 269) lf_2_41 w5290 g0 sh_4 (by decide) (by decide) ty_4_3 rfl rfl (by omega) (by omega) ⟨by omega, by omega⟩ rfl (fun H5603 e5604 w5605 => ?_))
                                      have f5606 := f5294.put' e5604 g0 rfl
                                      have k5607 : H5603 r0 3 = 3 := wq_u_s e5604
                                      refine wp_of e16 c16_269 (rw_iinc (pc' := 272) (z := v5288) (L' := [(1, vI (v5288 + 1)), (3, vI ((v5288 - (H5289 r0 4)) - (v4790 - (H4791 r0 4)))), (2, vI (v4790 - (H4791 r0 4))), (0, .ref r0)]) rfl rfl rfl rfl ?_)
                                      refine wp_of e16 c16_272 (rw_goto (p1 := 280) (by decide) ?_)
                                      refine wp_of e16 c16_280 (rw_aload_n (pc' := 281) (v := .ref r0) rfl rfl rfl ?_)
                                      refine wp_of e16 c16_281 (rw_iload_n (pc' := 282) (z := v5288 + 1) rfl rfl ?_)
                                      refine wp_of e16 c16_282 (xp_I (pc' := 285) lf_2_23 w5605 g0 sh_4 (by decide) (by decide) ty_4_2 rfl rfl (by omega) (by omega) ⟨by omega, by omega⟩ rfl (fun H5608 e5609 w5610 => ?_))
                                      have f5611 := f5606.put' e5609 g0 rfl
                                      have k5612 : H5608 r0 2 = v5288 + 1 := wq_u_s e5609
                                      exact wp_return e16 c16_285 rfl ⟨rfl, w5610, f5611, rfl⟩
                                · refine wp_of e16 c16_209 (rw_aload_n (pc' := 210) (v := .ref r0) rfl rfl rfl ?_)
                                  refine wp_of e16 c16_210 (rw_iload_n (pc' := 211) (z := (v5288 - (H5289 r0 4)) - (v4790 - (H4791 r0 4))) rfl rfl ?_)
                                  refine wp_of e16 c16_211 (rw_iconst (pc' := 212) rfl ?_)
                                  refine wp_of e16 c16_212 (rw_icmp_gt (p1 := 219) (p2 := 215) (by decide) rfl ⟨by omega, by omega⟩ ⟨by omega, by omega⟩ (fun c5613 => ?_) (fun c5613 => ?_))
                                  · refine wp_of e16 c16_219 (rw_iconst (pc' := 220) rfl ?_)
                                    refine wp_of e16 c16_220 (xp_I (pc' := 223) lf_2_41 w5290 g0 sh_4 (by decide) (by decide) ty_4_3 rfl rfl (by omega) (by omega) ⟨by omega, by omega⟩ rfl (fun H5614 e5615 w5616 => ?_))
                                    have f5617 := f5294.put' e5615 g0 rfl
                                    have k5618 : H5614 r0 3 = 5 := wq_u_s e5615
                                    refine wp_of e16 c16_223 (rw_goto (p1 := 280) (by decide) ?_)
                                    refine wp_of e16 c16_280 (rw_aload_n (pc' := 281) (v := .ref r0) rfl rfl rfl ?_)
                                    refine wp_of e16 c16_281 (rw_iload_n (pc' := 282) (z := v5288) rfl rfl ?_)
                                    refine wp_of e16 c16_282 (xp_I (pc' := 285) lf_2_23 w5616 g0 sh_4 (by decide) (by decide) ty_4_2 rfl rfl (by omega) (by omega) ⟨by omega, by omega⟩ rfl (fun H5619 e5620 w5621 => ?_))
                                    have f5622 := f5617.put' e5620 g0 rfl
                                    have k5623 : H5619 r0 2 = v5288 := wq_u_s e5620
                                    exact wp_return e16 c16_285 rfl ⟨rfl, w5621, f5622, rfl⟩
                                  · refine wp_of e16 c16_215 (rw_iconst (pc' := 216) rfl ?_)
                                    refine wp_of e16 c16_216 (rw_goto (p1 := 220) (by decide) ?_)
                                    refine wp_of e16 c16_220 (xp_I (pc' := 223) lf_2_41 w5290 g0 sh_4 (by decide) (by decide) ty_4_3 rfl rfl (by omega) (by omega) ⟨by omega, by omega⟩ rfl (fun H5624 e5625 w5626 => ?_))
                                    have f5627 := f5294.put' e5625 g0 rfl
                                    have k5628 : H5624 r0 3 = 2 := wq_u_s e5625
                                    refine wp_of e16 c16_223 (rw_goto (p1 := 280) (by decide) ?_)
                                    refine wp_of e16 c16_280 (rw_aload_n (pc' := 281) (v := .ref r0) rfl rfl rfl ?_)
                                    refine wp_of e16 c16_281 (rw_iload_n (pc' := 282) (z := v5288) rfl rfl ?_)
                                    refine wp_of e16 c16_282 (xp_I (pc' := 285) lf_2_23 w5626 g0 sh_4 (by decide) (by decide) ty_4_2 rfl rfl (by omega) (by omega) ⟨by omega, by omega⟩ rfl (fun H5629 e5630 w5631 => ?_))
                                    have f5632 := f5627.put' e5630 g0 rfl
                                    have k5633 : H5629 r0 2 = v5288 := wq_u_s e5630
                                    exact wp_return e16 c16_285 rfl ⟨rfl, w5631, f5632, rfl⟩
                              · exfalso
                                omega
                            · refine wp_of e16 c16_147 (rw_aload_n (pc' := 148) (v := .ref r0) rfl rfl rfl ?_)
                              refine wp_of e16 c16_148 (rw_aload_n (pc' := 149) (v := .ref r0) rfl rfl rfl ?_)
                              refine wp_of e16 c16_149 (xg_I (pc' := 152) lf_2_38 w5290 g0 sh_4 (by decide) (by decide) ty_4_5 rfl rfl (fun b5634 b5635 => ?_))
                              refine wp_of e16 c16_152 (rw_bipush (pc' := 154) (z := 10) rfl (by decide) ?_)
                              refine wp_of e16 c16_154 (rw_imulw (pc' := 155) rfl ?_)
                              obtain ⟨v5636, e5637⟩ : ∃ x : Int, x = wq_w ((H5289 r0 5) * 10) := ⟨_, rfl⟩
                              rw [← e5637]
                              have b5638 : -2147483648 ≤ v5636 ∧ v5636 ≤ 2147483647 := by
                                rw [e5637]
                                exact wI_w _
                              refine wp_of e16 c16_155 (rw_aload_n (pc' := 156) (v := .ref r0) rfl rfl rfl ?_)
                              refine wp_of e16 c16_156 (xg_K (pc' := 159) lf_2_7 w5290 g0 sh_4 (by decide) (by decide) rfl q5497 rfl ?_)
                              refine wp_of e16 c16_159 (rw_iload_n (pc' := 160) (z := v5288) rfl rfl ?_)
                              refine wp_of e16 c16_160 (xa_B (by decide) (pc' := 161) w5290 grb sh_2 (by decide) (ty_2 _) (by omega) (by omega) rfl (fun b5639 b5640 => ?_))
                              refine wp_of e16 c16_161 (rw_bipush (pc' := 163) (z := 48) rfl (by decide) ?_)
                              refine wp_of e16 c16_163 (rw_isub (pc' := 164) rfl ?_)
                              refine wp_of e16 c16_164 (rw_iaddw (pc' := 165) rfl ?_)
                              obtain ⟨v5641, e5642⟩ : ∃ x : Int, x = wq_w (v5636 + ((H5289 rb (v5288.toNat)) - 48)) := ⟨_, rfl⟩
                              rw [← e5642]
                              have b5643 : -2147483648 ≤ v5641 ∧ v5641 ≤ 2147483647 := by
                                rw [e5642]
                                exact wI_w _
                              refine wp_of e16 c16_165 (xp_I (pc' := 168) lf_2_38 w5290 g0 sh_4 (by decide) (by decide) ty_4_5 rfl rfl (by omega) (by omega) ⟨by omega, by omega⟩ rfl (fun H5644 e5645 w5646 => ?_))
                              have f5647 := f5294.put' e5645 g0 rfl
                              have f5648 := f5291.put' e5645 g0 rfl
                              have k5649 : H5644 r0 5 = v5641 := wq_u_s e5645
                              refine wp_of e16 c16_168 (rw_iinc (pc' := 171) (z := v5288) (L' := [(1, vI (v5288 + 1)), (2, vI (v4790 - (H4791 r0 4))), (0, .ref r0)]) rfl rfl rfl rfl ?_)
                              refine wp_of e16 c16_171 (rw_goto (p1 := 113) (by decide) ?_)
                              exact wp_lc (ks := [1, 2, 0]) (wl_c rfl (wl_c rfl (wl_c rfl wl_n))) rfl (by decide) (ih5287 _ (by omega) (v5288 + 1) H5644 w5646 f5648 ⟨by omega, by omega⟩ rfl)
                  exact wp_lc (ks := [2, 1, 0]) (wl_c rfl (wl_c rfl (wl_c rfl wl_n))) rfl (by decide) (lp5285 _ v4790 H5231 w5233 wfr.rf ⟨by omega, by omega⟩ rfl)
                · refine wp_of e16 c16_59 (rw_aload_n (pc' := 60) (v := .ref r0) rfl rfl rfl ?_)
                  refine wp_of e16 c16_60 (xg_K (pc' := 63) lf_2_7 w4792 g0 sh_4 (by decide) (by decide) rfl q5224 rfl ?_)
                  refine wp_of e16 c16_63 (rw_iload_n (pc' := 64) (z := v4790) rfl rfl ?_)
                  refine wp_of e16 c16_64 (xa_B (by decide) (pc' := 65) w4792 grb sh_2 (by decide) (ty_2 _) (by omega) (by omega) rfl (fun b5650 b5651 => ?_))
                  refine wp_of e16 c16_65 (rw_bipush (pc' := 67) (z := 122) rfl (by decide) ?_)
                  refine wp_of e16 c16_67 (rw_icmp_gt (p1 := 101) (p2 := 70) (by decide) rfl ⟨by omega, by omega⟩ ⟨by omega, by omega⟩ (fun c5652 => ?_) (fun c5652 => ?_))
                  · refine wp_of e16 c16_101 (rw_iload_n (pc' := 102) (z := v4790) rfl rfl ?_)
                    refine wp_of e16 c16_102 (rw_aload_n (pc' := 103) (v := .ref r0) rfl rfl rfl ?_)
                    have k5653 : H4791 r0 4 = H4730 r0 4 := ((f4793 r0 4 _ g0 rfl).trans (wq_u_j e4736 rfl))
                    refine wp_of e16 c16_103 (xg_I (pc' := 106) lf_2_29 w4792 g0 sh_4 (by decide) (by decide) ty_4_4 rfl rfl (fun b5654 b5655 => ?_))
                    refine wp_of e16 c16_106 (rw_isub (pc' := 107) rfl ?_)
                    refine wp_of e16 c16_107 (rw_istore_n (pc' := 108) (z := v4790 - (H4791 r0 4)) (L' := [(2, vI (v4790 - (H4791 r0 4))), (1, vI v4790), (0, .ref r0)]) rfl rfl rfl ?_)
                    refine wp_of e16 c16_108 (rw_aload_n (pc' := 109) (v := .ref r0) rfl rfl rfl ?_)
                    refine wp_of e16 c16_109 (rw_iconst (pc' := 110) rfl ?_)
                    refine wp_of e16 c16_110 (xp_I (pc' := 113) lf_2_38 w4792 g0 sh_4 (by decide) (by decide) ty_4_5 rfl rfl (by omega) (by omega) ⟨by omega, by omega⟩ rfl (fun H5656 e5657 w5658 => ?_))
                    have f5659 := f4796.put' e5657 g0 rfl
                    have k5660 : H5656 r0 5 = 0 := wq_u_s e5657
                    have lp5710 : ∀ (n5711 : Nat) (v5713 : Int) (H5714 : wq_H), WT T H5714 → wfr [(4, 5)] T H5656 H5714 → (0 ≤ v5713 ∧ v5713 ≤ 900) → (900 - v5713).toNat = n5711 → wp kt 0 16 113 [(1, vI v5713), (2, vI (v4790 - (H4791 r0 4))), (0, .ref r0)] [] T H5714 (q_16 r0 rb T H) := by
                      intro n5711
                      induction n5711 using Nat.strongRecOn with
                      | _ n5711 ih5712 =>
                        intro v5713 H5714 w5715 f5716 b5717 m5718
                        have f5719 := f5659.tr f5716 rfl
                        refine wp_of e16 c16_113 (rw_iload_n (pc' := 114) (z := v5713) rfl rfl ?_)
                        refine wp_of e16 c16_114 (rw_aload_n (pc' := 115) (v := .ref r0) rfl rfl rfl ?_)
                        have k5720 : H5714 r0 1 = H4791 r0 1 := ((f5716 r0 1 _ g0 rfl).trans (wq_u_j e5657 rfl))
                        refine wp_of e16 c16_115 (xg_I (pc' := 118) lf_2_19 w5715 g0 sh_4 (by decide) (by decide) ty_4_1 rfl rfl (fun b5721 b5722 => ?_))
                        refine wp_of e16 c16_118 (rw_icmp_ge (p1 := 174) (p2 := 121) (by decide) rfl ⟨by omega, by omega⟩ ⟨by omega, by omega⟩ (fun c5723 => ?_) (fun c5723 => ?_))
                        · refine wp_of e16 c16_174 (rw_iload_n (pc' := 175) (z := v5713) rfl rfl ?_)
                          refine wp_of e16 c16_175 (rw_aload_n (pc' := 176) (v := .ref r0) rfl rfl rfl ?_)
                          have k5724 : H5714 r0 4 = H4791 r0 4 := ((f5716 r0 4 _ g0 rfl).trans (wq_u_j e5657 rfl))
                          refine wp_of e16 c16_176 (xg_I (pc' := 179) lf_2_29 w5715 g0 sh_4 (by decide) (by decide) ty_4_4 rfl rfl (fun b5725 b5726 => ?_))
                          refine wp_of e16 c16_179 (rw_isub (pc' := 180) rfl ?_)
                          refine wp_of e16 c16_180 (rw_iload_n (pc' := 181) (z := v4790 - (H4791 r0 4)) rfl rfl ?_)
                          refine wp_of e16 c16_181 (rw_isub (pc' := 182) rfl ?_)
                          refine wp_of e16 c16_182 (rw_istore_n (pc' := 183) (z := (v5713 - (H5714 r0 4)) - (v4790 - (H4791 r0 4))) (L' := [(3, vI ((v5713 - (H5714 r0 4)) - (v4790 - (H4791 r0 4)))), (1, vI v5713), (2, vI (v4790 - (H4791 r0 4))), (0, .ref r0)]) rfl rfl rfl ?_)
                          refine wp_of e16 c16_183 (rw_iload_n (pc' := 184) (z := v4790 - (H4791 r0 4)) rfl rfl ?_)
                          refine wp_of e16 c16_184 (rw_if_le (p1 := 205) (p2 := 187) (by decide) rfl ⟨by omega, by omega⟩ (fun c5727 => ?_) (fun c5727 => ?_))
                          · refine wp_of e16 c16_205 (rw_iload_n (pc' := 206) (z := (v5713 - (H5714 r0 4)) - (v4790 - (H4791 r0 4))) rfl rfl ?_)
                            refine wp_of e16 c16_206 (rw_if_le (p1 := 226) (p2 := 209) (by decide) rfl ⟨by omega, by omega⟩ (fun c5728 => ?_) (fun c5728 => ?_))
                            · refine wp_of e16 c16_226 (rw_iload_n (pc' := 227) (z := v5713) rfl rfl ?_)
                              refine wp_of e16 c16_227 (rw_aload_n (pc' := 228) (v := .ref r0) rfl rfl rfl ?_)
                              refine wp_of e16 c16_228 (xg_I (pc' := 231) lf_2_19 w5715 g0 sh_4 (by decide) (by decide) ty_4_1 rfl rfl (fun b5729 b5730 => ?_))
                              refine wp_of e16 c16_231 (rw_icmp_ge (p1 := 275) (p2 := 234) (by decide) rfl ⟨by omega, by omega⟩ ⟨by omega, by omega⟩ (fun c5731 => ?_) (fun c5731 => ?_))
                              · refine wp_of e16 c16_275 (rw_aload_n (pc' := 276) (v := .ref r0) rfl rfl rfl ?_)
                                refine wp_of e16 c16_276 (rw_iconst (pc' := 277) rfl ?_)
                                refine wp_of e16 c16_277 (xp_I (pc' := 280) lf_2_41 w5715 g0 sh_4 (by decide) (by decide) ty_4_3 rfl rfl (by omega) (by omega) ⟨by omega, by omega⟩ rfl (fun H5732 e5733 w5734 => ?_))
                                have f5735 := f5719.put' e5733 g0 rfl
                                have k5736 : H5732 r0 3 = 0 := wq_u_s e5733
                                refine wp_of e16 c16_280 (rw_aload_n (pc' := 281) (v := .ref r0) rfl rfl rfl ?_)
                                refine wp_of e16 c16_281 (rw_iload_n (pc' := 282) (z := v5713) rfl rfl ?_)
                                refine wp_of e16 c16_282 (xp_I (pc' := 285) lf_2_23 w5734 g0 sh_4 (by decide) (by decide) ty_4_2 rfl rfl (by omega) (by omega) ⟨by omega, by omega⟩ rfl (fun H5737 e5738 w5739 => ?_))
                                have f5740 := f5735.put' e5738 g0 rfl
                                have k5741 : H5737 r0 2 = v5713 := wq_u_s e5738
                                exact wp_return e16 c16_285 rfl ⟨rfl, w5739, f5740, rfl⟩
                              · refine wp_of e16 c16_234 (rw_aload_n (pc' := 235) (v := .ref r0) rfl rfl rfl ?_)
                                refine wp_of e16 c16_235 (rw_aload_n (pc' := 236) (v := .ref r0) rfl rfl rfl ?_)
                                have k5742 : H5714 r0 0 = H4791 r0 0 := ((f5716 r0 0 _ g0 rfl).trans (wq_u_j e5657 rfl))
                                have q5743 : H5714 r0 0 = (rb : Int) := k5742.trans q5224
                                refine wp_of e16 c16_236 (xg_K (pc' := 239) lf_2_7 w5715 g0 sh_4 (by decide) (by decide) rfl q5743 rfl ?_)
                                refine wp_of e16 c16_239 (rw_iload_n (pc' := 240) (z := v5713) rfl rfl ?_)
                                refine wp_of e16 c16_240 (xa_B (by decide) (pc' := 241) w5715 grb sh_2 (by decide) (ty_2 _) (by omega) (by omega) rfl (fun b5744 b5745 => ?_))
                                refine wp_of e16 c16_241 (rw_bipush (pc' := 243) (z := 59) rfl (by decide) ?_)
                                refine wp_of e16 c16_243 (rw_icmp_ne (p1 := 250) (p2 := 246) (by decide) rfl ⟨by omega, by omega⟩ ⟨by omega, by omega⟩ (fun c5746 => ?_) (fun c5746 => ?_))
                                · refine wp_of e16 c16_250 (rw_aload_n (pc' := 251) (v := .ref r0) rfl rfl rfl ?_)
                                  refine wp_of e16 c16_251 (xg_K (pc' := 254) lf_2_7 w5715 g0 sh_4 (by decide) (by decide) rfl q5743 rfl ?_)
                                  refine wp_of e16 c16_254 (rw_iload_n (pc' := 255) (z := v5713) rfl rfl ?_)
                                  refine wp_of e16 c16_255 (xa_B (by decide) (pc' := 256) w5715 grb sh_2 (by decide) (ty_2 _) (by omega) (by omega) rfl (fun b5747 b5748 => ?_))
                                  refine wp_of e16 c16_256 (rw_bipush (pc' := 258) (z := 44) rfl (by decide) ?_)
                                  refine wp_of e16 c16_258 (rw_icmp_ne (p1 := 265) (p2 := 261) (by decide) rfl ⟨by omega, by omega⟩ ⟨by omega, by omega⟩ (fun c5749 => ?_) (fun c5749 => ?_))
                                  · refine wp_of e16 c16_265 (rw_iconst (pc' := 266) rfl ?_)
                                    refine wp_of e16 c16_266 (xp_I (pc' := 269) lf_2_41 w5715 g0 sh_4 (by decide) (by decide) ty_4_3 rfl rfl (by omega) (by omega) ⟨by omega, by omega⟩ rfl (fun H5750 e5751 w5752 => ?_))
                                    have f5753 := f5719.put' e5751 g0 rfl
                                    have k5754 : H5750 r0 3 = 5 := wq_u_s e5751
                                    refine wp_of e16 c16_269 (rw_iinc (pc' := 272) (z := v5713) (L' := [(1, vI (v5713 + 1)), (3, vI ((v5713 - (H5714 r0 4)) - (v4790 - (H4791 r0 4)))), (2, vI (v4790 - (H4791 r0 4))), (0, .ref r0)]) rfl rfl rfl rfl ?_)
                                    refine wp_of e16 c16_272 (rw_goto (p1 := 280) (by decide) ?_)
                                    refine wp_of e16 c16_280 (rw_aload_n (pc' := 281) (v := .ref r0) rfl rfl rfl ?_)
                                    refine wp_of e16 c16_281 (rw_iload_n (pc' := 282) (z := v5713 + 1) rfl rfl ?_)
                                    refine wp_of e16 c16_282 (xp_I (pc' := 285) lf_2_23 w5752 g0 sh_4 (by decide) (by decide) ty_4_2 rfl rfl (by omega) (by omega) ⟨by omega, by omega⟩ rfl (fun H5755 e5756 w5757 => ?_))
                                    have f5758 := f5753.put' e5756 g0 rfl
                                    have k5759 : H5755 r0 2 = v5713 + 1 := wq_u_s e5756
                                    exact wp_return e16 c16_285 rfl ⟨rfl, w5757, f5758, rfl⟩
                                  · refine wp_of e16 c16_261 (rw_iconst (pc' := 262) rfl ?_)
                                    refine wp_of e16 c16_262 (rw_goto (p1 := 266) (by decide) ?_)
                                    refine wp_of e16 c16_266 (xp_I (pc' := 269) lf_2_41 w5715 g0 sh_4 (by decide) (by decide) ty_4_3 rfl rfl (by omega) (by omega) ⟨by omega, by omega⟩ rfl (fun H5760 e5761 w5762 => ?_))
                                    have f5763 := f5719.put' e5761 g0 rfl
                                    have k5764 : H5760 r0 3 = 4 := wq_u_s e5761
                                    refine wp_of e16 c16_269 (rw_iinc (pc' := 272) (z := v5713) (L' := [(1, vI (v5713 + 1)), (3, vI ((v5713 - (H5714 r0 4)) - (v4790 - (H4791 r0 4)))), (2, vI (v4790 - (H4791 r0 4))), (0, .ref r0)]) rfl rfl rfl rfl ?_)
                                    refine wp_of e16 c16_272 (rw_goto (p1 := 280) (by decide) ?_)
                                    refine wp_of e16 c16_280 (rw_aload_n (pc' := 281) (v := .ref r0) rfl rfl rfl ?_)
                                    refine wp_of e16 c16_281 (rw_iload_n (pc' := 282) (z := v5713 + 1) rfl rfl ?_)
                                    refine wp_of e16 c16_282 (xp_I (pc' := 285) lf_2_23 w5762 g0 sh_4 (by decide) (by decide) ty_4_2 rfl rfl (by omega) (by omega) ⟨by omega, by omega⟩ rfl (fun H5765 e5766 w5767 => ?_))
                                    have f5768 := f5763.put' e5766 g0 rfl
                                    have k5769 : H5765 r0 2 = v5713 + 1 := wq_u_s e5766
                                    exact wp_return e16 c16_285 rfl ⟨rfl, w5767, f5768, rfl⟩
                                · refine wp_of e16 c16_246 (rw_iconst (pc' := 247) rfl ?_)
                                  refine wp_of e16 c16_247 (rw_goto (p1 := 266) (by decide) ?_)
                                  refine wp_of e16 c16_266 (xp_I (pc' := 269) lf_2_41 w5715 g0 sh_4 (by decide) (by decide) ty_4_3 rfl rfl (by omega) (by omega) ⟨by omega, by omega⟩ rfl (fun H5770 e5771 w5772 => ?_))
                                  have f5773 := f5719.put' e5771 g0 rfl
                                  have k5774 : H5770 r0 3 = 3 := wq_u_s e5771
                                  refine wp_of e16 c16_269 (rw_iinc (pc' := 272) (z := v5713) (L' := [(1, vI (v5713 + 1)), (3, vI ((v5713 - (H5714 r0 4)) - (v4790 - (H4791 r0 4)))), (2, vI (v4790 - (H4791 r0 4))), (0, .ref r0)]) rfl rfl rfl rfl ?_)
                                  refine wp_of e16 c16_272 (rw_goto (p1 := 280) (by decide) ?_)
                                  refine wp_of e16 c16_280 (rw_aload_n (pc' := 281) (v := .ref r0) rfl rfl rfl ?_)
                                  refine wp_of e16 c16_281 (rw_iload_n (pc' := 282) (z := v5713 + 1) rfl rfl ?_)
                                  refine wp_of e16 c16_282 (xp_I (pc' := 285) lf_2_23 w5772 g0 sh_4 (by decide) (by decide) ty_4_2 rfl rfl (by omega) (by omega) ⟨by omega, by omega⟩ rfl (fun H5775 e5776 w5777 => ?_))
                                  have f5778 := f5773.put' e5776 g0 rfl
                                  have k5779 : H5775 r0 2 = v5713 + 1 := wq_u_s e5776
                                  exact wp_return e16 c16_285 rfl ⟨rfl, w5777, f5778, rfl⟩
                            · refine wp_of e16 c16_209 (rw_aload_n (pc' := 210) (v := .ref r0) rfl rfl rfl ?_)
                              refine wp_of e16 c16_210 (rw_iload_n (pc' := 211) (z := (v5713 - (H5714 r0 4)) - (v4790 - (H4791 r0 4))) rfl rfl ?_)
                              refine wp_of e16 c16_211 (rw_iconst (pc' := 212) rfl ?_)
                              refine wp_of e16 c16_212 (rw_icmp_gt (p1 := 219) (p2 := 215) (by decide) rfl ⟨by omega, by omega⟩ ⟨by omega, by omega⟩ (fun c5780 => ?_) (fun c5780 => ?_))
                              · refine wp_of e16 c16_219 (rw_iconst (pc' := 220) rfl ?_)
                                refine wp_of e16 c16_220 (xp_I (pc' := 223) lf_2_41 w5715 g0 sh_4 (by decide) (by decide) ty_4_3 rfl rfl (by omega) (by omega) ⟨by omega, by omega⟩ rfl (fun H5781 e5782 w5783 => ?_))
                                have f5784 := f5719.put' e5782 g0 rfl
                                have k5785 : H5781 r0 3 = 5 := wq_u_s e5782
                                refine wp_of e16 c16_223 (rw_goto (p1 := 280) (by decide) ?_)
                                refine wp_of e16 c16_280 (rw_aload_n (pc' := 281) (v := .ref r0) rfl rfl rfl ?_)
                                refine wp_of e16 c16_281 (rw_iload_n (pc' := 282) (z := v5713) rfl rfl ?_)
                                refine wp_of e16 c16_282 (xp_I (pc' := 285) lf_2_23 w5783 g0 sh_4 (by decide) (by decide) ty_4_2 rfl rfl (by omega) (by omega) ⟨by omega, by omega⟩ rfl (fun H5786 e5787 w5788 => ?_))
                                have f5789 := f5784.put' e5787 g0 rfl
                                have k5790 : H5786 r0 2 = v5713 := wq_u_s e5787
                                exact wp_return e16 c16_285 rfl ⟨rfl, w5788, f5789, rfl⟩
                              · refine wp_of e16 c16_215 (rw_iconst (pc' := 216) rfl ?_)
                                refine wp_of e16 c16_216 (rw_goto (p1 := 220) (by decide) ?_)
                                refine wp_of e16 c16_220 (xp_I (pc' := 223) lf_2_41 w5715 g0 sh_4 (by decide) (by decide) ty_4_3 rfl rfl (by omega) (by omega) ⟨by omega, by omega⟩ rfl (fun H5791 e5792 w5793 => ?_))
                                have f5794 := f5719.put' e5792 g0 rfl
                                have k5795 : H5791 r0 3 = 2 := wq_u_s e5792
                                refine wp_of e16 c16_223 (rw_goto (p1 := 280) (by decide) ?_)
                                refine wp_of e16 c16_280 (rw_aload_n (pc' := 281) (v := .ref r0) rfl rfl rfl ?_)
                                refine wp_of e16 c16_281 (rw_iload_n (pc' := 282) (z := v5713) rfl rfl ?_)
                                refine wp_of e16 c16_282 (xp_I (pc' := 285) lf_2_23 w5793 g0 sh_4 (by decide) (by decide) ty_4_2 rfl rfl (by omega) (by omega) ⟨by omega, by omega⟩ rfl (fun H5796 e5797 w5798 => ?_))
                                have f5799 := f5794.put' e5797 g0 rfl
                                have k5800 : H5796 r0 2 = v5713 := wq_u_s e5797
                                exact wp_return e16 c16_285 rfl ⟨rfl, w5798, f5799, rfl⟩
                          · refine wp_of e16 c16_187 (rw_aload_n (pc' := 188) (v := .ref r0) rfl rfl rfl ?_)
                            refine wp_of e16 c16_188 (rw_iload_n (pc' := 189) (z := v4790 - (H4791 r0 4)) rfl rfl ?_)
                            refine wp_of e16 c16_189 (rw_bipush (pc' := 191) (z := 8) rfl (by decide) ?_)
                            refine wp_of e16 c16_191 (rw_icmp_gt (p1 := 198) (p2 := 194) (by decide) rfl ⟨by omega, by omega⟩ ⟨by omega, by omega⟩ (fun c5801 => ?_) (fun c5801 => ?_))
                            · refine wp_of e16 c16_198 (rw_iconst (pc' := 199) rfl ?_)
                              refine wp_of e16 c16_199 (xp_I (pc' := 202) lf_2_41 w5715 g0 sh_4 (by decide) (by decide) ty_4_3 rfl rfl (by omega) (by omega) ⟨by omega, by omega⟩ rfl (fun H5802 e5803 w5804 => ?_))
                              have f5805 := f5719.put' e5803 g0 rfl
                              have k5806 : H5802 r0 3 = 5 := wq_u_s e5803
                              refine wp_of e16 c16_202 (rw_goto (p1 := 280) (by decide) ?_)
                              refine wp_of e16 c16_280 (rw_aload_n (pc' := 281) (v := .ref r0) rfl rfl rfl ?_)
                              refine wp_of e16 c16_281 (rw_iload_n (pc' := 282) (z := v5713) rfl rfl ?_)
                              refine wp_of e16 c16_282 (xp_I (pc' := 285) lf_2_23 w5804 g0 sh_4 (by decide) (by decide) ty_4_2 rfl rfl (by omega) (by omega) ⟨by omega, by omega⟩ rfl (fun H5807 e5808 w5809 => ?_))
                              have f5810 := f5805.put' e5808 g0 rfl
                              have k5811 : H5807 r0 2 = v5713 := wq_u_s e5808
                              exact wp_return e16 c16_285 rfl ⟨rfl, w5809, f5810, rfl⟩
                            · refine wp_of e16 c16_194 (rw_iconst (pc' := 195) rfl ?_)
                              refine wp_of e16 c16_195 (rw_goto (p1 := 199) (by decide) ?_)
                              refine wp_of e16 c16_199 (xp_I (pc' := 202) lf_2_41 w5715 g0 sh_4 (by decide) (by decide) ty_4_3 rfl rfl (by omega) (by omega) ⟨by omega, by omega⟩ rfl (fun H5812 e5813 w5814 => ?_))
                              have f5815 := f5719.put' e5813 g0 rfl
                              have k5816 : H5812 r0 3 = 1 := wq_u_s e5813
                              refine wp_of e16 c16_202 (rw_goto (p1 := 280) (by decide) ?_)
                              refine wp_of e16 c16_280 (rw_aload_n (pc' := 281) (v := .ref r0) rfl rfl rfl ?_)
                              refine wp_of e16 c16_281 (rw_iload_n (pc' := 282) (z := v5713) rfl rfl ?_)
                              refine wp_of e16 c16_282 (xp_I (pc' := 285) lf_2_23 w5814 g0 sh_4 (by decide) (by decide) ty_4_2 rfl rfl (by omega) (by omega) ⟨by omega, by omega⟩ rfl (fun H5817 e5818 w5819 => ?_))
                              have f5820 := f5815.put' e5818 g0 rfl
                              have k5821 : H5817 r0 2 = v5713 := wq_u_s e5818
                              exact wp_return e16 c16_285 rfl ⟨rfl, w5819, f5820, rfl⟩
                        · refine wp_of e16 c16_121 (rw_iload_n (pc' := 122) (z := v4790 - (H4791 r0 4)) rfl rfl ?_)
                          refine wp_of e16 c16_122 (rw_if_ne (p1 := 174) (p2 := 125) (by decide) rfl ⟨by omega, by omega⟩ (fun c5822 => ?_) (fun c5822 => ?_))
                          · refine wp_of e16 c16_174 (rw_iload_n (pc' := 175) (z := v5713) rfl rfl ?_)
                            refine wp_of e16 c16_175 (rw_aload_n (pc' := 176) (v := .ref r0) rfl rfl rfl ?_)
                            have k5823 : H5714 r0 4 = H4791 r0 4 := ((f5716 r0 4 _ g0 rfl).trans (wq_u_j e5657 rfl))
                            refine wp_of e16 c16_176 (xg_I (pc' := 179) lf_2_29 w5715 g0 sh_4 (by decide) (by decide) ty_4_4 rfl rfl (fun b5824 b5825 => ?_))
                            refine wp_of e16 c16_179 (rw_isub (pc' := 180) rfl ?_)
                            refine wp_of e16 c16_180 (rw_iload_n (pc' := 181) (z := v4790 - (H4791 r0 4)) rfl rfl ?_)
                            refine wp_of e16 c16_181 (rw_isub (pc' := 182) rfl ?_)
                            refine wp_of e16 c16_182 (rw_istore_n (pc' := 183) (z := (v5713 - (H5714 r0 4)) - (v4790 - (H4791 r0 4))) (L' := [(3, vI ((v5713 - (H5714 r0 4)) - (v4790 - (H4791 r0 4)))), (1, vI v5713), (2, vI (v4790 - (H4791 r0 4))), (0, .ref r0)]) rfl rfl rfl ?_)
                            refine wp_of e16 c16_183 (rw_iload_n (pc' := 184) (z := v4790 - (H4791 r0 4)) rfl rfl ?_)
                            refine wp_of e16 c16_184 (rw_if_le (p1 := 205) (p2 := 187) (by decide) rfl ⟨by omega, by omega⟩ (fun c5826 => ?_) (fun c5826 => ?_))
                            · refine wp_of e16 c16_205 (rw_iload_n (pc' := 206) (z := (v5713 - (H5714 r0 4)) - (v4790 - (H4791 r0 4))) rfl rfl ?_)
                              refine wp_of e16 c16_206 (rw_if_le (p1 := 226) (p2 := 209) (by decide) rfl ⟨by omega, by omega⟩ (fun c5827 => ?_) (fun c5827 => ?_))
                              · refine wp_of e16 c16_226 (rw_iload_n (pc' := 227) (z := v5713) rfl rfl ?_)
                                refine wp_of e16 c16_227 (rw_aload_n (pc' := 228) (v := .ref r0) rfl rfl rfl ?_)
                                refine wp_of e16 c16_228 (xg_I (pc' := 231) lf_2_19 w5715 g0 sh_4 (by decide) (by decide) ty_4_1 rfl rfl (fun b5828 b5829 => ?_))
                                refine wp_of e16 c16_231 (rw_icmp_ge (p1 := 275) (p2 := 234) (by decide) rfl ⟨by omega, by omega⟩ ⟨by omega, by omega⟩ (fun c5830 => ?_) (fun c5830 => ?_))
                                · refine wp_of e16 c16_275 (rw_aload_n (pc' := 276) (v := .ref r0) rfl rfl rfl ?_)
                                  refine wp_of e16 c16_276 (rw_iconst (pc' := 277) rfl ?_)
                                  refine wp_of e16 c16_277 (xp_I (pc' := 280) lf_2_41 w5715 g0 sh_4 (by decide) (by decide) ty_4_3 rfl rfl (by omega) (by omega) ⟨by omega, by omega⟩ rfl (fun H5831 e5832 w5833 => ?_))
                                  have f5834 := f5719.put' e5832 g0 rfl
                                  have k5835 : H5831 r0 3 = 0 := wq_u_s e5832
                                  refine wp_of e16 c16_280 (rw_aload_n (pc' := 281) (v := .ref r0) rfl rfl rfl ?_)
                                  refine wp_of e16 c16_281 (rw_iload_n (pc' := 282) (z := v5713) rfl rfl ?_)
                                  refine wp_of e16 c16_282 (xp_I (pc' := 285) lf_2_23 w5833 g0 sh_4 (by decide) (by decide) ty_4_2 rfl rfl (by omega) (by omega) ⟨by omega, by omega⟩ rfl (fun H5836 e5837 w5838 => ?_))
                                  have f5839 := f5834.put' e5837 g0 rfl
                                  have k5840 : H5836 r0 2 = v5713 := wq_u_s e5837
                                  exact wp_return e16 c16_285 rfl ⟨rfl, w5838, f5839, rfl⟩
                                · refine wp_of e16 c16_234 (rw_aload_n (pc' := 235) (v := .ref r0) rfl rfl rfl ?_)
                                  refine wp_of e16 c16_235 (rw_aload_n (pc' := 236) (v := .ref r0) rfl rfl rfl ?_)
                                  have k5841 : H5714 r0 0 = H4791 r0 0 := ((f5716 r0 0 _ g0 rfl).trans (wq_u_j e5657 rfl))
                                  have q5842 : H5714 r0 0 = (rb : Int) := k5841.trans q5224
                                  refine wp_of e16 c16_236 (xg_K (pc' := 239) lf_2_7 w5715 g0 sh_4 (by decide) (by decide) rfl q5842 rfl ?_)
                                  refine wp_of e16 c16_239 (rw_iload_n (pc' := 240) (z := v5713) rfl rfl ?_)
                                  refine wp_of e16 c16_240 (xa_B (by decide) (pc' := 241) w5715 grb sh_2 (by decide) (ty_2 _) (by omega) (by omega) rfl (fun b5843 b5844 => ?_))
                                  refine wp_of e16 c16_241 (rw_bipush (pc' := 243) (z := 59) rfl (by decide) ?_)
                                  refine wp_of e16 c16_243 (rw_icmp_ne (p1 := 250) (p2 := 246) (by decide) rfl ⟨by omega, by omega⟩ ⟨by omega, by omega⟩ (fun c5845 => ?_) (fun c5845 => ?_))
                                  · refine wp_of e16 c16_250 (rw_aload_n (pc' := 251) (v := .ref r0) rfl rfl rfl ?_)
                                    refine wp_of e16 c16_251 (xg_K (pc' := 254) lf_2_7 w5715 g0 sh_4 (by decide) (by decide) rfl q5842 rfl ?_)
                                    refine wp_of e16 c16_254 (rw_iload_n (pc' := 255) (z := v5713) rfl rfl ?_)
                                    refine wp_of e16 c16_255 (xa_B (by decide) (pc' := 256) w5715 grb sh_2 (by decide) (ty_2 _) (by omega) (by omega) rfl (fun b5846 b5847 => ?_))
                                    refine wp_of e16 c16_256 (rw_bipush (pc' := 258) (z := 44) rfl (by decide) ?_)
                                    refine wp_of e16 c16_258 (rw_icmp_ne (p1 := 265) (p2 := 261) (by decide) rfl ⟨by omega, by omega⟩ ⟨by omega, by omega⟩ (fun c5848 => ?_) (fun c5848 => ?_))
                                    · refine wp_of e16 c16_265 (rw_iconst (pc' := 266) rfl ?_)
                                      refine wp_of e16 c16_266 (xp_I (pc' := 269) lf_2_41 w5715 g0 sh_4 (by decide) (by decide) ty_4_3 rfl rfl (by omega) (by omega) ⟨by omega, by omega⟩ rfl (fun H5849 e5850 w5851 => ?_))
                                      have f5852 := f5719.put' e5850 g0 rfl
                                      have k5853 : H5849 r0 3 = 5 := wq_u_s e5850
                                      refine wp_of e16 c16_269 (rw_iinc (pc' := 272) (z := v5713) (L' := [(1, vI (v5713 + 1)), (3, vI ((v5713 - (H5714 r0 4)) - (v4790 - (H4791 r0 4)))), (2, vI (v4790 - (H4791 r0 4))), (0, .ref r0)]) rfl rfl rfl rfl ?_)
                                      refine wp_of e16 c16_272 (rw_goto (p1 := 280) (by decide) ?_)
                                      refine wp_of e16 c16_280 (rw_aload_n (pc' := 281) (v := .ref r0) rfl rfl rfl ?_)
                                      refine wp_of e16 c16_281 (rw_iload_n (pc' := 282) (z := v5713 + 1) rfl rfl ?_)
                                      refine wp_of e16 c16_282 (xp_I (pc' := 285) lf_2_23 w5851 g0 sh_4 (by decide) (by decide) ty_4_2 rfl rfl (by omega) (by omega) ⟨by omega, by omega⟩ rfl (fun H5854 e5855 w5856 => ?_))
                                      have f5857 := f5852.put' e5855 g0 rfl
                                      have k5858 : H5854 r0 2 = v5713 + 1 := wq_u_s e5855
                                      exact wp_return e16 c16_285 rfl ⟨rfl, w5856, f5857, rfl⟩
                                    · refine wp_of e16 c16_261 (rw_iconst (pc' := 262) rfl ?_)
                                      refine wp_of e16 c16_262 (rw_goto (p1 := 266) (by decide) ?_)
                                      refine wp_of e16 c16_266 (xp_I (pc' := 269) lf_2_41 w5715 g0 sh_4 (by decide) (by decide) ty_4_3 rfl rfl (by omega) (by omega) ⟨by omega, by omega⟩ rfl (fun H5859 e5860 w5861 => ?_))
                                      have f5862 := f5719.put' e5860 g0 rfl
                                      have k5863 : H5859 r0 3 = 4 := wq_u_s e5860
                                      refine wp_of e16 c16_269 (rw_iinc (pc' := 272) (z := v5713) (L' := [(1, vI (v5713 + 1)), (3, vI ((v5713 - (H5714 r0 4)) - (v4790 - (H4791 r0 4)))), (2, vI (v4790 - (H4791 r0 4))), (0, .ref r0)]) rfl rfl rfl rfl ?_)
                                      refine wp_of e16 c16_272 (rw_goto (p1 := 280) (by decide) ?_)
                                      refine wp_of e16 c16_280 (rw_aload_n (pc' := 281) (v := .ref r0) rfl rfl rfl ?_)
                                      refine wp_of e16 c16_281 (rw_iload_n (pc' := 282) (z := v5713 + 1) rfl rfl ?_)
                                      refine wp_of e16 c16_282 (xp_I (pc' := 285) lf_2_23 w5861 g0 sh_4 (by decide) (by decide) ty_4_2 rfl rfl (by omega) (by omega) ⟨by omega, by omega⟩ rfl (fun H5864 e5865 w5866 => ?_))
                                      have f5867 := f5862.put' e5865 g0 rfl
                                      have k5868 : H5864 r0 2 = v5713 + 1 := wq_u_s e5865
                                      exact wp_return e16 c16_285 rfl ⟨rfl, w5866, f5867, rfl⟩
                                  · refine wp_of e16 c16_246 (rw_iconst (pc' := 247) rfl ?_)
                                    refine wp_of e16 c16_247 (rw_goto (p1 := 266) (by decide) ?_)
                                    refine wp_of e16 c16_266 (xp_I (pc' := 269) lf_2_41 w5715 g0 sh_4 (by decide) (by decide) ty_4_3 rfl rfl (by omega) (by omega) ⟨by omega, by omega⟩ rfl (fun H5869 e5870 w5871 => ?_))
                                    have f5872 := f5719.put' e5870 g0 rfl
                                    have k5873 : H5869 r0 3 = 3 := wq_u_s e5870
                                    refine wp_of e16 c16_269 (rw_iinc (pc' := 272) (z := v5713) (L' := [(1, vI (v5713 + 1)), (3, vI ((v5713 - (H5714 r0 4)) - (v4790 - (H4791 r0 4)))), (2, vI (v4790 - (H4791 r0 4))), (0, .ref r0)]) rfl rfl rfl rfl ?_)
                                    refine wp_of e16 c16_272 (rw_goto (p1 := 280) (by decide) ?_)
                                    refine wp_of e16 c16_280 (rw_aload_n (pc' := 281) (v := .ref r0) rfl rfl rfl ?_)
                                    refine wp_of e16 c16_281 (rw_iload_n (pc' := 282) (z := v5713 + 1) rfl rfl ?_)
                                    refine wp_of e16 c16_282 (xp_I (pc' := 285) lf_2_23 w5871 g0 sh_4 (by decide) (by decide) ty_4_2 rfl rfl (by omega) (by omega) ⟨by omega, by omega⟩ rfl (fun H5874 e5875 w5876 => ?_))
                                    have f5877 := f5872.put' e5875 g0 rfl
                                    have k5878 : H5874 r0 2 = v5713 + 1 := wq_u_s e5875
                                    exact wp_return e16 c16_285 rfl ⟨rfl, w5876, f5877, rfl⟩
                              · refine wp_of e16 c16_209 (rw_aload_n (pc' := 210) (v := .ref r0) rfl rfl rfl ?_)
                                refine wp_of e16 c16_210 (rw_iload_n (pc' := 211) (z := (v5713 - (H5714 r0 4)) - (v4790 - (H4791 r0 4))) rfl rfl ?_)
                                refine wp_of e16 c16_211 (rw_iconst (pc' := 212) rfl ?_)
                                refine wp_of e16 c16_212 (rw_icmp_gt (p1 := 219) (p2 := 215) (by decide) rfl ⟨by omega, by omega⟩ ⟨by omega, by omega⟩ (fun c5879 => ?_) (fun c5879 => ?_))
                                · refine wp_of e16 c16_219 (rw_iconst (pc' := 220) rfl ?_)
                                  refine wp_of e16 c16_220 (xp_I (pc' := 223) lf_2_41 w5715 g0 sh_4 (by decide) (by decide) ty_4_3 rfl rfl (by omega) (by omega) ⟨by omega, by omega⟩ rfl (fun H5880 e5881 w5882 => ?_))
                                  have f5883 := f5719.put' e5881 g0 rfl
                                  have k5884 : H5880 r0 3 = 5 := wq_u_s e5881
                                  refine wp_of e16 c16_223 (rw_goto (p1 := 280) (by decide) ?_)
                                  refine wp_of e16 c16_280 (rw_aload_n (pc' := 281) (v := .ref r0) rfl rfl rfl ?_)
                                  refine wp_of e16 c16_281 (rw_iload_n (pc' := 282) (z := v5713) rfl rfl ?_)
                                  refine wp_of e16 c16_282 (xp_I (pc' := 285) lf_2_23 w5882 g0 sh_4 (by decide) (by decide) ty_4_2 rfl rfl (by omega) (by omega) ⟨by omega, by omega⟩ rfl (fun H5885 e5886 w5887 => ?_))
                                  have f5888 := f5883.put' e5886 g0 rfl
                                  have k5889 : H5885 r0 2 = v5713 := wq_u_s e5886
                                  exact wp_return e16 c16_285 rfl ⟨rfl, w5887, f5888, rfl⟩
                                · refine wp_of e16 c16_215 (rw_iconst (pc' := 216) rfl ?_)
                                  refine wp_of e16 c16_216 (rw_goto (p1 := 220) (by decide) ?_)
                                  refine wp_of e16 c16_220 (xp_I (pc' := 223) lf_2_41 w5715 g0 sh_4 (by decide) (by decide) ty_4_3 rfl rfl (by omega) (by omega) ⟨by omega, by omega⟩ rfl (fun H5890 e5891 w5892 => ?_))
                                  have f5893 := f5719.put' e5891 g0 rfl
                                  have k5894 : H5890 r0 3 = 2 := wq_u_s e5891
                                  refine wp_of e16 c16_223 (rw_goto (p1 := 280) (by decide) ?_)
                                  refine wp_of e16 c16_280 (rw_aload_n (pc' := 281) (v := .ref r0) rfl rfl rfl ?_)
                                  refine wp_of e16 c16_281 (rw_iload_n (pc' := 282) (z := v5713) rfl rfl ?_)
                                  refine wp_of e16 c16_282 (xp_I (pc' := 285) lf_2_23 w5892 g0 sh_4 (by decide) (by decide) ty_4_2 rfl rfl (by omega) (by omega) ⟨by omega, by omega⟩ rfl (fun H5895 e5896 w5897 => ?_))
                                  have f5898 := f5893.put' e5896 g0 rfl
                                  have k5899 : H5895 r0 2 = v5713 := wq_u_s e5896
                                  exact wp_return e16 c16_285 rfl ⟨rfl, w5897, f5898, rfl⟩
                            · refine wp_of e16 c16_187 (rw_aload_n (pc' := 188) (v := .ref r0) rfl rfl rfl ?_)
                              refine wp_of e16 c16_188 (rw_iload_n (pc' := 189) (z := v4790 - (H4791 r0 4)) rfl rfl ?_)
                              refine wp_of e16 c16_189 (rw_bipush (pc' := 191) (z := 8) rfl (by decide) ?_)
                              refine wp_of e16 c16_191 (rw_icmp_gt (p1 := 198) (p2 := 194) (by decide) rfl ⟨by omega, by omega⟩ ⟨by omega, by omega⟩ (fun c5900 => ?_) (fun c5900 => ?_))
                              · refine wp_of e16 c16_198 (rw_iconst (pc' := 199) rfl ?_)
                                refine wp_of e16 c16_199 (xp_I (pc' := 202) lf_2_41 w5715 g0 sh_4 (by decide) (by decide) ty_4_3 rfl rfl (by omega) (by omega) ⟨by omega, by omega⟩ rfl (fun H5901 e5902 w5903 => ?_))
                                have f5904 := f5719.put' e5902 g0 rfl
                                have k5905 : H5901 r0 3 = 5 := wq_u_s e5902
                                refine wp_of e16 c16_202 (rw_goto (p1 := 280) (by decide) ?_)
                                refine wp_of e16 c16_280 (rw_aload_n (pc' := 281) (v := .ref r0) rfl rfl rfl ?_)
                                refine wp_of e16 c16_281 (rw_iload_n (pc' := 282) (z := v5713) rfl rfl ?_)
                                refine wp_of e16 c16_282 (xp_I (pc' := 285) lf_2_23 w5903 g0 sh_4 (by decide) (by decide) ty_4_2 rfl rfl (by omega) (by omega) ⟨by omega, by omega⟩ rfl (fun H5906 e5907 w5908 => ?_))
                                have f5909 := f5904.put' e5907 g0 rfl
                                have k5910 : H5906 r0 2 = v5713 := wq_u_s e5907
                                exact wp_return e16 c16_285 rfl ⟨rfl, w5908, f5909, rfl⟩
                              · refine wp_of e16 c16_194 (rw_iconst (pc' := 195) rfl ?_)
                                refine wp_of e16 c16_195 (rw_goto (p1 := 199) (by decide) ?_)
                                refine wp_of e16 c16_199 (xp_I (pc' := 202) lf_2_41 w5715 g0 sh_4 (by decide) (by decide) ty_4_3 rfl rfl (by omega) (by omega) ⟨by omega, by omega⟩ rfl (fun H5911 e5912 w5913 => ?_))
                                have f5914 := f5719.put' e5912 g0 rfl
                                have k5915 : H5911 r0 3 = 1 := wq_u_s e5912
                                refine wp_of e16 c16_202 (rw_goto (p1 := 280) (by decide) ?_)
                                refine wp_of e16 c16_280 (rw_aload_n (pc' := 281) (v := .ref r0) rfl rfl rfl ?_)
                                refine wp_of e16 c16_281 (rw_iload_n (pc' := 282) (z := v5713) rfl rfl ?_)
                                refine wp_of e16 c16_282 (xp_I (pc' := 285) lf_2_23 w5913 g0 sh_4 (by decide) (by decide) ty_4_2 rfl rfl (by omega) (by omega) ⟨by omega, by omega⟩ rfl (fun H5916 e5917 w5918 => ?_))
                                have f5919 := f5914.put' e5917 g0 rfl
                                have k5920 : H5916 r0 2 = v5713 := wq_u_s e5917
                                exact wp_return e16 c16_285 rfl ⟨rfl, w5918, f5919, rfl⟩
                          · refine wp_of e16 c16_125 (rw_aload_n (pc' := 126) (v := .ref r0) rfl rfl rfl ?_)
                            have k5921 : H5714 r0 0 = H4791 r0 0 := ((f5716 r0 0 _ g0 rfl).trans (wq_u_j e5657 rfl))
                            have q5922 : H5714 r0 0 = (rb : Int) := k5921.trans q5224
                            refine wp_of e16 c16_126 (xg_K (pc' := 129) lf_2_7 w5715 g0 sh_4 (by decide) (by decide) rfl q5922 rfl ?_)
                            refine wp_of e16 c16_129 (rw_iload_n (pc' := 130) (z := v5713) rfl rfl ?_)
                            refine wp_of e16 c16_130 (xa_B (by decide) (pc' := 131) w5715 grb sh_2 (by decide) (ty_2 _) (by omega) (by omega) rfl (fun b5923 b5924 => ?_))
                            refine wp_of e16 c16_131 (rw_bipush (pc' := 133) (z := 48) rfl (by decide) ?_)
                            refine wp_of e16 c16_133 (rw_icmp_lt (p1 := 174) (p2 := 136) (by decide) rfl ⟨by omega, by omega⟩ ⟨by omega, by omega⟩ (fun c5925 => ?_) (fun c5925 => ?_))
                            · refine wp_of e16 c16_174 (rw_iload_n (pc' := 175) (z := v5713) rfl rfl ?_)
                              refine wp_of e16 c16_175 (rw_aload_n (pc' := 176) (v := .ref r0) rfl rfl rfl ?_)
                              have k5926 : H5714 r0 4 = H4791 r0 4 := ((f5716 r0 4 _ g0 rfl).trans (wq_u_j e5657 rfl))
                              refine wp_of e16 c16_176 (xg_I (pc' := 179) lf_2_29 w5715 g0 sh_4 (by decide) (by decide) ty_4_4 rfl rfl (fun b5927 b5928 => ?_))
                              refine wp_of e16 c16_179 (rw_isub (pc' := 180) rfl ?_)
                              refine wp_of e16 c16_180 (rw_iload_n (pc' := 181) (z := v4790 - (H4791 r0 4)) rfl rfl ?_)
                              refine wp_of e16 c16_181 (rw_isub (pc' := 182) rfl ?_)
                              refine wp_of e16 c16_182 (rw_istore_n (pc' := 183) (z := (v5713 - (H5714 r0 4)) - (v4790 - (H4791 r0 4))) (L' := [(3, vI ((v5713 - (H5714 r0 4)) - (v4790 - (H4791 r0 4)))), (1, vI v5713), (2, vI (v4790 - (H4791 r0 4))), (0, .ref r0)]) rfl rfl rfl ?_)
                              refine wp_of e16 c16_183 (rw_iload_n (pc' := 184) (z := v4790 - (H4791 r0 4)) rfl rfl ?_)
                              refine wp_of e16 c16_184 (rw_if_le (p1 := 205) (p2 := 187) (by decide) rfl ⟨by omega, by omega⟩ (fun c5929 => ?_) (fun c5929 => ?_))
                              · refine wp_of e16 c16_205 (rw_iload_n (pc' := 206) (z := (v5713 - (H5714 r0 4)) - (v4790 - (H4791 r0 4))) rfl rfl ?_)
                                refine wp_of e16 c16_206 (rw_if_le (p1 := 226) (p2 := 209) (by decide) rfl ⟨by omega, by omega⟩ (fun c5930 => ?_) (fun c5930 => ?_))
                                · refine wp_of e16 c16_226 (rw_iload_n (pc' := 227) (z := v5713) rfl rfl ?_)
                                  refine wp_of e16 c16_227 (rw_aload_n (pc' := 228) (v := .ref r0) rfl rfl rfl ?_)
                                  refine wp_of e16 c16_228 (xg_I (pc' := 231) lf_2_19 w5715 g0 sh_4 (by decide) (by decide) ty_4_1 rfl rfl (fun b5931 b5932 => ?_))
                                  refine wp_of e16 c16_231 (rw_icmp_ge (p1 := 275) (p2 := 234) (by decide) rfl ⟨by omega, by omega⟩ ⟨by omega, by omega⟩ (fun c5933 => ?_) (fun c5933 => ?_))
                                  · refine wp_of e16 c16_275 (rw_aload_n (pc' := 276) (v := .ref r0) rfl rfl rfl ?_)
                                    refine wp_of e16 c16_276 (rw_iconst (pc' := 277) rfl ?_)
                                    refine wp_of e16 c16_277 (xp_I (pc' := 280) lf_2_41 w5715 g0 sh_4 (by decide) (by decide) ty_4_3 rfl rfl (by omega) (by omega) ⟨by omega, by omega⟩ rfl (fun H5934 e5935 w5936 => ?_))
                                    have f5937 := f5719.put' e5935 g0 rfl
                                    have k5938 : H5934 r0 3 = 0 := wq_u_s e5935
                                    refine wp_of e16 c16_280 (rw_aload_n (pc' := 281) (v := .ref r0) rfl rfl rfl ?_)
                                    refine wp_of e16 c16_281 (rw_iload_n (pc' := 282) (z := v5713) rfl rfl ?_)
                                    refine wp_of e16 c16_282 (xp_I (pc' := 285) lf_2_23 w5936 g0 sh_4 (by decide) (by decide) ty_4_2 rfl rfl (by omega) (by omega) ⟨by omega, by omega⟩ rfl (fun H5939 e5940 w5941 => ?_))
                                    have f5942 := f5937.put' e5940 g0 rfl
                                    have k5943 : H5939 r0 2 = v5713 := wq_u_s e5940
                                    exact wp_return e16 c16_285 rfl ⟨rfl, w5941, f5942, rfl⟩
                                  · refine wp_of e16 c16_234 (rw_aload_n (pc' := 235) (v := .ref r0) rfl rfl rfl ?_)
                                    refine wp_of e16 c16_235 (rw_aload_n (pc' := 236) (v := .ref r0) rfl rfl rfl ?_)
                                    refine wp_of e16 c16_236 (xg_K (pc' := 239) lf_2_7 w5715 g0 sh_4 (by decide) (by decide) rfl q5922 rfl ?_)
                                    refine wp_of e16 c16_239 (rw_iload_n (pc' := 240) (z := v5713) rfl rfl ?_)
                                    refine wp_of e16 c16_240 (xa_B (by decide) (pc' := 241) w5715 grb sh_2 (by decide) (ty_2 _) (by omega) (by omega) rfl (fun b5944 b5945 => ?_))
                                    refine wp_of e16 c16_241 (rw_bipush (pc' := 243) (z := 59) rfl (by decide) ?_)
                                    refine wp_of e16 c16_243 (rw_icmp_ne (p1 := 250) (p2 := 246) (by decide) rfl ⟨by omega, by omega⟩ ⟨by omega, by omega⟩ (fun c5946 => ?_) (fun c5946 => ?_))
                                    · refine wp_of e16 c16_250 (rw_aload_n (pc' := 251) (v := .ref r0) rfl rfl rfl ?_)
                                      refine wp_of e16 c16_251 (xg_K (pc' := 254) lf_2_7 w5715 g0 sh_4 (by decide) (by decide) rfl q5922 rfl ?_)
                                      refine wp_of e16 c16_254 (rw_iload_n (pc' := 255) (z := v5713) rfl rfl ?_)
                                      refine wp_of e16 c16_255 (xa_B (by decide) (pc' := 256) w5715 grb sh_2 (by decide) (ty_2 _) (by omega) (by omega) rfl (fun b5947 b5948 => ?_))
                                      refine wp_of e16 c16_256 (rw_bipush (pc' := 258) (z := 44) rfl (by decide) ?_)
                                      refine wp_of e16 c16_258 (rw_icmp_ne (p1 := 265) (p2 := 261) (by decide) rfl ⟨by omega, by omega⟩ ⟨by omega, by omega⟩ (fun c5949 => ?_) (fun c5949 => ?_))
                                      · refine wp_of e16 c16_265 (rw_iconst (pc' := 266) rfl ?_)
                                        refine wp_of e16 c16_266 (xp_I (pc' := 269) lf_2_41 w5715 g0 sh_4 (by decide) (by decide) ty_4_3 rfl rfl (by omega) (by omega) ⟨by omega, by omega⟩ rfl (fun H5950 e5951 w5952 => ?_))
                                        have f5953 := f5719.put' e5951 g0 rfl
                                        have k5954 : H5950 r0 3 = 5 := wq_u_s e5951
                                        refine wp_of e16 c16_269 (rw_iinc (pc' := 272) (z := v5713) (L' := [(1, vI (v5713 + 1)), (3, vI ((v5713 - (H5714 r0 4)) - (v4790 - (H4791 r0 4)))), (2, vI (v4790 - (H4791 r0 4))), (0, .ref r0)]) rfl rfl rfl rfl ?_)
                                        refine wp_of e16 c16_272 (rw_goto (p1 := 280) (by decide) ?_)
                                        refine wp_of e16 c16_280 (rw_aload_n (pc' := 281) (v := .ref r0) rfl rfl rfl ?_)
                                        refine wp_of e16 c16_281 (rw_iload_n (pc' := 282) (z := v5713 + 1) rfl rfl ?_)
                                        refine wp_of e16 c16_282 (xp_I (pc' := 285) lf_2_23 w5952 g0 sh_4 (by decide) (by decide) ty_4_2 rfl rfl (by omega) (by omega) ⟨by omega, by omega⟩ rfl (fun H5955 e5956 w5957 => ?_))
                                        have f5958 := f5953.put' e5956 g0 rfl
                                        have k5959 : H5955 r0 2 = v5713 + 1 := wq_u_s e5956
                                        exact wp_return e16 c16_285 rfl ⟨rfl, w5957, f5958, rfl⟩
                                      · refine wp_of e16 c16_261 (rw_iconst (pc' := 262) rfl ?_)
                                        refine wp_of e16 c16_262 (rw_goto (p1 := 266) (by decide) ?_)
                                        refine wp_of e16 c16_266 (xp_I (pc' := 269) lf_2_41 w5715 g0 sh_4 (by decide) (by decide) ty_4_3 rfl rfl (by omega) (by omega) ⟨by omega, by omega⟩ rfl (fun H5960 e5961 w5962 => ?_))
                                        have f5963 := f5719.put' e5961 g0 rfl
                                        have k5964 : H5960 r0 3 = 4 := wq_u_s e5961
                                        refine wp_of e16 c16_269 (rw_iinc (pc' := 272) (z := v5713) (L' := [(1, vI (v5713 + 1)), (3, vI ((v5713 - (H5714 r0 4)) - (v4790 - (H4791 r0 4)))), (2, vI (v4790 - (H4791 r0 4))), (0, .ref r0)]) rfl rfl rfl rfl ?_)
                                        refine wp_of e16 c16_272 (rw_goto (p1 := 280) (by decide) ?_)
                                        refine wp_of e16 c16_280 (rw_aload_n (pc' := 281) (v := .ref r0) rfl rfl rfl ?_)
                                        refine wp_of e16 c16_281 (rw_iload_n (pc' := 282) (z := v5713 + 1) rfl rfl ?_)
                                        refine wp_of e16 c16_282 (xp_I (pc' := 285) lf_2_23 w5962 g0 sh_4 (by decide) (by decide) ty_4_2 rfl rfl (by omega) (by omega) ⟨by omega, by omega⟩ rfl (fun H5965 e5966 w5967 => ?_))
                                        have f5968 := f5963.put' e5966 g0 rfl
                                        have k5969 : H5965 r0 2 = v5713 + 1 := wq_u_s e5966
                                        exact wp_return e16 c16_285 rfl ⟨rfl, w5967, f5968, rfl⟩
                                    · exfalso
                                      omega
                                · refine wp_of e16 c16_209 (rw_aload_n (pc' := 210) (v := .ref r0) rfl rfl rfl ?_)
                                  refine wp_of e16 c16_210 (rw_iload_n (pc' := 211) (z := (v5713 - (H5714 r0 4)) - (v4790 - (H4791 r0 4))) rfl rfl ?_)
                                  refine wp_of e16 c16_211 (rw_iconst (pc' := 212) rfl ?_)
                                  refine wp_of e16 c16_212 (rw_icmp_gt (p1 := 219) (p2 := 215) (by decide) rfl ⟨by omega, by omega⟩ ⟨by omega, by omega⟩ (fun c5970 => ?_) (fun c5970 => ?_))
                                  · refine wp_of e16 c16_219 (rw_iconst (pc' := 220) rfl ?_)
                                    refine wp_of e16 c16_220 (xp_I (pc' := 223) lf_2_41 w5715 g0 sh_4 (by decide) (by decide) ty_4_3 rfl rfl (by omega) (by omega) ⟨by omega, by omega⟩ rfl (fun H5971 e5972 w5973 => ?_))
                                    have f5974 := f5719.put' e5972 g0 rfl
                                    have k5975 : H5971 r0 3 = 5 := wq_u_s e5972
                                    refine wp_of e16 c16_223 (rw_goto (p1 := 280) (by decide) ?_)
                                    refine wp_of e16 c16_280 (rw_aload_n (pc' := 281) (v := .ref r0) rfl rfl rfl ?_)
                                    refine wp_of e16 c16_281 (rw_iload_n (pc' := 282) (z := v5713) rfl rfl ?_)
                                    refine wp_of e16 c16_282 (xp_I (pc' := 285) lf_2_23 w5973 g0 sh_4 (by decide) (by decide) ty_4_2 rfl rfl (by omega) (by omega) ⟨by omega, by omega⟩ rfl (fun H5976 e5977 w5978 => ?_))
                                    have f5979 := f5974.put' e5977 g0 rfl
                                    have k5980 : H5976 r0 2 = v5713 := wq_u_s e5977
                                    exact wp_return e16 c16_285 rfl ⟨rfl, w5978, f5979, rfl⟩
                                  · refine wp_of e16 c16_215 (rw_iconst (pc' := 216) rfl ?_)
                                    refine wp_of e16 c16_216 (rw_goto (p1 := 220) (by decide) ?_)
                                    refine wp_of e16 c16_220 (xp_I (pc' := 223) lf_2_41 w5715 g0 sh_4 (by decide) (by decide) ty_4_3 rfl rfl (by omega) (by omega) ⟨by omega, by omega⟩ rfl (fun H5981 e5982 w5983 => ?_))
                                    have f5984 := f5719.put' e5982 g0 rfl
                                    have k5985 : H5981 r0 3 = 2 := wq_u_s e5982
                                    refine wp_of e16 c16_223 (rw_goto (p1 := 280) (by decide) ?_)
                                    refine wp_of e16 c16_280 (rw_aload_n (pc' := 281) (v := .ref r0) rfl rfl rfl ?_)
                                    refine wp_of e16 c16_281 (rw_iload_n (pc' := 282) (z := v5713) rfl rfl ?_)
                                    refine wp_of e16 c16_282 (xp_I (pc' := 285) lf_2_23 w5983 g0 sh_4 (by decide) (by decide) ty_4_2 rfl rfl (by omega) (by omega) ⟨by omega, by omega⟩ rfl (fun H5986 e5987 w5988 => ?_))
                                    have f5989 := f5984.put' e5987 g0 rfl
                                    have k5990 : H5986 r0 2 = v5713 := wq_u_s e5987
                                    exact wp_return e16 c16_285 rfl ⟨rfl, w5988, f5989, rfl⟩
                              · exfalso
                                omega
                            · refine wp_of e16 c16_136 (rw_aload_n (pc' := 137) (v := .ref r0) rfl rfl rfl ?_)
                              refine wp_of e16 c16_137 (xg_K (pc' := 140) lf_2_7 w5715 g0 sh_4 (by decide) (by decide) rfl q5922 rfl ?_)
                              refine wp_of e16 c16_140 (rw_iload_n (pc' := 141) (z := v5713) rfl rfl ?_)
                              refine wp_of e16 c16_141 (xa_B (by decide) (pc' := 142) w5715 grb sh_2 (by decide) (ty_2 _) (by omega) (by omega) rfl (fun b5991 b5992 => ?_))
                              refine wp_of e16 c16_142 (rw_bipush (pc' := 144) (z := 57) rfl (by decide) ?_)
                              refine wp_of e16 c16_144 (rw_icmp_gt (p1 := 174) (p2 := 147) (by decide) rfl ⟨by omega, by omega⟩ ⟨by omega, by omega⟩ (fun c5993 => ?_) (fun c5993 => ?_))
                              · refine wp_of e16 c16_174 (rw_iload_n (pc' := 175) (z := v5713) rfl rfl ?_)
                                refine wp_of e16 c16_175 (rw_aload_n (pc' := 176) (v := .ref r0) rfl rfl rfl ?_)
                                have k5994 : H5714 r0 4 = H4791 r0 4 := ((f5716 r0 4 _ g0 rfl).trans (wq_u_j e5657 rfl))
                                refine wp_of e16 c16_176 (xg_I (pc' := 179) lf_2_29 w5715 g0 sh_4 (by decide) (by decide) ty_4_4 rfl rfl (fun b5995 b5996 => ?_))
                                refine wp_of e16 c16_179 (rw_isub (pc' := 180) rfl ?_)
                                refine wp_of e16 c16_180 (rw_iload_n (pc' := 181) (z := v4790 - (H4791 r0 4)) rfl rfl ?_)
                                refine wp_of e16 c16_181 (rw_isub (pc' := 182) rfl ?_)
                                refine wp_of e16 c16_182 (rw_istore_n (pc' := 183) (z := (v5713 - (H5714 r0 4)) - (v4790 - (H4791 r0 4))) (L' := [(3, vI ((v5713 - (H5714 r0 4)) - (v4790 - (H4791 r0 4)))), (1, vI v5713), (2, vI (v4790 - (H4791 r0 4))), (0, .ref r0)]) rfl rfl rfl ?_)
                                refine wp_of e16 c16_183 (rw_iload_n (pc' := 184) (z := v4790 - (H4791 r0 4)) rfl rfl ?_)
                                refine wp_of e16 c16_184 (rw_if_le (p1 := 205) (p2 := 187) (by decide) rfl ⟨by omega, by omega⟩ (fun c5997 => ?_) (fun c5997 => ?_))
                                · refine wp_of e16 c16_205 (rw_iload_n (pc' := 206) (z := (v5713 - (H5714 r0 4)) - (v4790 - (H4791 r0 4))) rfl rfl ?_)
                                  refine wp_of e16 c16_206 (rw_if_le (p1 := 226) (p2 := 209) (by decide) rfl ⟨by omega, by omega⟩ (fun c5998 => ?_) (fun c5998 => ?_))
                                  · refine wp_of e16 c16_226 (rw_iload_n (pc' := 227) (z := v5713) rfl rfl ?_)
                                    refine wp_of e16 c16_227 (rw_aload_n (pc' := 228) (v := .ref r0) rfl rfl rfl ?_)
                                    refine wp_of e16 c16_228 (xg_I (pc' := 231) lf_2_19 w5715 g0 sh_4 (by decide) (by decide) ty_4_1 rfl rfl (fun b5999 b6000 => ?_))
                                    refine wp_of e16 c16_231 (rw_icmp_ge (p1 := 275) (p2 := 234) (by decide) rfl ⟨by omega, by omega⟩ ⟨by omega, by omega⟩ (fun c6001 => ?_) (fun c6001 => ?_))
                                    · refine wp_of e16 c16_275 (rw_aload_n (pc' := 276) (v := .ref r0) rfl rfl rfl ?_)
                                      refine wp_of e16 c16_276 (rw_iconst (pc' := 277) rfl ?_)
                                      refine wp_of e16 c16_277 (xp_I (pc' := 280) lf_2_41 w5715 g0 sh_4 (by decide) (by decide) ty_4_3 rfl rfl (by omega) (by omega) ⟨by omega, by omega⟩ rfl (fun H6002 e6003 w6004 => ?_))
                                      have f6005 := f5719.put' e6003 g0 rfl
                                      have k6006 : H6002 r0 3 = 0 := wq_u_s e6003
                                      refine wp_of e16 c16_280 (rw_aload_n (pc' := 281) (v := .ref r0) rfl rfl rfl ?_)
                                      refine wp_of e16 c16_281 (rw_iload_n (pc' := 282) (z := v5713) rfl rfl ?_)
                                      refine wp_of e16 c16_282 (xp_I (pc' := 285) lf_2_23 w6004 g0 sh_4 (by decide) (by decide) ty_4_2 rfl rfl (by omega) (by omega) ⟨by omega, by omega⟩ rfl (fun H6007 e6008 w6009 => ?_))
                                      have f6010 := f6005.put' e6008 g0 rfl
                                      have k6011 : H6007 r0 2 = v5713 := wq_u_s e6008
                                      exact wp_return e16 c16_285 rfl ⟨rfl, w6009, f6010, rfl⟩
                                    · refine wp_of e16 c16_234 (rw_aload_n (pc' := 235) (v := .ref r0) rfl rfl rfl ?_)
                                      refine wp_of e16 c16_235 (rw_aload_n (pc' := 236) (v := .ref r0) rfl rfl rfl ?_)
                                      refine wp_of e16 c16_236 (xg_K (pc' := 239) lf_2_7 w5715 g0 sh_4 (by decide) (by decide) rfl q5922 rfl ?_)
                                      refine wp_of e16 c16_239 (rw_iload_n (pc' := 240) (z := v5713) rfl rfl ?_)
                                      refine wp_of e16 c16_240 (xa_B (by decide) (pc' := 241) w5715 grb sh_2 (by decide) (ty_2 _) (by omega) (by omega) rfl (fun b6012 b6013 => ?_))
                                      refine wp_of e16 c16_241 (rw_bipush (pc' := 243) (z := 59) rfl (by decide) ?_)
                                      refine wp_of e16 c16_243 (rw_icmp_ne (p1 := 250) (p2 := 246) (by decide) rfl ⟨by omega, by omega⟩ ⟨by omega, by omega⟩ (fun c6014 => ?_) (fun c6014 => ?_))
                                      · refine wp_of e16 c16_250 (rw_aload_n (pc' := 251) (v := .ref r0) rfl rfl rfl ?_)
                                        refine wp_of e16 c16_251 (xg_K (pc' := 254) lf_2_7 w5715 g0 sh_4 (by decide) (by decide) rfl q5922 rfl ?_)
                                        refine wp_of e16 c16_254 (rw_iload_n (pc' := 255) (z := v5713) rfl rfl ?_)
                                        refine wp_of e16 c16_255 (xa_B (by decide) (pc' := 256) w5715 grb sh_2 (by decide) (ty_2 _) (by omega) (by omega) rfl (fun b6015 b6016 => ?_))
                                        refine wp_of e16 c16_256 (rw_bipush (pc' := 258) (z := 44) rfl (by decide) ?_)
                                        refine wp_of e16 c16_258 (rw_icmp_ne (p1 := 265) (p2 := 261) (by decide) rfl ⟨by omega, by omega⟩ ⟨by omega, by omega⟩ (fun c6017 => ?_) (fun c6017 => ?_))
                                        · refine wp_of e16 c16_265 (rw_iconst (pc' := 266) rfl ?_)
                                          refine wp_of e16 c16_266 (xp_I (pc' := 269) lf_2_41 w5715 g0 sh_4 (by decide) (by decide) ty_4_3 rfl rfl (by omega) (by omega) ⟨by omega, by omega⟩ rfl (fun H6018 e6019 w6020 => ?_))
                                          have f6021 := f5719.put' e6019 g0 rfl
                                          have k6022 : H6018 r0 3 = 5 := wq_u_s e6019
                                          refine wp_of e16 c16_269 (rw_iinc (pc' := 272) (z := v5713) (L' := [(1, vI (v5713 + 1)), (3, vI ((v5713 - (H5714 r0 4)) - (v4790 - (H4791 r0 4)))), (2, vI (v4790 - (H4791 r0 4))), (0, .ref r0)]) rfl rfl rfl rfl ?_)
                                          refine wp_of e16 c16_272 (rw_goto (p1 := 280) (by decide) ?_)
                                          refine wp_of e16 c16_280 (rw_aload_n (pc' := 281) (v := .ref r0) rfl rfl rfl ?_)
                                          refine wp_of e16 c16_281 (rw_iload_n (pc' := 282) (z := v5713 + 1) rfl rfl ?_)
                                          refine wp_of e16 c16_282 (xp_I (pc' := 285) lf_2_23 w6020 g0 sh_4 (by decide) (by decide) ty_4_2 rfl rfl (by omega) (by omega) ⟨by omega, by omega⟩ rfl (fun H6023 e6024 w6025 => ?_))
                                          have f6026 := f6021.put' e6024 g0 rfl
                                          have k6027 : H6023 r0 2 = v5713 + 1 := wq_u_s e6024
                                          exact wp_return e16 c16_285 rfl ⟨rfl, w6025, f6026, rfl⟩
                                        · exfalso
                                          omega
                                      · refine wp_of e16 c16_246 (rw_iconst (pc' := 247) rfl ?_)
                                        refine wp_of e16 c16_247 (rw_goto (p1 := 266) (by decide) ?_)
                                        refine wp_of e16 c16_266 (xp_I (pc' := 269) lf_2_41 w5715 g0 sh_4 (by decide) (by decide) ty_4_3 rfl rfl (by omega) (by omega) ⟨by omega, by omega⟩ rfl (fun H6028 e6029 w6030 => ?_))
                                        have f6031 := f5719.put' e6029 g0 rfl
                                        have k6032 : H6028 r0 3 = 3 := wq_u_s e6029
                                        refine wp_of e16 c16_269 (rw_iinc (pc' := 272) (z := v5713) (L' := [(1, vI (v5713 + 1)), (3, vI ((v5713 - (H5714 r0 4)) - (v4790 - (H4791 r0 4)))), (2, vI (v4790 - (H4791 r0 4))), (0, .ref r0)]) rfl rfl rfl rfl ?_)
                                        refine wp_of e16 c16_272 (rw_goto (p1 := 280) (by decide) ?_)
                                        refine wp_of e16 c16_280 (rw_aload_n (pc' := 281) (v := .ref r0) rfl rfl rfl ?_)
                                        refine wp_of e16 c16_281 (rw_iload_n (pc' := 282) (z := v5713 + 1) rfl rfl ?_)
                                        refine wp_of e16 c16_282 (xp_I (pc' := 285) lf_2_23 w6030 g0 sh_4 (by decide) (by decide) ty_4_2 rfl rfl (by omega) (by omega) ⟨by omega, by omega⟩ rfl (fun H6033 e6034 w6035 => ?_))
                                        have f6036 := f6031.put' e6034 g0 rfl
                                        have k6037 : H6033 r0 2 = v5713 + 1 := wq_u_s e6034
                                        exact wp_return e16 c16_285 rfl ⟨rfl, w6035, f6036, rfl⟩
                                  · refine wp_of e16 c16_209 (rw_aload_n (pc' := 210) (v := .ref r0) rfl rfl rfl ?_)
                                    refine wp_of e16 c16_210 (rw_iload_n (pc' := 211) (z := (v5713 - (H5714 r0 4)) - (v4790 - (H4791 r0 4))) rfl rfl ?_)
                                    refine wp_of e16 c16_211 (rw_iconst (pc' := 212) rfl ?_)
                                    refine wp_of e16 c16_212 (rw_icmp_gt (p1 := 219) (p2 := 215) (by decide) rfl ⟨by omega, by omega⟩ ⟨by omega, by omega⟩ (fun c6038 => ?_) (fun c6038 => ?_))
                                    · refine wp_of e16 c16_219 (rw_iconst (pc' := 220) rfl ?_)
                                      refine wp_of e16 c16_220 (xp_I (pc' := 223) lf_2_41 w5715 g0 sh_4 (by decide) (by decide) ty_4_3 rfl rfl (by omega) (by omega) ⟨by omega, by omega⟩ rfl (fun H6039 e6040 w6041 => ?_))
                                      have f6042 := f5719.put' e6040 g0 rfl
                                      have k6043 : H6039 r0 3 = 5 := wq_u_s e6040
                                      refine wp_of e16 c16_223 (rw_goto (p1 := 280) (by decide) ?_)
                                      refine wp_of e16 c16_280 (rw_aload_n (pc' := 281) (v := .ref r0) rfl rfl rfl ?_)
                                      refine wp_of e16 c16_281 (rw_iload_n (pc' := 282) (z := v5713) rfl rfl ?_)
                                      refine wp_of e16 c16_282 (xp_I (pc' := 285) lf_2_23 w6041 g0 sh_4 (by decide) (by decide) ty_4_2 rfl rfl (by omega) (by omega) ⟨by omega, by omega⟩ rfl (fun H6044 e6045 w6046 => ?_))
                                      have f6047 := f6042.put' e6045 g0 rfl
                                      have k6048 : H6044 r0 2 = v5713 := wq_u_s e6045
                                      exact wp_return e16 c16_285 rfl ⟨rfl, w6046, f6047, rfl⟩
                                    · refine wp_of e16 c16_215 (rw_iconst (pc' := 216) rfl ?_)
                                      refine wp_of e16 c16_216 (rw_goto (p1 := 220) (by decide) ?_)
                                      refine wp_of e16 c16_220 (xp_I (pc' := 223) lf_2_41 w5715 g0 sh_4 (by decide) (by decide) ty_4_3 rfl rfl (by omega) (by omega) ⟨by omega, by omega⟩ rfl (fun H6049 e6050 w6051 => ?_))
                                      have f6052 := f5719.put' e6050 g0 rfl
                                      have k6053 : H6049 r0 3 = 2 := wq_u_s e6050
                                      refine wp_of e16 c16_223 (rw_goto (p1 := 280) (by decide) ?_)
                                      refine wp_of e16 c16_280 (rw_aload_n (pc' := 281) (v := .ref r0) rfl rfl rfl ?_)
                                      refine wp_of e16 c16_281 (rw_iload_n (pc' := 282) (z := v5713) rfl rfl ?_)
                                      refine wp_of e16 c16_282 (xp_I (pc' := 285) lf_2_23 w6051 g0 sh_4 (by decide) (by decide) ty_4_2 rfl rfl (by omega) (by omega) ⟨by omega, by omega⟩ rfl (fun H6054 e6055 w6056 => ?_))
                                      have f6057 := f6052.put' e6055 g0 rfl
                                      have k6058 : H6054 r0 2 = v5713 := wq_u_s e6055
                                      exact wp_return e16 c16_285 rfl ⟨rfl, w6056, f6057, rfl⟩
                                · exfalso
                                  omega
                              · refine wp_of e16 c16_147 (rw_aload_n (pc' := 148) (v := .ref r0) rfl rfl rfl ?_)
                                refine wp_of e16 c16_148 (rw_aload_n (pc' := 149) (v := .ref r0) rfl rfl rfl ?_)
                                refine wp_of e16 c16_149 (xg_I (pc' := 152) lf_2_38 w5715 g0 sh_4 (by decide) (by decide) ty_4_5 rfl rfl (fun b6059 b6060 => ?_))
                                refine wp_of e16 c16_152 (rw_bipush (pc' := 154) (z := 10) rfl (by decide) ?_)
                                refine wp_of e16 c16_154 (rw_imulw (pc' := 155) rfl ?_)
                                obtain ⟨v6061, e6062⟩ : ∃ x : Int, x = wq_w ((H5714 r0 5) * 10) := ⟨_, rfl⟩
                                rw [← e6062]
                                have b6063 : -2147483648 ≤ v6061 ∧ v6061 ≤ 2147483647 := by
                                  rw [e6062]
                                  exact wI_w _
                                refine wp_of e16 c16_155 (rw_aload_n (pc' := 156) (v := .ref r0) rfl rfl rfl ?_)
                                refine wp_of e16 c16_156 (xg_K (pc' := 159) lf_2_7 w5715 g0 sh_4 (by decide) (by decide) rfl q5922 rfl ?_)
                                refine wp_of e16 c16_159 (rw_iload_n (pc' := 160) (z := v5713) rfl rfl ?_)
                                refine wp_of e16 c16_160 (xa_B (by decide) (pc' := 161) w5715 grb sh_2 (by decide) (ty_2 _) (by omega) (by omega) rfl (fun b6064 b6065 => ?_))
                                refine wp_of e16 c16_161 (rw_bipush (pc' := 163) (z := 48) rfl (by decide) ?_)
                                refine wp_of e16 c16_163 (rw_isub (pc' := 164) rfl ?_)
                                refine wp_of e16 c16_164 (rw_iaddw (pc' := 165) rfl ?_)
                                obtain ⟨v6066, e6067⟩ : ∃ x : Int, x = wq_w (v6061 + ((H5714 rb (v5713.toNat)) - 48)) := ⟨_, rfl⟩
                                rw [← e6067]
                                have b6068 : -2147483648 ≤ v6066 ∧ v6066 ≤ 2147483647 := by
                                  rw [e6067]
                                  exact wI_w _
                                refine wp_of e16 c16_165 (xp_I (pc' := 168) lf_2_38 w5715 g0 sh_4 (by decide) (by decide) ty_4_5 rfl rfl (by omega) (by omega) ⟨by omega, by omega⟩ rfl (fun H6069 e6070 w6071 => ?_))
                                have f6072 := f5719.put' e6070 g0 rfl
                                have f6073 := f5716.put' e6070 g0 rfl
                                have k6074 : H6069 r0 5 = v6066 := wq_u_s e6070
                                refine wp_of e16 c16_168 (rw_iinc (pc' := 171) (z := v5713) (L' := [(1, vI (v5713 + 1)), (2, vI (v4790 - (H4791 r0 4))), (0, .ref r0)]) rfl rfl rfl rfl ?_)
                                refine wp_of e16 c16_171 (rw_goto (p1 := 113) (by decide) ?_)
                                exact wp_lc (ks := [1, 2, 0]) (wl_c rfl (wl_c rfl (wl_c rfl wl_n))) rfl (by decide) (ih5712 _ (by omega) (v5713 + 1) H6069 w6071 f6073 ⟨by omega, by omega⟩ rfl)
                    exact wp_lc (ks := [2, 1, 0]) (wl_c rfl (wl_c rfl (wl_c rfl wl_n))) rfl (by decide) (lp5710 _ v4790 H5656 w5658 wfr.rf ⟨by omega, by omega⟩ rfl)
                  · refine wp_of e16 c16_70 (rw_aload_n (pc' := 71) (v := .ref r0) rfl rfl rfl ?_)
                    refine wp_of e16 c16_71 (rw_aload_n (pc' := 72) (v := .ref r0) rfl rfl rfl ?_)
                    refine wp_of e16 c16_72 (xg_L (pc' := 75) lf_2_32 w4792 g0 sh_4 (by decide) (by decide) ty_4_6 rfl rfl (fun b6075 b6076 => ?_))
                    refine wp_of e16 c16_75 (rw_ldc2 (pc' := 78) (z := 32) rfl rfl rfl ?_)
                    refine wp_of e16 c16_78 (rw_lmulw (pc' := 79) rfl ?_)
                    obtain ⟨v6077, e6078⟩ : ∃ x : Int, x = wl_w ((H4791 r0 6) * 32) := ⟨_, rfl⟩
                    rw [← e6078]
                    have b6079 : -9223372036854775808 ≤ v6077 ∧ v6077 ≤ 9223372036854775807 := by
                      rw [e6078]
                      exact wL_w _
                    refine wp_of e16 c16_79 (rw_aload_n (pc' := 80) (v := .ref r0) rfl rfl rfl ?_)
                    refine wp_of e16 c16_80 (xg_K (pc' := 83) lf_2_7 w4792 g0 sh_4 (by decide) (by decide) rfl q5224 rfl ?_)
                    refine wp_of e16 c16_83 (rw_iload_n (pc' := 84) (z := v4790) rfl rfl ?_)
                    refine wp_of e16 c16_84 (xa_B (by decide) (pc' := 85) w4792 grb sh_2 (by decide) (ty_2 _) (by omega) (by omega) rfl (fun b6080 b6081 => ?_))
                    refine wp_of e16 c16_85 (rw_bipush (pc' := 87) (z := 97) rfl (by decide) ?_)
                    refine wp_of e16 c16_87 (rw_isub (pc' := 88) rfl ?_)
                    refine wp_of e16 c16_88 (rw_iconst (pc' := 89) rfl ?_)
                    refine wp_of e16 c16_89 (rw_iadd (pc' := 90) rfl ?_)
                    refine wp_of e16 c16_90 (rw_i2l (pc' := 91) rfl ⟨by omega, by omega⟩ ?_)
                    refine wp_of e16 c16_91 (rw_laddw (pc' := 92) rfl ?_)
                    obtain ⟨v6082, e6083⟩ : ∃ x : Int, x = wl_w (v6077 + (((H4791 rb (v4790.toNat)) - 97) + 1)) := ⟨_, rfl⟩
                    rw [← e6083]
                    have b6084 : -9223372036854775808 ≤ v6082 ∧ v6082 ≤ 9223372036854775807 := by
                      rw [e6083]
                      exact wL_w _
                    refine wp_of e16 c16_92 (xp_L (pc' := 95) lf_2_32 w4792 g0 sh_4 (by decide) (by decide) ty_4_6 rfl rfl (by omega) (by omega) ⟨by omega, by omega⟩ rfl (fun H6085 e6086 w6087 => ?_))
                    have f6088 := f4796.put' e6086 g0 rfl
                    have f6089 := f4793.put' e6086 g0 rfl
                    have k6090 : H6085 r0 6 = v6082 := wq_u_s e6086
                    refine wp_of e16 c16_95 (rw_iinc (pc' := 98) (z := v4790) (L' := [(1, vI (v4790 + 1)), (0, .ref r0)]) rfl rfl rfl rfl ?_)
                    refine wp_of e16 c16_98 (rw_goto (p1 := 40) (by decide) ?_)
                    exact wp_lc (ks := [1, 0]) (wl_c rfl (wl_c rfl wl_n)) rfl (by decide) (ih4789 _ (by omega) (v4790 + 1) H6085 w6087 f6089 ⟨by omega, by omega⟩ rfl)
          exact wp_lc (ks := [1, 0]) (wl_c rfl (wl_c rfl wl_n)) rfl (by decide) (lp4787 _ v3358 H4735 w4737 wfr.rf ⟨by omega, by omega⟩ rfl)
        · refine wp_of e16 c16_24 (rw_iinc (pc' := 27) (z := v3358) (L' := [(1, vI (v3358 + 1)), (0, .ref r0)]) rfl rfl rfl rfl ?_)
          refine wp_of e16 c16_27 (rw_goto (p1 := 5) (by decide) ?_)
          exact wp_lc (ks := [1, 0]) (wl_c rfl (wl_c rfl wl_n)) rfl (by decide) (ih3357 _ (by omega) (v3358 + 1) ⟨by omega, by omega⟩ rfl)
  exact wp_lc (ks := [1, 0]) (wl_c rfl (wl_c rfl wl_n)) rfl (by decide) (lp3355 _ (H r0 2) ⟨by omega, by omega⟩ rfl)
