/-! methods (own work, written by wip/gen2/sx.py) -/
/-! StrikeAwake.putOnTape(I)V -/
theorem e10 : wq_en 10 = some (0, 3, false, none) := rfl
theorem c10_0 : mc_cd 10 0 = some (.bipush 24, 2) := by decide +kernel
theorem c10_2 : mc_cd 10 2 = some (.istore_n 2, 1) := by decide +kernel
theorem c10_3 : mc_cd 10 3 = some (.iload_n 2, 1) := by decide +kernel
theorem c10_4 : mc_cd 10 4 = some (.ifCond .lt 42, 3) := by decide +kernel
theorem c10_7 : mc_cd 10 7 = some (.aload_n 0, 1) := by decide +kernel
theorem c10_8 : mc_cd 10 8 = some (.getfield 62, 3) := by decide +kernel
theorem c10_11 : mc_cd 10 11 = some (.sipush 900, 3) := by decide +kernel
theorem c10_14 : mc_cd 10 14 = some (.if_icmp .ge 32, 3) := by decide +kernel
theorem c10_17 : mc_cd 10 17 = some (.aload_n 0, 1) := by decide +kernel
theorem c10_18 : mc_cd 10 18 = some (.getfield 9, 3) := by decide +kernel
theorem c10_21 : mc_cd 10 21 = some (.aload_n 0, 1) := by decide +kernel
theorem c10_22 : mc_cd 10 22 = some (.getfield 62, 3) := by decide +kernel
theorem c10_25 : mc_cd 10 25 = some (.iload_n 1, 1) := by decide +kernel
theorem c10_26 : mc_cd 10 26 = some (.iload_n 2, 1) := by decide +kernel
theorem c10_27 : mc_cd 10 27 = some (.ishr, 1) := by decide +kernel
theorem c10_28 : mc_cd 10 28 = some (.i2b, 1) := by decide +kernel
theorem c10_29 : mc_cd 10 29 = some (.bastore, 1) := by decide +kernel
theorem c10_30 : mc_cd 10 30 = some (.aload_n 0, 1) := by decide +kernel
theorem c10_31 : mc_cd 10 31 = some (.dup, 1) := by decide +kernel
theorem c10_32 : mc_cd 10 32 = some (.getfield 62, 3) := by decide +kernel
theorem c10_35 : mc_cd 10 35 = some (.iconst 1, 1) := by decide +kernel
theorem c10_36 : mc_cd 10 36 = some (.iadd, 1) := by decide +kernel
theorem c10_37 : mc_cd 10 37 = some (.putfield 62, 3) := by decide +kernel
theorem c10_40 : mc_cd 10 40 = some (.iinc 2 (-8), 3) := by decide +kernel
theorem c10_43 : mc_cd 10 43 = some (.goto (-40), 3) := by decide +kernel
theorem c10_46 : mc_cd 10 46 = some (.return_, 1) := by decide +kernel
abbrev q_10 (r0 : Nat) (a1 : Int) (T : wq_T) (H : wq_H) : Option Value → wq_T → wq_H → Prop := fun r T' H' => T = T' ∧ WT T H' ∧ wfr [(1, 9), (2, 999)] T H H' ∧ none = r
set_option maxHeartbeats 4000000 in
theorem s_10 {kt : Nat → Option mc_E} {T : wq_T} {H : wq_H} {r0 : Nat} {a1 : Int} (hW : WT T H) (g0 : T.2.2.2 r0 = some 1) (i1 : (-2147483648) ≤ a1 ∧ a1 ≤ 2147483647) : wpc kt 1 10 [.ref r0, vI a1] T H (q_10 r0 a1 T H) := by
  refine wp_enter e10 (Nat.le_of_ble_eq_true rfl) rfl ?_
  have f0 : wfr [(1, 9), (2, 999)] T H H := wfr.rf
  show wp _ _ 10 0 [(0, .ref r0), (1, vI a1)] [] _ H _
  refine wp_of e10 c10_0 (rw_bipush (pc' := 2) (z := 24) rfl (by decide) ?_)
  refine wp_of e10 c10_2 (rw_istore_n (pc' := 3) (z := 24) (L' := [(2, vI 24), (0, .ref r0), (1, vI a1)]) rfl rfl rfl ?_)
  have lp277 : ∀ (n278 : Nat) (v280 : Int) (H281 : wq_H), WT T H281 → wfr [(1, 9), (2, 999)] T H H281 → ((-8) ≤ v280 ∧ v280 ≤ 24) → (v280 - (-8)).toNat = n278 → wp kt 0 10 3 [(2, vI v280), (0, .ref r0), (1, vI a1)] [] T H281 (q_10 r0 a1 T H) := by
    intro n278
    induction n278 using Nat.strongRecOn with
    | _ n278 ih279 =>
      intro v280 H281 w282 f283 b284 m285
      have f286 := f0.tr f283 rfl
      refine wp_of e10 c10_3 (rw_iload_n (pc' := 4) (z := v280) rfl rfl ?_)
      refine wp_of e10 c10_4 (rw_if_lt (p1 := 46) (p2 := 7) (by decide) rfl ⟨by omega, by omega⟩ (fun c287 => ?_) (fun c287 => ?_))
      · exact wp_return e10 c10_46 rfl ⟨rfl, w282, f286, rfl⟩
      · refine wp_of e10 c10_7 (rw_aload_n (pc' := 8) (v := .ref r0) rfl rfl rfl ?_)
        refine wp_of e10 c10_8 (xg_I (pc' := 11) lf_0_62 w282 g0 sh_1 (by decide) (by decide) ty_1_9 rfl rfl (fun b288 b289 => ?_))
        refine wp_of e10 c10_11 (rw_sipush (pc' := 14) (z := 900) rfl (by decide) ?_)
        refine wp_of e10 c10_14 (rw_icmp_ge (p1 := 46) (p2 := 17) (by decide) rfl ⟨by omega, by omega⟩ ⟨by omega, by omega⟩ (fun c290 => ?_) (fun c290 => ?_))
        · exact wp_return e10 c10_46 rfl ⟨rfl, w282, f286, rfl⟩
        · refine wp_of e10 c10_17 (rw_aload_n (pc' := 18) (v := .ref r0) rfl rfl rfl ?_)
          refine wp_of e10 c10_18 (xg_R (pc' := 21) lf_0_9 w282 g0 sh_1 (by decide) (by decide) ty_1_0 rfl rfl (fun r291 q292 g293 => ?_))
          refine wp_of e10 c10_21 (rw_aload_n (pc' := 22) (v := .ref r0) rfl rfl rfl ?_)
          refine wp_of e10 c10_22 (xg_I (pc' := 25) lf_0_62 w282 g0 sh_1 (by decide) (by decide) ty_1_9 rfl rfl (fun b294 b295 => ?_))
          refine wp_of e10 c10_25 (rw_iload_n (pc' := 26) (z := a1) rfl rfl ?_)
          refine wp_of e10 c10_26 (rw_iload_n (pc' := 27) (z := v280) rfl rfl ?_)
          refine wp_of e10 c10_27 (rw_ishr (pc' := 28) rfl ?_)
          obtain ⟨v296, e297⟩ : ∃ x : Int, x = wq_shr a1 v280 := ⟨_, rfl⟩
          rw [← e297]
          have b298 : -2147483648 ≤ v296 ∧ v296 ≤ 2147483647 := by
            rw [e297]
            exact wI_shr _ _
          refine wp_of e10 c10_28 (rw_i2b (pc' := 29) rfl ?_)
          obtain ⟨v299, e300⟩ : ∃ x : Int, x = wq_i2b v296 := ⟨_, rfl⟩
          rw [← e300]
          have b301 : -128 ≤ v299 ∧ v299 ≤ 127 := by
            rw [e300]
            exact wq_i2b_b _
          refine wp_of e10 c10_29 (xs_B (pc' := 30) w282 g293 (by decide) sh_2 (by decide) (ty_2 _) (by omega) (by omega) ⟨by omega, by omega⟩ (by omega) (by omega) rfl (fun H302 e303 w304 => ?_))
          have f305 := f286.put' e303 g293 rfl
          have f306 := f283.put' e303 g293 rfl
          refine wp_of e10 c10_30 (rw_aload_n (pc' := 31) (v := .ref r0) rfl rfl rfl ?_)
          refine wp_of e10 c10_31 (rw_dup (pc' := 32) rfl rfl ?_)
          have k307 : H302 r0 9 = H281 r0 9 := (wq_u_t e303 g293 g0 rfl 9)
          refine wp_of e10 c10_32 (xg_I (pc' := 35) lf_0_62 w304 g0 sh_1 (by decide) (by decide) ty_1_9 rfl rfl (fun b308 b309 => ?_))
          refine wp_of e10 c10_35 (rw_iconst (pc' := 36) rfl ?_)
          refine wp_of e10 c10_36 (rw_iadd (pc' := 37) rfl ?_)
          refine wp_of e10 c10_37 (xp_I (pc' := 40) lf_0_62 w304 g0 sh_1 (by decide) (by decide) ty_1_9 rfl rfl (by omega) (by omega) ⟨by omega, by omega⟩ rfl (fun H310 e311 w312 => ?_))
          have f313 := f305.put' e311 g0 rfl
          have f314 := f306.put' e311 g0 rfl
          have k315 : H310 r0 9 = (H302 r0 9) + 1 := wq_u_s e311
          refine wp_of e10 c10_40 (rw_iinc (pc' := 43) (z := v280) (L' := [(2, vI (v280 + (-8))), (0, .ref r0), (1, vI a1)]) rfl rfl rfl rfl ?_)
          refine wp_of e10 c10_43 (rw_goto (p1 := 3) (by decide) ?_)
          exact wp_lc (ks := [2, 0, 1]) (wl_c rfl (wl_c rfl (wl_c rfl wl_n))) rfl (by decide) (ih279 _ (by omega) (v280 + (-8)) H310 w312 f314 ⟨by omega, by omega⟩ rfl)
  exact wp_lc (ks := [2, 0, 1]) (wl_c rfl (wl_c rfl (wl_c rfl wl_n))) rfl (by decide) (lp277 _ 24 H hW wfr.rf ⟨by omega, by omega⟩ rfl)
/-! StrikeAwake.feed(IIIII)I -/
theorem e9 : wq_en 9 = some (0, 6, false, some FieldType.int) := rfl
theorem c9_0 : mc_cd 9 0 = some (.aload_n 0, 1) := by decide +kernel
theorem c9_1 : mc_cd 9 1 = some (.getfield 62, 3) := by decide +kernel
theorem c9_4 : mc_cd 9 4 = some (.sipush 880, 3) := by decide +kernel
theorem c9_7 : mc_cd 9 7 = some (.if_icmp .le 5, 3) := by decide +kernel
theorem c9_10 : mc_cd 9 10 = some (.iconst (-1), 1) := by decide +kernel
theorem c9_11 : mc_cd 9 11 = some (.ireturn, 1) := by decide +kernel
theorem c9_12 : mc_cd 9 12 = some (.aload_n 0, 1) := by decide +kernel
theorem c9_13 : mc_cd 9 13 = some (.iload_n 1, 1) := by decide +kernel
theorem c9_14 : mc_cd 9 14 = some (.invokevirtual 66, 3) := by decide +kernel
theorem c9_17 : mc_cd 9 17 = some (.aload_n 0, 1) := by decide +kernel
theorem c9_18 : mc_cd 9 18 = some (.iload_n 2, 1) := by decide +kernel
theorem c9_19 : mc_cd 9 19 = some (.invokevirtual 66, 3) := by decide +kernel
theorem c9_22 : mc_cd 9 22 = some (.aload_n 0, 1) := by decide +kernel
theorem c9_23 : mc_cd 9 23 = some (.iload_n 3, 1) := by decide +kernel
theorem c9_24 : mc_cd 9 24 = some (.invokevirtual 66, 3) := by decide +kernel
theorem c9_27 : mc_cd 9 27 = some (.aload_n 0, 1) := by decide +kernel
theorem c9_28 : mc_cd 9 28 = some (.iload 4, 2) := by decide +kernel
theorem c9_30 : mc_cd 9 30 = some (.invokevirtual 66, 3) := by decide +kernel
theorem c9_33 : mc_cd 9 33 = some (.aload_n 0, 1) := by decide +kernel
theorem c9_34 : mc_cd 9 34 = some (.iload 5, 2) := by decide +kernel
theorem c9_36 : mc_cd 9 36 = some (.invokevirtual 66, 3) := by decide +kernel
theorem c9_39 : mc_cd 9 39 = some (.aload_n 0, 1) := by decide +kernel
theorem c9_40 : mc_cd 9 40 = some (.getfield 62, 3) := by decide +kernel
theorem c9_43 : mc_cd 9 43 = some (.ireturn, 1) := by decide +kernel
abbrev q_9 (r0 : Nat) (a1 : Int) (a2 : Int) (a3 : Int) (a4 : Int) (a5 : Int) (T : wq_T) (H : wq_H) : Option Value → wq_T → wq_H → Prop := fun r T' H' => T = T' ∧ WT T H' ∧ wfr [(1, 9), (2, 999)] T H H' ∧ ∃ z : Int, some (vI z) = r ∧ ((-2147483648) ≤ z ∧ z ≤ 2147483647)
set_option maxHeartbeats 4000000 in
theorem s_9 {kt : Nat → Option mc_E} {T : wq_T} {H : wq_H} {r0 : Nat} {a1 : Int} {a2 : Int} {a3 : Int} {a4 : Int} {a5 : Int} (hW : WT T H) (g0 : T.2.2.2 r0 = some 1) (i1 : (-2147483648) ≤ a1 ∧ a1 ≤ 2147483647) (i2 : (-2147483648) ≤ a2 ∧ a2 ≤ 2147483647) (i3 : (-2147483648) ≤ a3 ∧ a3 ≤ 2147483647) (i4 : (-2147483648) ≤ a4 ∧ a4 ≤ 2147483647) (i5 : (-2147483648) ≤ a5 ∧ a5 ≤ 2147483647) : wpc kt 2 9 [.ref r0, vI a1, vI a2, vI a3, vI a4, vI a5] T H (q_9 r0 a1 a2 a3 a4 a5 T H) := by
  refine wp_enter e9 (Nat.le_of_ble_eq_true rfl) rfl ?_
  have f0 : wfr [(1, 9), (2, 999)] T H H := wfr.rf
  show wp _ _ 9 0 [(0, .ref r0), (1, vI a1), (2, vI a2), (3, vI a3), (4, vI a4), (5, vI a5)] [] _ H _
  refine wp_of e9 c9_0 (rw_aload_n (pc' := 1) (v := .ref r0) rfl rfl rfl ?_)
  refine wp_of e9 c9_1 (xg_I (pc' := 4) lf_0_62 hW g0 sh_1 (by decide) (by decide) ty_1_9 rfl rfl (fun b366 b367 => ?_))
  refine wp_of e9 c9_4 (rw_sipush (pc' := 7) (z := 880) rfl (by decide) ?_)
  refine wp_of e9 c9_7 (rw_icmp_le (p1 := 12) (p2 := 10) (by decide) rfl ⟨by omega, by omega⟩ ⟨by omega, by omega⟩ (fun c368 => ?_) (fun c368 => ?_))
  · refine wp_of e9 c9_12 (rw_aload_n (pc' := 13) (v := .ref r0) rfl rfl rfl ?_)
    refine wp_of e9 c9_13 (rw_iload_n (pc' := 14) (z := a1) rfl rfl ?_)
    refine wp_of e9 c9_14 (xc_V (pc' := 17) (r := r0) (as := [vI a1]) (st := []) (lm_0_66) rfl rfl (Nat.le_of_ble_eq_true rfl) hW g0 sh_1 (by decide) rfl (by decide) (s_10 hW g0 ⟨by omega, by omega⟩) (fun R369 T370 H371 p372 => ?_))
    obtain ⟨e373, w375, f376, e374⟩ := p372
    subst e373
    subst e374
    have f377 := f0.tr f376 rfl
    show wp _ _ 9 17 [(0, .ref r0), (1, vI a1), (2, vI a2), (3, vI a3), (4, vI a4), (5, vI a5)] [] _ H371 _
    refine wp_of e9 c9_17 (rw_aload_n (pc' := 18) (v := .ref r0) rfl rfl rfl ?_)
    refine wp_of e9 c9_18 (rw_iload_n (pc' := 19) (z := a2) rfl rfl ?_)
    refine wp_of e9 c9_19 (xc_V (pc' := 22) (r := r0) (as := [vI a2]) (st := []) (lm_0_66) rfl rfl (Nat.le_of_ble_eq_true rfl) w375 g0 sh_1 (by decide) rfl (by decide) (s_10 w375 g0 ⟨by omega, by omega⟩) (fun R378 T379 H380 p381 => ?_))
    obtain ⟨e382, w384, f385, e383⟩ := p381
    subst e382
    subst e383
    have f386 := f377.tr f385 rfl
    show wp _ _ 9 22 [(0, .ref r0), (1, vI a1), (2, vI a2), (3, vI a3), (4, vI a4), (5, vI a5)] [] _ H380 _
    refine wp_of e9 c9_22 (rw_aload_n (pc' := 23) (v := .ref r0) rfl rfl rfl ?_)
    refine wp_of e9 c9_23 (rw_iload_n (pc' := 24) (z := a3) rfl rfl ?_)
    refine wp_of e9 c9_24 (xc_V (pc' := 27) (r := r0) (as := [vI a3]) (st := []) (lm_0_66) rfl rfl (Nat.le_of_ble_eq_true rfl) w384 g0 sh_1 (by decide) rfl (by decide) (s_10 w384 g0 ⟨by omega, by omega⟩) (fun R387 T388 H389 p390 => ?_))
    obtain ⟨e391, w393, f394, e392⟩ := p390
    subst e391
    subst e392
    have f395 := f386.tr f394 rfl
    show wp _ _ 9 27 [(0, .ref r0), (1, vI a1), (2, vI a2), (3, vI a3), (4, vI a4), (5, vI a5)] [] _ H389 _
    refine wp_of e9 c9_27 (rw_aload_n (pc' := 28) (v := .ref r0) rfl rfl rfl ?_)
    refine wp_of e9 c9_28 (rw_iload (pc' := 30) (z := a4) rfl rfl ?_)
    refine wp_of e9 c9_30 (xc_V (pc' := 33) (r := r0) (as := [vI a4]) (st := []) (lm_0_66) rfl rfl (Nat.le_of_ble_eq_true rfl) w393 g0 sh_1 (by decide) rfl (by decide) (s_10 w393 g0 ⟨by omega, by omega⟩) (fun R396 T397 H398 p399 => ?_))
    obtain ⟨e400, w402, f403, e401⟩ := p399
    subst e400
    subst e401
    have f404 := f395.tr f403 rfl
    show wp _ _ 9 33 [(0, .ref r0), (1, vI a1), (2, vI a2), (3, vI a3), (4, vI a4), (5, vI a5)] [] _ H398 _
    refine wp_of e9 c9_33 (rw_aload_n (pc' := 34) (v := .ref r0) rfl rfl rfl ?_)
    refine wp_of e9 c9_34 (rw_iload (pc' := 36) (z := a5) rfl rfl ?_)
    refine wp_of e9 c9_36 (xc_V (pc' := 39) (r := r0) (as := [vI a5]) (st := []) (lm_0_66) rfl rfl (Nat.le_of_ble_eq_true rfl) w402 g0 sh_1 (by decide) rfl (by decide) (s_10 w402 g0 ⟨by omega, by omega⟩) (fun R405 T406 H407 p408 => ?_))
    obtain ⟨e409, w411, f412, e410⟩ := p408
    subst e409
    subst e410
    have f413 := f404.tr f412 rfl
    show wp _ _ 9 39 [(0, .ref r0), (1, vI a1), (2, vI a2), (3, vI a3), (4, vI a4), (5, vI a5)] [] _ H407 _
    refine wp_of e9 c9_39 (rw_aload_n (pc' := 40) (v := .ref r0) rfl rfl rfl ?_)
    refine wp_of e9 c9_40 (xg_I (pc' := 43) lf_0_62 w411 g0 sh_1 (by decide) (by decide) ty_1_9 rfl rfl (fun b414 b415 => ?_))
    exact wp_ireturn e9 c9_43 rfl ⟨rfl, w411, f413, H407 r0 9, rfl, ⟨by omega, by omega⟩⟩
  · refine wp_of e9 c9_10 (rw_iconst (pc' := 11) rfl ?_)
    exact wp_ireturn e9 c9_11 rfl ⟨rfl, hW, f0, -1, rfl, ⟨by omega, by omega⟩⟩
/-! StrikeAwake.refuse(I)I -/
theorem e12 : wq_en 12 = some (0, 2, false, some FieldType.int) := rfl
theorem c12_0 : mc_cd 12 0 = some (.aload_n 0, 1) := by decide +kernel
theorem c12_1 : mc_cd 12 1 = some (.iload_n 1, 1) := by decide +kernel
theorem c12_2 : mc_cd 12 2 = some (.putfield 102, 3) := by decide +kernel
theorem c12_5 : mc_cd 12 5 = some (.iconst (-1), 1) := by decide +kernel
theorem c12_6 : mc_cd 12 6 = some (.ireturn, 1) := by decide +kernel
abbrev q_12 (r0 : Nat) (a1 : Int) (T : wq_T) (H : wq_H) : Option Value → wq_T → wq_H → Prop := fun r T' H' => T = T' ∧ WT T H' ∧ wfr [(1, 10)] T H H' ∧ ∃ z : Int, some (vI z) = r ∧ ((-2147483648) ≤ z ∧ z ≤ 2147483647)
set_option maxHeartbeats 4000000 in
theorem s_12 {kt : Nat → Option mc_E} {T : wq_T} {H : wq_H} {r0 : Nat} {a1 : Int} (hW : WT T H) (g0 : T.2.2.2 r0 = some 1) (i1 : (-2147483648) ≤ a1 ∧ a1 ≤ 2147483647) : wpc kt 1 12 [.ref r0, vI a1] T H (q_12 r0 a1 T H) := by
  refine wp_enter e12 (Nat.le_of_ble_eq_true rfl) rfl ?_
  have f0 : wfr [(1, 10)] T H H := wfr.rf
  show wp _ _ 12 0 [(0, .ref r0), (1, vI a1)] [] _ H _
  refine wp_of e12 c12_0 (rw_aload_n (pc' := 1) (v := .ref r0) rfl rfl rfl ?_)
  refine wp_of e12 c12_1 (rw_iload_n (pc' := 2) (z := a1) rfl rfl ?_)
  refine wp_of e12 c12_2 (xp_I (pc' := 5) lf_0_102 hW g0 sh_1 (by decide) (by decide) ty_1_10 rfl rfl (by omega) (by omega) ⟨by omega, by omega⟩ rfl (fun H421 e422 w423 => ?_))
  have f424 := f0.put' e422 g0 rfl
  have k425 : H421 r0 10 = a1 := wq_u_s e422
  refine wp_of e12 c12_5 (rw_iconst (pc' := 6) rfl ?_)
  exact wp_ireturn e12 c12_6 rfl ⟨rfl, w423, f424, -1, rfl, ⟨by omega, by omega⟩⟩
/-! StrikeAwake$Parish.clear()V -/
theorem e14 : wq_en 14 = some (7, 2, false, none) := rfl
theorem c14_0 : mc_cd 14 0 = some (.aload_n 0, 1) := by decide +kernel
theorem c14_1 : mc_cd 14 1 = some (.iconst 0, 1) := by decide +kernel
theorem c14_2 : mc_cd 14 2 = some (.putfield 41, 3) := by decide +kernel
theorem c14_5 : mc_cd 14 5 = some (.aload_n 0, 1) := by decide +kernel
theorem c14_6 : mc_cd 14 6 = some (.iconst 0, 1) := by decide +kernel
theorem c14_7 : mc_cd 14 7 = some (.putfield 44, 3) := by decide +kernel
theorem c14_10 : mc_cd 14 10 = some (.aload_n 0, 1) := by decide +kernel
theorem c14_11 : mc_cd 14 11 = some (.iconst 0, 1) := by decide +kernel
theorem c14_12 : mc_cd 14 12 = some (.putfield 47, 3) := by decide +kernel
theorem c14_15 : mc_cd 14 15 = some (.aload_n 0, 1) := by decide +kernel
theorem c14_16 : mc_cd 14 16 = some (.iconst 0, 1) := by decide +kernel
theorem c14_17 : mc_cd 14 17 = some (.putfield 50, 3) := by decide +kernel
theorem c14_20 : mc_cd 14 20 = some (.aload_n 0, 1) := by decide +kernel
theorem c14_21 : mc_cd 14 21 = some (.iconst 0, 1) := by decide +kernel
theorem c14_22 : mc_cd 14 22 = some (.putfield 53, 3) := by decide +kernel
theorem c14_25 : mc_cd 14 25 = some (.aload_n 0, 1) := by decide +kernel
theorem c14_26 : mc_cd 14 26 = some (.iconst 0, 1) := by decide +kernel
theorem c14_27 : mc_cd 14 27 = some (.putfield 56, 3) := by decide +kernel
theorem c14_30 : mc_cd 14 30 = some (.aload_n 0, 1) := by decide +kernel
theorem c14_31 : mc_cd 14 31 = some (.iconst 0, 1) := by decide +kernel
theorem c14_32 : mc_cd 14 32 = some (.putfield 59, 3) := by decide +kernel
theorem c14_35 : mc_cd 14 35 = some (.aload_n 0, 1) := by decide +kernel
theorem c14_36 : mc_cd 14 36 = some (.iconst 0, 1) := by decide +kernel
theorem c14_37 : mc_cd 14 37 = some (.putfield 62, 3) := by decide +kernel
theorem c14_40 : mc_cd 14 40 = some (.aload_n 0, 1) := by decide +kernel
theorem c14_41 : mc_cd 14 41 = some (.bipush (-2), 2) := by decide +kernel
theorem c14_43 : mc_cd 14 43 = some (.putfield 37, 3) := by decide +kernel
theorem c14_46 : mc_cd 14 46 = some (.aload_n 0, 1) := by decide +kernel
theorem c14_47 : mc_cd 14 47 = some (.iconst 0, 1) := by decide +kernel
theorem c14_48 : mc_cd 14 48 = some (.putfield 65, 3) := by decide +kernel
theorem c14_51 : mc_cd 14 51 = some (.aload_n 0, 1) := by decide +kernel
theorem c14_52 : mc_cd 14 52 = some (.iconst 0, 1) := by decide +kernel
theorem c14_53 : mc_cd 14 53 = some (.putfield 68, 3) := by decide +kernel
theorem c14_56 : mc_cd 14 56 = some (.aload_n 0, 1) := by decide +kernel
theorem c14_57 : mc_cd 14 57 = some (.lconst 0, 1) := by decide +kernel
theorem c14_58 : mc_cd 14 58 = some (.putfield 71, 3) := by decide +kernel
theorem c14_61 : mc_cd 14 61 = some (.iconst 0, 1) := by decide +kernel
theorem c14_62 : mc_cd 14 62 = some (.istore_n 1, 1) := by decide +kernel
theorem c14_63 : mc_cd 14 63 = some (.iload_n 1, 1) := by decide +kernel
theorem c14_64 : mc_cd 14 64 = some (.bipush 24, 2) := by decide +kernel
theorem c14_66 : mc_cd 14 66 = some (.if_icmp .ge 17, 3) := by decide +kernel
theorem c14_69 : mc_cd 14 69 = some (.aload_n 0, 1) := by decide +kernel
theorem c14_70 : mc_cd 14 70 = some (.getfield 17, 3) := by decide +kernel
theorem c14_73 : mc_cd 14 73 = some (.iload_n 1, 1) := by decide +kernel
theorem c14_74 : mc_cd 14 74 = some (.bipush (-2), 2) := by decide +kernel
theorem c14_76 : mc_cd 14 76 = some (.iastore, 1) := by decide +kernel
theorem c14_77 : mc_cd 14 77 = some (.iinc 1 1, 3) := by decide +kernel
theorem c14_80 : mc_cd 14 80 = some (.goto (-17), 3) := by decide +kernel
theorem c14_83 : mc_cd 14 83 = some (.return_, 1) := by decide +kernel
abbrev q_14 (r0 : Nat) (T : wq_T) (H : wq_H) : Option Value → wq_T → wq_H → Prop := fun r T' H' => T = T' ∧ WT T H' ∧ wfr [(27, 7), (27, 8), (27, 9), (27, 10), (27, 11), (27, 12), (27, 13), (27, 14), (27, 15), (27, 16), (27, 17), (27, 18), (29, 999)] T H H' ∧ none = r
set_option maxHeartbeats 4000000 in
theorem s_14 {kt : Nat → Option mc_E} {T : wq_T} {H : wq_H} {r0 : Nat} (hW : WT T H) (g0 : T.2.2.2 r0 = some 27) : wpc kt 1 14 [.ref r0] T H (q_14 r0 T H) := by
  refine wp_enter e14 (Nat.le_of_ble_eq_true rfl) rfl ?_
  have f0 : wfr [(27, 7), (27, 8), (27, 9), (27, 10), (27, 11), (27, 12), (27, 13), (27, 14), (27, 15), (27, 16), (27, 17), (27, 18), (29, 999)] T H H := wfr.rf
  show wp _ _ 14 0 [(0, .ref r0)] [] _ H _
  refine wp_of e14 c14_0 (rw_aload_n (pc' := 1) (v := .ref r0) rfl rfl rfl ?_)
  refine wp_of e14 c14_1 (rw_iconst (pc' := 2) rfl ?_)
  refine wp_of e14 c14_2 (xp_I (pc' := 5) lf_7_41 hW g0 sh_27 (by decide) (by decide) ty_27_7 rfl rfl (by omega) (by omega) ⟨by omega, by omega⟩ rfl (fun H559 e560 w561 => ?_))
  have f562 := f0.put' e560 g0 rfl
  have k563 : H559 r0 7 = 0 := wq_u_s e560
  refine wp_of e14 c14_5 (rw_aload_n (pc' := 6) (v := .ref r0) rfl rfl rfl ?_)
  refine wp_of e14 c14_6 (rw_iconst (pc' := 7) rfl ?_)
  refine wp_of e14 c14_7 (xp_I (pc' := 10) lf_7_44 w561 g0 sh_27 (by decide) (by decide) ty_27_8 rfl rfl (by omega) (by omega) ⟨by omega, by omega⟩ rfl (fun H564 e565 w566 => ?_))
  have f567 := f562.put' e565 g0 rfl
  have k568 : H564 r0 8 = 0 := wq_u_s e565
  refine wp_of e14 c14_10 (rw_aload_n (pc' := 11) (v := .ref r0) rfl rfl rfl ?_)
  refine wp_of e14 c14_11 (rw_iconst (pc' := 12) rfl ?_)
  refine wp_of e14 c14_12 (xp_I (pc' := 15) lf_7_47 w566 g0 sh_27 (by decide) (by decide) ty_27_9 rfl rfl (by omega) (by omega) ⟨by omega, by omega⟩ rfl (fun H569 e570 w571 => ?_))
  have f572 := f567.put' e570 g0 rfl
  have k573 : H569 r0 9 = 0 := wq_u_s e570
  refine wp_of e14 c14_15 (rw_aload_n (pc' := 16) (v := .ref r0) rfl rfl rfl ?_)
  refine wp_of e14 c14_16 (rw_iconst (pc' := 17) rfl ?_)
  refine wp_of e14 c14_17 (xp_I (pc' := 20) lf_7_50 w571 g0 sh_27 (by decide) (by decide) ty_27_10 rfl rfl (by omega) (by omega) ⟨by omega, by omega⟩ rfl (fun H574 e575 w576 => ?_))
  have f577 := f572.put' e575 g0 rfl
  have k578 : H574 r0 10 = 0 := wq_u_s e575
  refine wp_of e14 c14_20 (rw_aload_n (pc' := 21) (v := .ref r0) rfl rfl rfl ?_)
  refine wp_of e14 c14_21 (rw_iconst (pc' := 22) rfl ?_)
  refine wp_of e14 c14_22 (xp_I (pc' := 25) lf_7_53 w576 g0 sh_27 (by decide) (by decide) ty_27_11 rfl rfl (by omega) (by omega) ⟨by omega, by omega⟩ rfl (fun H579 e580 w581 => ?_))
  have f582 := f577.put' e580 g0 rfl
  have k583 : H579 r0 11 = 0 := wq_u_s e580
  refine wp_of e14 c14_25 (rw_aload_n (pc' := 26) (v := .ref r0) rfl rfl rfl ?_)
  refine wp_of e14 c14_26 (rw_iconst (pc' := 27) rfl ?_)
  refine wp_of e14 c14_27 (xp_I (pc' := 30) lf_7_56 w581 g0 sh_27 (by decide) (by decide) ty_27_12 rfl rfl (by omega) (by omega) ⟨by omega, by omega⟩ rfl (fun H584 e585 w586 => ?_))
  have f587 := f582.put' e585 g0 rfl
  have k588 : H584 r0 12 = 0 := wq_u_s e585
  refine wp_of e14 c14_30 (rw_aload_n (pc' := 31) (v := .ref r0) rfl rfl rfl ?_)
  refine wp_of e14 c14_31 (rw_iconst (pc' := 32) rfl ?_)
  refine wp_of e14 c14_32 (xp_I (pc' := 35) lf_7_59 w586 g0 sh_27 (by decide) (by decide) ty_27_13 rfl rfl (by omega) (by omega) ⟨by omega, by omega⟩ rfl (fun H589 e590 w591 => ?_))
  have f592 := f587.put' e590 g0 rfl
  have k593 : H589 r0 13 = 0 := wq_u_s e590
  refine wp_of e14 c14_35 (rw_aload_n (pc' := 36) (v := .ref r0) rfl rfl rfl ?_)
  refine wp_of e14 c14_36 (rw_iconst (pc' := 37) rfl ?_)
  refine wp_of e14 c14_37 (xp_I (pc' := 40) lf_7_62 w591 g0 sh_27 (by decide) (by decide) ty_27_14 rfl rfl (by omega) (by omega) ⟨by omega, by omega⟩ rfl (fun H594 e595 w596 => ?_))
  have f597 := f592.put' e595 g0 rfl
  have k598 : H594 r0 14 = 0 := wq_u_s e595
  refine wp_of e14 c14_40 (rw_aload_n (pc' := 41) (v := .ref r0) rfl rfl rfl ?_)
  refine wp_of e14 c14_41 (rw_bipush (pc' := 43) (z := -2) rfl (by decide) ?_)
  refine wp_of e14 c14_43 (xp_I (pc' := 46) lf_7_37 w596 g0 sh_27 (by decide) (by decide) ty_27_15 rfl rfl (by omega) (by omega) ⟨by omega, by omega⟩ rfl (fun H599 e600 w601 => ?_))
  have f602 := f597.put' e600 g0 rfl
  have k603 : H599 r0 15 = -2 := wq_u_s e600
  refine wp_of e14 c14_46 (rw_aload_n (pc' := 47) (v := .ref r0) rfl rfl rfl ?_)
  refine wp_of e14 c14_47 (rw_iconst (pc' := 48) rfl ?_)
  refine wp_of e14 c14_48 (xp_I (pc' := 51) lf_7_65 w601 g0 sh_27 (by decide) (by decide) ty_27_16 rfl rfl (by omega) (by omega) ⟨by omega, by omega⟩ rfl (fun H604 e605 w606 => ?_))
  have f607 := f602.put' e605 g0 rfl
  have k608 : H604 r0 16 = 0 := wq_u_s e605
  refine wp_of e14 c14_51 (rw_aload_n (pc' := 52) (v := .ref r0) rfl rfl rfl ?_)
  refine wp_of e14 c14_52 (rw_iconst (pc' := 53) rfl ?_)
  refine wp_of e14 c14_53 (xp_I (pc' := 56) lf_7_68 w606 g0 sh_27 (by decide) (by decide) ty_27_17 rfl rfl (by omega) (by omega) ⟨by omega, by omega⟩ rfl (fun H609 e610 w611 => ?_))
  have f612 := f607.put' e610 g0 rfl
  have k613 : H609 r0 17 = 0 := wq_u_s e610
  refine wp_of e14 c14_56 (rw_aload_n (pc' := 57) (v := .ref r0) rfl rfl rfl ?_)
  refine wp_of e14 c14_57 (rw_lconst (pc' := 58) (z := 0) rfl rfl ?_)
  refine wp_of e14 c14_58 (xp_L (pc' := 61) lf_7_71 w611 g0 sh_27 (by decide) (by decide) ty_27_18 rfl rfl (by omega) (by omega) ⟨by omega, by omega⟩ rfl (fun H614 e615 w616 => ?_))
  have f617 := f612.put' e615 g0 rfl
  have k618 : H614 r0 18 = 0 := wq_u_s e615
  refine wp_of e14 c14_61 (rw_iconst (pc' := 62) rfl ?_)
  refine wp_of e14 c14_62 (rw_istore_n (pc' := 63) (z := 0) (L' := [(1, vI 0), (0, .ref r0)]) rfl rfl rfl ?_)
  have lp683 : ∀ (n684 : Nat) (v686 : Int) (H687 : wq_H), WT T H687 → wfr [(29, 999)] T H614 H687 → (0 ≤ v686 ∧ v686 ≤ 24) → (24 - v686).toNat = n684 → wp kt 0 14 63 [(1, vI v686), (0, .ref r0)] [] T H687 (q_14 r0 T H) := by
    intro n684
    induction n684 using Nat.strongRecOn with
    | _ n684 ih685 =>
      intro v686 H687 w688 f689 b690 m691
      have f692 := f617.tr f689 rfl
      refine wp_of e14 c14_63 (rw_iload_n (pc' := 64) (z := v686) rfl rfl ?_)
      refine wp_of e14 c14_64 (rw_bipush (pc' := 66) (z := 24) rfl (by decide) ?_)
      refine wp_of e14 c14_66 (rw_icmp_ge (p1 := 83) (p2 := 69) (by decide) rfl ⟨by omega, by omega⟩ ⟨by omega, by omega⟩ (fun c693 => ?_) (fun c693 => ?_))
      · exact wp_return e14 c14_83 rfl ⟨rfl, w688, f692, rfl⟩
      · refine wp_of e14 c14_69 (rw_aload_n (pc' := 70) (v := .ref r0) rfl rfl rfl ?_)
        refine wp_of e14 c14_70 (xg_R (pc' := 73) lf_7_17 w688 g0 sh_27 (by decide) (by decide) ty_27_1 rfl rfl (fun r694 q695 g696 => ?_))
        refine wp_of e14 c14_73 (rw_iload_n (pc' := 74) (z := v686) rfl rfl ?_)
        refine wp_of e14 c14_74 (rw_bipush (pc' := 76) (z := -2) rfl (by decide) ?_)
        refine wp_of e14 c14_76 (xs_I (pc' := 77) w688 g696 (by decide) sh_29 (by decide) (ty_29 _) (by omega) (by omega) ⟨by omega, by omega⟩ (by omega) (by omega) rfl (fun H697 e698 w699 => ?_))
        have f700 := f692.put' e698 g696 rfl
        have f701 := f689.put' e698 g696 rfl
        refine wp_of e14 c14_77 (rw_iinc (pc' := 80) (z := v686) (L' := [(1, vI (v686 + 1)), (0, .ref r0)]) rfl rfl rfl rfl ?_)
        refine wp_of e14 c14_80 (rw_goto (p1 := 63) (by decide) ?_)
        exact wp_lc (ks := [1, 0]) (wl_c rfl (wl_c rfl wl_n)) rfl (by decide) (ih685 _ (by omega) (v686 + 1) H697 w699 f701 ⟨by omega, by omega⟩ rfl)
  exact wp_lc (ks := [1, 0]) (wl_c rfl (wl_c rfl wl_n)) rfl (by decide) (lp683 _ 0 H614 w616 wfr.rf ⟨by omega, by omega⟩ rfl)
/-! StrikeAwake$Tokens.advance()V -/
theorem e16 : wq_en 16 = some (2, 4, false, none) := rfl
theorem c16_0 : mc_cd 16 0 = some (.aload_n 0, 1) := by decide +kernel
theorem c16_1 : mc_cd 16 1 = some (.getfield 23, 3) := by decide +kernel
theorem c16_4 : mc_cd 16 4 = some (.istore_n 1, 1) := by decide +kernel
theorem c16_5 : mc_cd 16 5 = some (.iload_n 1, 1) := by decide +kernel
theorem c16_6 : mc_cd 16 6 = some (.aload_n 0, 1) := by decide +kernel
theorem c16_7 : mc_cd 16 7 = some (.getfield 19, 3) := by decide +kernel
theorem c16_10 : mc_cd 16 10 = some (.if_icmp .ge 20, 3) := by decide +kernel
theorem c16_13 : mc_cd 16 13 = some (.aload_n 0, 1) := by decide +kernel
theorem c16_14 : mc_cd 16 14 = some (.getfield 7, 3) := by decide +kernel
theorem c16_17 : mc_cd 16 17 = some (.iload_n 1, 1) := by decide +kernel
theorem c16_18 : mc_cd 16 18 = some (.baload, 1) := by decide +kernel
theorem c16_19 : mc_cd 16 19 = some (.bipush 32, 2) := by decide +kernel
theorem c16_21 : mc_cd 16 21 = some (.if_icmp .ne 9, 3) := by decide +kernel
theorem c16_24 : mc_cd 16 24 = some (.iinc 1 1, 3) := by decide +kernel
theorem c16_27 : mc_cd 16 27 = some (.goto (-22), 3) := by decide +kernel
theorem c16_30 : mc_cd 16 30 = some (.aload_n 0, 1) := by decide +kernel
theorem c16_31 : mc_cd 16 31 = some (.iload_n 1, 1) := by decide +kernel
theorem c16_32 : mc_cd 16 32 = some (.putfield 29, 3) := by decide +kernel
theorem c16_35 : mc_cd 16 35 = some (.aload_n 0, 1) := by decide +kernel
theorem c16_36 : mc_cd 16 36 = some (.lconst 0, 1) := by decide +kernel
theorem c16_37 : mc_cd 16 37 = some (.putfield 32, 3) := by decide +kernel
theorem c16_40 : mc_cd 16 40 = some (.iload_n 1, 1) := by decide +kernel
theorem c16_41 : mc_cd 16 41 = some (.aload_n 0, 1) := by decide +kernel
theorem c16_42 : mc_cd 16 42 = some (.getfield 19, 3) := by decide +kernel
theorem c16_45 : mc_cd 16 45 = some (.if_icmp .ge 56, 3) := by decide +kernel
theorem c16_48 : mc_cd 16 48 = some (.aload_n 0, 1) := by decide +kernel
theorem c16_49 : mc_cd 16 49 = some (.getfield 7, 3) := by decide +kernel
theorem c16_52 : mc_cd 16 52 = some (.iload_n 1, 1) := by decide +kernel
theorem c16_53 : mc_cd 16 53 = some (.baload, 1) := by decide +kernel
theorem c16_54 : mc_cd 16 54 = some (.bipush 97, 2) := by decide +kernel
theorem c16_56 : mc_cd 16 56 = some (.if_icmp .lt 45, 3) := by decide +kernel
theorem c16_59 : mc_cd 16 59 = some (.aload_n 0, 1) := by decide +kernel
theorem c16_60 : mc_cd 16 60 = some (.getfield 7, 3) := by decide +kernel
theorem c16_63 : mc_cd 16 63 = some (.iload_n 1, 1) := by decide +kernel
theorem c16_64 : mc_cd 16 64 = some (.baload, 1) := by decide +kernel
theorem c16_65 : mc_cd 16 65 = some (.bipush 122, 2) := by decide +kernel
theorem c16_67 : mc_cd 16 67 = some (.if_icmp .gt 34, 3) := by decide +kernel
theorem c16_70 : mc_cd 16 70 = some (.aload_n 0, 1) := by decide +kernel
theorem c16_71 : mc_cd 16 71 = some (.aload_n 0, 1) := by decide +kernel
theorem c16_72 : mc_cd 16 72 = some (.getfield 32, 3) := by decide +kernel
theorem c16_75 : mc_cd 16 75 = some (.ldc2_w 36, 3) := by decide +kernel
theorem c16_78 : mc_cd 16 78 = some (.lmul, 1) := by decide +kernel
theorem c16_79 : mc_cd 16 79 = some (.aload_n 0, 1) := by decide +kernel
theorem c16_80 : mc_cd 16 80 = some (.getfield 7, 3) := by decide +kernel
theorem c16_83 : mc_cd 16 83 = some (.iload_n 1, 1) := by decide +kernel
theorem c16_84 : mc_cd 16 84 = some (.baload, 1) := by decide +kernel
theorem c16_85 : mc_cd 16 85 = some (.bipush 97, 2) := by decide +kernel
theorem c16_87 : mc_cd 16 87 = some (.isub, 1) := by decide +kernel
theorem c16_88 : mc_cd 16 88 = some (.iconst 1, 1) := by decide +kernel
theorem c16_89 : mc_cd 16 89 = some (.iadd, 1) := by decide +kernel
theorem c16_90 : mc_cd 16 90 = some (.i2l, 1) := by decide +kernel
theorem c16_91 : mc_cd 16 91 = some (.ladd, 1) := by decide +kernel
theorem c16_92 : mc_cd 16 92 = some (.putfield 32, 3) := by decide +kernel
theorem c16_95 : mc_cd 16 95 = some (.iinc 1 1, 3) := by decide +kernel
theorem c16_98 : mc_cd 16 98 = some (.goto (-58), 3) := by decide +kernel
theorem c16_101 : mc_cd 16 101 = some (.iload_n 1, 1) := by decide +kernel
theorem c16_102 : mc_cd 16 102 = some (.aload_n 0, 1) := by decide +kernel
theorem c16_103 : mc_cd 16 103 = some (.getfield 29, 3) := by decide +kernel
theorem c16_106 : mc_cd 16 106 = some (.isub, 1) := by decide +kernel
theorem c16_107 : mc_cd 16 107 = some (.istore_n 2, 1) := by decide +kernel
theorem c16_108 : mc_cd 16 108 = some (.aload_n 0, 1) := by decide +kernel
theorem c16_109 : mc_cd 16 109 = some (.iconst 0, 1) := by decide +kernel
theorem c16_110 : mc_cd 16 110 = some (.putfield 38, 3) := by decide +kernel
theorem c16_113 : mc_cd 16 113 = some (.iload_n 1, 1) := by decide +kernel
theorem c16_114 : mc_cd 16 114 = some (.aload_n 0, 1) := by decide +kernel
theorem c16_115 : mc_cd 16 115 = some (.getfield 19, 3) := by decide +kernel
theorem c16_118 : mc_cd 16 118 = some (.if_icmp .ge 56, 3) := by decide +kernel
theorem c16_121 : mc_cd 16 121 = some (.iload_n 2, 1) := by decide +kernel
theorem c16_122 : mc_cd 16 122 = some (.ifCond .ne 52, 3) := by decide +kernel
theorem c16_125 : mc_cd 16 125 = some (.aload_n 0, 1) := by decide +kernel
theorem c16_126 : mc_cd 16 126 = some (.getfield 7, 3) := by decide +kernel
theorem c16_129 : mc_cd 16 129 = some (.iload_n 1, 1) := by decide +kernel
theorem c16_130 : mc_cd 16 130 = some (.baload, 1) := by decide +kernel
theorem c16_131 : mc_cd 16 131 = some (.bipush 48, 2) := by decide +kernel
theorem c16_133 : mc_cd 16 133 = some (.if_icmp .lt 41, 3) := by decide +kernel
theorem c16_136 : mc_cd 16 136 = some (.aload_n 0, 1) := by decide +kernel
theorem c16_137 : mc_cd 16 137 = some (.getfield 7, 3) := by decide +kernel
theorem c16_140 : mc_cd 16 140 = some (.iload_n 1, 1) := by decide +kernel
theorem c16_141 : mc_cd 16 141 = some (.baload, 1) := by decide +kernel
theorem c16_142 : mc_cd 16 142 = some (.bipush 57, 2) := by decide +kernel
theorem c16_144 : mc_cd 16 144 = some (.if_icmp .gt 30, 3) := by decide +kernel
theorem c16_147 : mc_cd 16 147 = some (.aload_n 0, 1) := by decide +kernel
theorem c16_148 : mc_cd 16 148 = some (.aload_n 0, 1) := by decide +kernel
theorem c16_149 : mc_cd 16 149 = some (.getfield 38, 3) := by decide +kernel
theorem c16_152 : mc_cd 16 152 = some (.bipush 10, 2) := by decide +kernel
theorem c16_154 : mc_cd 16 154 = some (.imul, 1) := by decide +kernel
theorem c16_155 : mc_cd 16 155 = some (.aload_n 0, 1) := by decide +kernel
theorem c16_156 : mc_cd 16 156 = some (.getfield 7, 3) := by decide +kernel
theorem c16_159 : mc_cd 16 159 = some (.iload_n 1, 1) := by decide +kernel
theorem c16_160 : mc_cd 16 160 = some (.baload, 1) := by decide +kernel
theorem c16_161 : mc_cd 16 161 = some (.bipush 48, 2) := by decide +kernel
theorem c16_163 : mc_cd 16 163 = some (.isub, 1) := by decide +kernel
theorem c16_164 : mc_cd 16 164 = some (.iadd, 1) := by decide +kernel
theorem c16_165 : mc_cd 16 165 = some (.putfield 38, 3) := by decide +kernel
theorem c16_168 : mc_cd 16 168 = some (.iinc 1 1, 3) := by decide +kernel
theorem c16_171 : mc_cd 16 171 = some (.goto (-58), 3) := by decide +kernel
theorem c16_174 : mc_cd 16 174 = some (.iload_n 1, 1) := by decide +kernel
theorem c16_175 : mc_cd 16 175 = some (.aload_n 0, 1) := by decide +kernel
theorem c16_176 : mc_cd 16 176 = some (.getfield 29, 3) := by decide +kernel
theorem c16_179 : mc_cd 16 179 = some (.isub, 1) := by decide +kernel
theorem c16_180 : mc_cd 16 180 = some (.iload_n 2, 1) := by decide +kernel
theorem c16_181 : mc_cd 16 181 = some (.isub, 1) := by decide +kernel
theorem c16_182 : mc_cd 16 182 = some (.istore_n 3, 1) := by decide +kernel
theorem c16_183 : mc_cd 16 183 = some (.iload_n 2, 1) := by decide +kernel
theorem c16_184 : mc_cd 16 184 = some (.ifCond .le 21, 3) := by decide +kernel
theorem c16_187 : mc_cd 16 187 = some (.aload_n 0, 1) := by decide +kernel
theorem c16_188 : mc_cd 16 188 = some (.iload_n 2, 1) := by decide +kernel
theorem c16_189 : mc_cd 16 189 = some (.bipush 8, 2) := by decide +kernel
theorem c16_191 : mc_cd 16 191 = some (.if_icmp .gt 7, 3) := by decide +kernel
theorem c16_194 : mc_cd 16 194 = some (.iconst 1, 1) := by decide +kernel
theorem c16_195 : mc_cd 16 195 = some (.goto 4, 3) := by decide +kernel
theorem c16_198 : mc_cd 16 198 = some (.iconst 5, 1) := by decide +kernel
theorem c16_199 : mc_cd 16 199 = some (.putfield 41, 3) := by decide +kernel
theorem c16_202 : mc_cd 16 202 = some (.goto 78, 3) := by decide +kernel
theorem c16_205 : mc_cd 16 205 = some (.iload_n 3, 1) := by decide +kernel
theorem c16_206 : mc_cd 16 206 = some (.ifCond .le 20, 3) := by decide +kernel
theorem c16_209 : mc_cd 16 209 = some (.aload_n 0, 1) := by decide +kernel
theorem c16_210 : mc_cd 16 210 = some (.iload_n 3, 1) := by decide +kernel
theorem c16_211 : mc_cd 16 211 = some (.iconst 3, 1) := by decide +kernel
theorem c16_212 : mc_cd 16 212 = some (.if_icmp .gt 7, 3) := by decide +kernel
theorem c16_215 : mc_cd 16 215 = some (.iconst 2, 1) := by decide +kernel
theorem c16_216 : mc_cd 16 216 = some (.goto 4, 3) := by decide +kernel
theorem c16_219 : mc_cd 16 219 = some (.iconst 5, 1) := by decide +kernel
theorem c16_220 : mc_cd 16 220 = some (.putfield 41, 3) := by decide +kernel
theorem c16_223 : mc_cd 16 223 = some (.goto 57, 3) := by decide +kernel
theorem c16_226 : mc_cd 16 226 = some (.iload_n 1, 1) := by decide +kernel
theorem c16_227 : mc_cd 16 227 = some (.aload_n 0, 1) := by decide +kernel
theorem c16_228 : mc_cd 16 228 = some (.getfield 19, 3) := by decide +kernel
theorem c16_231 : mc_cd 16 231 = some (.if_icmp .ge 44, 3) := by decide +kernel
theorem c16_234 : mc_cd 16 234 = some (.aload_n 0, 1) := by decide +kernel
theorem c16_235 : mc_cd 16 235 = some (.aload_n 0, 1) := by decide +kernel
theorem c16_236 : mc_cd 16 236 = some (.getfield 7, 3) := by decide +kernel
theorem c16_239 : mc_cd 16 239 = some (.iload_n 1, 1) := by decide +kernel
theorem c16_240 : mc_cd 16 240 = some (.baload, 1) := by decide +kernel
theorem c16_241 : mc_cd 16 241 = some (.bipush 59, 2) := by decide +kernel
theorem c16_243 : mc_cd 16 243 = some (.if_icmp .ne 7, 3) := by decide +kernel
theorem c16_246 : mc_cd 16 246 = some (.iconst 3, 1) := by decide +kernel
theorem c16_247 : mc_cd 16 247 = some (.goto 19, 3) := by decide +kernel
theorem c16_250 : mc_cd 16 250 = some (.aload_n 0, 1) := by decide +kernel
theorem c16_251 : mc_cd 16 251 = some (.getfield 7, 3) := by decide +kernel
theorem c16_254 : mc_cd 16 254 = some (.iload_n 1, 1) := by decide +kernel
theorem c16_255 : mc_cd 16 255 = some (.baload, 1) := by decide +kernel
theorem c16_256 : mc_cd 16 256 = some (.bipush 44, 2) := by decide +kernel
theorem c16_258 : mc_cd 16 258 = some (.if_icmp .ne 7, 3) := by decide +kernel
theorem c16_261 : mc_cd 16 261 = some (.iconst 4, 1) := by decide +kernel
theorem c16_262 : mc_cd 16 262 = some (.goto 4, 3) := by decide +kernel
theorem c16_265 : mc_cd 16 265 = some (.iconst 5, 1) := by decide +kernel
theorem c16_266 : mc_cd 16 266 = some (.putfield 41, 3) := by decide +kernel
theorem c16_269 : mc_cd 16 269 = some (.iinc 1 1, 3) := by decide +kernel
theorem c16_272 : mc_cd 16 272 = some (.goto 8, 3) := by decide +kernel
theorem c16_275 : mc_cd 16 275 = some (.aload_n 0, 1) := by decide +kernel
theorem c16_276 : mc_cd 16 276 = some (.iconst 0, 1) := by decide +kernel
theorem c16_277 : mc_cd 16 277 = some (.putfield 41, 3) := by decide +kernel
theorem c16_280 : mc_cd 16 280 = some (.aload_n 0, 1) := by decide +kernel
theorem c16_281 : mc_cd 16 281 = some (.iload_n 1, 1) := by decide +kernel
theorem c16_282 : mc_cd 16 282 = some (.putfield 23, 3) := by decide +kernel
theorem c16_285 : mc_cd 16 285 = some (.return_, 1) := by decide +kernel
abbrev q_16 (r0 : Nat) (rb : Nat) (T : wq_T) (H : wq_H) : Option Value → wq_T → wq_H → Prop := fun r T' H' => T = T' ∧ WT T H' ∧ wfr [(4, 2), (4, 3), (4, 4), (4, 5), (4, 6)] T H H' ∧ none = r
set_option maxHeartbeats 4000000 in
theorem s_16 {kt : Nat → Option mc_E} {T : wq_T} {H : wq_H} {r0 : Nat} {rb : Nat} (hW : WT T H) (g0 : T.2.2.2 r0 = some 4) (qrb : H r0 0 = (rb : Int)) (grb : T.2.2.2 rb = some 2) : wpc kt 1 16 [.ref r0] T H (q_16 r0 rb T H) := by
  refine wp_enter e16 (Nat.le_of_ble_eq_true rfl) rfl ?_
  have f0 : wfr [(4, 2), (4, 3), (4, 4), (4, 5), (4, 6)] T H H := wfr.rf
  show wp _ _ 16 0 [(0, .ref r0)] [] _ H _
  refine wp_of e16 c16_0 (rw_aload_n (pc' := 1) (v := .ref r0) rfl rfl rfl ?_)
  refine wp_of e16 c16_1 (xg_I (pc' := 4) lf_2_23 hW g0 sh_4 (by decide) (by decide) ty_4_2 rfl rfl (fun b3345 b3346 => ?_))
  refine wp_of e16 c16_4 (rw_istore_n (pc' := 5) (z := H r0 2) (L' := [(1, vI (H r0 2)), (0, .ref r0)]) rfl rfl rfl ?_)
  have lp3355 : ∀ (n3356 : Nat) (v3358 : Int), (0 ≤ v3358 ∧ v3358 ≤ 900) → (900 - v3358).toNat = n3356 → wp kt 0 16 5 [(1, vI v3358), (0, .ref r0)] [] T H (q_16 r0 rb T H) := by
    intro n3356
    induction n3356 using Nat.strongRecOn with
    | _ n3356 ih3357 =>
      intro v3358 b3361 m3362
      refine wp_of e16 c16_5 (rw_iload_n (pc' := 6) (z := v3358) rfl rfl ?_)
      refine wp_of e16 c16_6 (rw_aload_n (pc' := 7) (v := .ref r0) rfl rfl rfl ?_)
      refine wp_of e16 c16_7 (xg_I (pc' := 10) lf_2_19 hW g0 sh_4 (by decide) (by decide) ty_4_1 rfl rfl (fun b3363 b3364 => ?_))
      refine wp_of e16 c16_10 (rw_icmp_ge (p1 := 30) (p2 := 13) (by decide) rfl ⟨by omega, by omega⟩ ⟨by omega, by omega⟩ (fun c3365 => ?_) (fun c3365 => ?_))
      · refine wp_of e16 c16_30 (rw_aload_n (pc' := 31) (v := .ref r0) rfl rfl rfl ?_)
        refine wp_of e16 c16_31 (rw_iload_n (pc' := 32) (z := v3358) rfl rfl ?_)
        refine wp_of e16 c16_32 (xp_I (pc' := 35) lf_2_29 hW g0 sh_4 (by decide) (by decide) ty_4_4 rfl rfl (by omega) (by omega) ⟨by omega, by omega⟩ rfl (fun H3366 e3367 w3368 => ?_))
        have f3369 := f0.put' e3367 g0 rfl
        have k3370 : H3366 r0 4 = v3358 := wq_u_s e3367
        refine wp_of e16 c16_35 (rw_aload_n (pc' := 36) (v := .ref r0) rfl rfl rfl ?_)
        refine wp_of e16 c16_36 (rw_lconst (pc' := 37) (z := 0) rfl rfl ?_)
        refine wp_of e16 c16_37 (xp_L (pc' := 40) lf_2_32 w3368 g0 sh_4 (by decide) (by decide) ty_4_6 rfl rfl (by omega) (by omega) ⟨by omega, by omega⟩ rfl (fun H3371 e3372 w3373 => ?_))
        have f3374 := f3369.put' e3372 g0 rfl
        have k3375 : H3371 r0 6 = 0 := wq_u_s e3372
        have lp3423 : ∀ (n3424 : Nat) (v3426 : Int) (H3427 : wq_H), WT T H3427 → wfr [(4, 6)] T H3371 H3427 → (0 ≤ v3426 ∧ v3426 ≤ 900) → (900 - v3426).toNat = n3424 → wp kt 0 16 40 [(1, vI v3426), (0, .ref r0)] [] T H3427 (q_16 r0 rb T H) := by
          intro n3424
          induction n3424 using Nat.strongRecOn with
          | _ n3424 ih3425 =>
            intro v3426 H3427 w3428 f3429 b3430 m3431
            have f3432 := f3374.tr f3429 rfl
            refine wp_of e16 c16_40 (rw_iload_n (pc' := 41) (z := v3426) rfl rfl ?_)
            refine wp_of e16 c16_41 (rw_aload_n (pc' := 42) (v := .ref r0) rfl rfl rfl ?_)
            have k3433 : H3427 r0 1 = H r0 1 := ((f3429 r0 1 _ g0 rfl).trans ((wq_u_j e3372 rfl).trans (wq_u_j e3367 rfl)))
            refine wp_of e16 c16_42 (xg_I (pc' := 45) lf_2_19 w3428 g0 sh_4 (by decide) (by decide) ty_4_1 rfl rfl (fun b3434 b3435 => ?_))
            refine wp_of e16 c16_45 (rw_icmp_ge (p1 := 101) (p2 := 48) (by decide) rfl ⟨by omega, by omega⟩ ⟨by omega, by omega⟩ (fun c3436 => ?_) (fun c3436 => ?_))
            · refine wp_of e16 c16_101 (rw_iload_n (pc' := 102) (z := v3426) rfl rfl ?_)
              refine wp_of e16 c16_102 (rw_aload_n (pc' := 103) (v := .ref r0) rfl rfl rfl ?_)
              have k3437 : H3427 r0 4 = H3366 r0 4 := ((f3429 r0 4 _ g0 rfl).trans (wq_u_j e3372 rfl))
              refine wp_of e16 c16_103 (xg_I (pc' := 106) lf_2_29 w3428 g0 sh_4 (by decide) (by decide) ty_4_4 rfl rfl (fun b3438 b3439 => ?_))
              refine wp_of e16 c16_106 (rw_isub (pc' := 107) rfl ?_)
              refine wp_of e16 c16_107 (rw_istore_n (pc' := 108) (z := v3426 - (H3427 r0 4)) (L' := [(2, vI (v3426 - (H3427 r0 4))), (1, vI v3426), (0, .ref r0)]) rfl rfl rfl ?_)
              refine wp_of e16 c16_108 (rw_aload_n (pc' := 109) (v := .ref r0) rfl rfl rfl ?_)
              refine wp_of e16 c16_109 (rw_iconst (pc' := 110) rfl ?_)
              refine wp_of e16 c16_110 (xp_I (pc' := 113) lf_2_38 w3428 g0 sh_4 (by decide) (by decide) ty_4_5 rfl rfl (by omega) (by omega) ⟨by omega, by omega⟩ rfl (fun H3440 e3441 w3442 => ?_))
              have f3443 := f3432.put' e3441 g0 rfl
              have f3444 := f3429.put' e3441 g0 rfl
              have k3445 : H3440 r0 5 = 0 := wq_u_s e3441
              have lp3497 : ∀ (n3498 : Nat) (v3500 : Int) (H3501 : wq_H), WT T H3501 → wfr [(4, 5)] T H3440 H3501 → (0 ≤ v3500 ∧ v3500 ≤ 900) → (900 - v3500).toNat = n3498 → wp kt 0 16 113 [(1, vI v3500), (2, vI (v3426 - (H3427 r0 4))), (0, .ref r0)] [] T H3501 (q_16 r0 rb T H) := by
                intro n3498
                induction n3498 using Nat.strongRecOn with
                | _ n3498 ih3499 =>
                  intro v3500 H3501 w3502 f3503 b3504 m3505
                  have f3506 := f3443.tr f3503 rfl
                  have f3507 := f3444.tr f3503 rfl
                  refine wp_of e16 c16_113 (rw_iload_n (pc' := 114) (z := v3500) rfl rfl ?_)
                  refine wp_of e16 c16_114 (rw_aload_n (pc' := 115) (v := .ref r0) rfl rfl rfl ?_)
                  have k3508 : H3501 r0 1 = H3427 r0 1 := ((f3503 r0 1 _ g0 rfl).trans (wq_u_j e3441 rfl))
                  refine wp_of e16 c16_115 (xg_I (pc' := 118) lf_2_19 w3502 g0 sh_4 (by decide) (by decide) ty_4_1 rfl rfl (fun b3509 b3510 => ?_))
                  refine wp_of e16 c16_118 (rw_icmp_ge (p1 := 174) (p2 := 121) (by decide) rfl ⟨by omega, by omega⟩ ⟨by omega, by omega⟩ (fun c3511 => ?_) (fun c3511 => ?_))
                  · refine wp_of e16 c16_174 (rw_iload_n (pc' := 175) (z := v3500) rfl rfl ?_)
                    refine wp_of e16 c16_175 (rw_aload_n (pc' := 176) (v := .ref r0) rfl rfl rfl ?_)
                    have k3512 : H3501 r0 4 = H3427 r0 4 := ((f3503 r0 4 _ g0 rfl).trans (wq_u_j e3441 rfl))
                    refine wp_of e16 c16_176 (xg_I (pc' := 179) lf_2_29 w3502 g0 sh_4 (by decide) (by decide) ty_4_4 rfl rfl (fun b3513 b3514 => ?_))
                    refine wp_of e16 c16_179 (rw_isub (pc' := 180) rfl ?_)
                    refine wp_of e16 c16_180 (rw_iload_n (pc' := 181) (z := v3426 - (H3427 r0 4)) rfl rfl ?_)
                    refine wp_of e16 c16_181 (rw_isub (pc' := 182) rfl ?_)
                    refine wp_of e16 c16_182 (rw_istore_n (pc' := 183) (z := (v3500 - (H3501 r0 4)) - (v3426 - (H3427 r0 4))) (L' := [(3, vI ((v3500 - (H3501 r0 4)) - (v3426 - (H3427 r0 4)))), (1, vI v3500), (2, vI (v3426 - (H3427 r0 4))), (0, .ref r0)]) rfl rfl rfl ?_)
                    refine wp_of e16 c16_183 (rw_iload_n (pc' := 184) (z := v3426 - (H3427 r0 4)) rfl rfl ?_)
                    refine wp_of e16 c16_184 (rw_if_le (p1 := 205) (p2 := 187) (by decide) rfl ⟨by omega, by omega⟩ (fun c3515 => ?_) (fun c3515 => ?_))
                    · refine wp_of e16 c16_205 (rw_iload_n (pc' := 206) (z := (v3500 - (H3501 r0 4)) - (v3426 - (H3427 r0 4))) rfl rfl ?_)
                      refine wp_of e16 c16_206 (rw_if_le (p1 := 226) (p2 := 209) (by decide) rfl ⟨by omega, by omega⟩ (fun c3516 => ?_) (fun c3516 => ?_))
                      · refine wp_of e16 c16_226 (rw_iload_n (pc' := 227) (z := v3500) rfl rfl ?_)
                        refine wp_of e16 c16_227 (rw_aload_n (pc' := 228) (v := .ref r0) rfl rfl rfl ?_)
                        refine wp_of e16 c16_228 (xg_I (pc' := 231) lf_2_19 w3502 g0 sh_4 (by decide) (by decide) ty_4_1 rfl rfl (fun b3517 b3518 => ?_))
                        refine wp_of e16 c16_231 (rw_icmp_ge (p1 := 275) (p2 := 234) (by decide) rfl ⟨by omega, by omega⟩ ⟨by omega, by omega⟩ (fun c3519 => ?_) (fun c3519 => ?_))
                        · refine wp_of e16 c16_275 (rw_aload_n (pc' := 276) (v := .ref r0) rfl rfl rfl ?_)
                          refine wp_of e16 c16_276 (rw_iconst (pc' := 277) rfl ?_)
                          refine wp_of e16 c16_277 (xp_I (pc' := 280) lf_2_41 w3502 g0 sh_4 (by decide) (by decide) ty_4_3 rfl rfl (by omega) (by omega) ⟨by omega, by omega⟩ rfl (fun H3520 e3521 w3522 => ?_))
                          have f3523 := f3506.put' e3521 g0 rfl
                          have f3524 := f3507.put' e3521 g0 rfl
                          have f3525 := f3503.put' e3521 g0 rfl
                          have k3526 : H3520 r0 3 = 0 := wq_u_s e3521
                          refine wp_of e16 c16_280 (rw_aload_n (pc' := 281) (v := .ref r0) rfl rfl rfl ?_)
                          refine wp_of e16 c16_281 (rw_iload_n (pc' := 282) (z := v3500) rfl rfl ?_)
                          refine wp_of e16 c16_282 (xp_I (pc' := 285) lf_2_23 w3522 g0 sh_4 (by decide) (by decide) ty_4_2 rfl rfl (by omega) (by omega) ⟨by omega, by omega⟩ rfl (fun H3527 e3528 w3529 => ?_))
                          have f3530 := f3523.put' e3528 g0 rfl
                          have f3531 := f3524.put' e3528 g0 rfl
                          have f3532 := f3525.put' e3528 g0 rfl
                          have k3533 : H3527 r0 2 = v3500 := wq_u_s e3528
                          exact wp_return e16 c16_285 rfl ⟨rfl, w3529, f3530, rfl⟩
                        · refine wp_of e16 c16_234 (rw_aload_n (pc' := 235) (v := .ref r0) rfl rfl rfl ?_)
                          refine wp_of e16 c16_235 (rw_aload_n (pc' := 236) (v := .ref r0) rfl rfl rfl ?_)
                          have k3534 : H3501 r0 0 = H r0 0 := ((f3503 r0 0 _ g0 rfl).trans ((wq_u_j e3441 rfl).trans ((f3429 r0 0 _ g0 rfl).trans ((wq_u_j e3372 rfl).trans (wq_u_j e3367 rfl)))))
                          have q3535 : H3501 r0 0 = (rb : Int) := k3534.trans qrb
                          refine wp_of e16 c16_236 (xg_K (pc' := 239) lf_2_7 w3502 g0 sh_4 (by decide) (by decide) rfl q3535 rfl ?_)
                          refine wp_of e16 c16_239 (rw_iload_n (pc' := 240) (z := v3500) rfl rfl ?_)
                          refine wp_of e16 c16_240 (xa_B (by decide) (pc' := 241) w3502 grb sh_2 (by decide) (ty_2 _) (by omega) (by omega) rfl (fun b3536 b3537 => ?_))
                          refine wp_of e16 c16_241 (rw_bipush (pc' := 243) (z := 59) rfl (by decide) ?_)
                          refine wp_of e16 c16_243 (rw_icmp_ne (p1 := 250) (p2 := 246) (by decide) rfl ⟨by omega, by omega⟩ ⟨by omega, by omega⟩ (fun c3538 => ?_) (fun c3538 => ?_))
                          · refine wp_of e16 c16_250 (rw_aload_n (pc' := 251) (v := .ref r0) rfl rfl rfl ?_)
                            refine wp_of e16 c16_251 (xg_K (pc' := 254) lf_2_7 w3502 g0 sh_4 (by decide) (by decide) rfl q3535 rfl ?_)
                            refine wp_of e16 c16_254 (rw_iload_n (pc' := 255) (z := v3500) rfl rfl ?_)
                            refine wp_of e16 c16_255 (xa_B (by decide) (pc' := 256) w3502 grb sh_2 (by decide) (ty_2 _) (by omega) (by omega) rfl (fun b3539 b3540 => ?_))
                            refine wp_of e16 c16_256 (rw_bipush (pc' := 258) (z := 44) rfl (by decide) ?_)
                            refine wp_of e16 c16_258 (rw_icmp_ne (p1 := 265) (p2 := 261) (by decide) rfl ⟨by omega, by omega⟩ ⟨by omega, by omega⟩ (fun c3541 => ?_) (fun c3541 => ?_))
                            · refine wp_of e16 c16_265 (rw_iconst (pc' := 266) rfl ?_)
                              refine wp_of e16 c16_266 (xp_I (pc' := 269) lf_2_41 w3502 g0 sh_4 (by decide) (by decide) ty_4_3 rfl rfl (by omega) (by omega) ⟨by omega, by omega⟩ rfl (fun H3542 e3543 w3544 => ?_))
                              have f3545 := f3506.put' e3543 g0 rfl
                              have f3546 := f3507.put' e3543 g0 rfl
                              have f3547 := f3503.put' e3543 g0 rfl
                              have k3548 : H3542 r0 3 = 5 := wq_u_s e3543
                              refine wp_of e16 c16_269 (rw_iinc (pc' := 272) (z := v3500) (L' := [(1, vI (v3500 + 1)), (3, vI ((v3500 - (H3501 r0 4)) - (v3426 - (H3427 r0 4)))), (2, vI (v3426 - (H3427 r0 4))), (0, .ref r0)]) rfl rfl rfl rfl ?_)
                              refine wp_of e16 c16_272 (rw_goto (p1 := 280) (by decide) ?_)
                              refine wp_of e16 c16_280 (rw_aload_n (pc' := 281) (v := .ref r0) rfl rfl rfl ?_)
                              refine wp_of e16 c16_281 (rw_iload_n (pc' := 282) (z := v3500 + 1) rfl rfl ?_)
                              refine wp_of e16 c16_282 (xp_I (pc' := 285) lf_2_23 w3544 g0 sh_4 (by decide) (by decide) ty_4_2 rfl rfl (by omega) (by omega) ⟨by omega, by omega⟩ rfl (fun H3549 e3550 w3551 => ?_))
                              have f3552 := f3545.put' e3550 g0 rfl
                              have f3553 := f3546.put' e3550 g0 rfl
                              have f3554 := f3547.put' e3550 g0 rfl
                              have k3555 : H3549 r0 2 = v3500 + 1 := wq_u_s e3550
                              exact wp_return e16 c16_285 rfl ⟨rfl, w3551, f3552, rfl⟩
                            · refine wp_of e16 c16_261 (rw_iconst (pc' := 262) rfl ?_)
                              refine wp_of e16 c16_262 (rw_goto (p1 := 266) (by decide) ?_)
                              refine wp_of e16 c16_266 (xp_I (pc' := 269) lf_2_41 w3502 g0 sh_4 (by decide) (by decide) ty_4_3 rfl rfl (by omega) (by omega) ⟨by omega, by omega⟩ rfl (fun H3556 e3557 w3558 => ?_))
                              have f3559 := f3506.put' e3557 g0 rfl
                              have f3560 := f3507.put' e3557 g0 rfl
                              have f3561 := f3503.put' e3557 g0 rfl
                              have k3562 : H3556 r0 3 = 4 := wq_u_s e3557
                              refine wp_of e16 c16_269 (rw_iinc (pc' := 272) (z := v3500) (L' := [(1, vI (v3500 + 1)), (3, vI ((v3500 - (H3501 r0 4)) - (v3426 - (H3427 r0 4)))), (2, vI (v3426 - (H3427 r0 4))), (0, .ref r0)]) rfl rfl rfl rfl ?_)
                              refine wp_of e16 c16_272 (rw_goto (p1 := 280) (by decide) ?_)
                              refine wp_of e16 c16_280 (rw_aload_n (pc' := 281) (v := .ref r0) rfl rfl rfl ?_)
                              refine wp_of e16 c16_281 (rw_iload_n (pc' := 282) (z := v3500 + 1) rfl rfl ?_)
                              refine wp_of e16 c16_282 (xp_I (pc' := 285) lf_2_23 w3558 g0 sh_4 (by decide) (by decide) ty_4_2 rfl rfl (by omega) (by omega) ⟨by omega, by omega⟩ rfl (fun H3563 e3564 w3565 => ?_))
                              have f3566 := f3559.put' e3564 g0 rfl
                              have f3567 := f3560.put' e3564 g0 rfl
                              have f3568 := f3561.put' e3564 g0 rfl
                              have k3569 : H3563 r0 2 = v3500 + 1 := wq_u_s e3564
                              exact wp_return e16 c16_285 rfl ⟨rfl, w3565, f3566, rfl⟩
                          · refine wp_of e16 c16_246 (rw_iconst (pc' := 247) rfl ?_)
                            refine wp_of e16 c16_247 (rw_goto (p1 := 266) (by decide) ?_)
                            refine wp_of e16 c16_266 (xp_I (pc' := 269) lf_2_41 w3502 g0 sh_4 (by decide) (by decide) ty_4_3 rfl rfl (by omega) (by omega) ⟨by omega, by omega⟩ rfl (fun H3570 e3571 w3572 => ?_))
                            have f3573 := f3506.put' e3571 g0 rfl
                            have f3574 := f3507.put' e3571 g0 rfl
                            have f3575 := f3503.put' e3571 g0 rfl
                            have k3576 : H3570 r0 3 = 3 := wq_u_s e3571
                            refine wp_of e16 c16_269 (rw_iinc (pc' := 272) (z := v3500) (L' := [(1, vI (v3500 + 1)), (3, vI ((v3500 - (H3501 r0 4)) - (v3426 - (H3427 r0 4)))), (2, vI (v3426 - (H3427 r0 4))), (0, .ref r0)]) rfl rfl rfl rfl ?_)
                            refine wp_of e16 c16_272 (rw_goto (p1 := 280) (by decide) ?_)
                            refine wp_of e16 c16_280 (rw_aload_n (pc' := 281) (v := .ref r0) rfl rfl rfl ?_)
                            refine wp_of e16 c16_281 (rw_iload_n (pc' := 282) (z := v3500 + 1) rfl rfl ?_)
                            refine wp_of e16 c16_282 (xp_I (pc' := 285) lf_2_23 w3572 g0 sh_4 (by decide) (by decide) ty_4_2 rfl rfl (by omega) (by omega) ⟨by omega, by omega⟩ rfl (fun H3577 e3578 w3579 => ?_))
                            have f3580 := f3573.put' e3578 g0 rfl
                            have f3581 := f3574.put' e3578 g0 rfl
                            have f3582 := f3575.put' e3578 g0 rfl
                            have k3583 : H3577 r0 2 = v3500 + 1 := wq_u_s e3578
                            exact wp_return e16 c16_285 rfl ⟨rfl, w3579, f3580, rfl⟩
                      · refine wp_of e16 c16_209 (rw_aload_n (pc' := 210) (v := .ref r0) rfl rfl rfl ?_)
                        refine wp_of e16 c16_210 (rw_iload_n (pc' := 211) (z := (v3500 - (H3501 r0 4)) - (v3426 - (H3427 r0 4))) rfl rfl ?_)
                        refine wp_of e16 c16_211 (rw_iconst (pc' := 212) rfl ?_)
                        refine wp_of e16 c16_212 (rw_icmp_gt (p1 := 219) (p2 := 215) (by decide) rfl ⟨by omega, by omega⟩ ⟨by omega, by omega⟩ (fun c3584 => ?_) (fun c3584 => ?_))
                        · refine wp_of e16 c16_219 (rw_iconst (pc' := 220) rfl ?_)
                          refine wp_of e16 c16_220 (xp_I (pc' := 223) lf_2_41 w3502 g0 sh_4 (by decide) (by decide) ty_4_3 rfl rfl (by omega) (by omega) ⟨by omega, by omega⟩ rfl (fun H3585 e3586 w3587 => ?_))
                          have f3588 := f3506.put' e3586 g0 rfl
                          have f3589 := f3507.put' e3586 g0 rfl
                          have f3590 := f3503.put' e3586 g0 rfl
                          have k3591 : H3585 r0 3 = 5 := wq_u_s e3586
                          refine wp_of e16 c16_223 (rw_goto (p1 := 280) (by decide) ?_)
                          refine wp_of e16 c16_280 (rw_aload_n (pc' := 281) (v := .ref r0) rfl rfl rfl ?_)
                          refine wp_of e16 c16_281 (rw_iload_n (pc' := 282) (z := v3500) rfl rfl ?_)
                          refine wp_of e16 c16_282 (xp_I (pc' := 285) lf_2_23 w3587 g0 sh_4 (by decide) (by decide) ty_4_2 rfl rfl (by omega) (by omega) ⟨by omega, by omega⟩ rfl (fun H3592 e3593 w3594 => ?_))
                          have f3595 := f3588.put' e3593 g0 rfl
                          have f3596 := f3589.put' e3593 g0 rfl
                          have f3597 := f3590.put' e3593 g0 rfl
                          have k3598 : H3592 r0 2 = v3500 := wq_u_s e3593
                          exact wp_return e16 c16_285 rfl ⟨rfl, w3594, f3595, rfl⟩
                        · refine wp_of e16 c16_215 (rw_iconst (pc' := 216) rfl ?_)
                          refine wp_of e16 c16_216 (rw_goto (p1 := 220) (by decide) ?_)
                          refine wp_of e16 c16_220 (xp_I (pc' := 223) lf_2_41 w3502 g0 sh_4 (by decide) (by decide) ty_4_3 rfl rfl (by omega) (by omega) ⟨by omega, by omega⟩ rfl (fun H3599 e3600 w3601 => ?_))
                          have f3602 := f3506.put' e3600 g0 rfl
                          have f3603 := f3507.put' e3600 g0 rfl
                          have f3604 := f3503.put' e3600 g0 rfl
                          have k3605 : H3599 r0 3 = 2 := wq_u_s e3600
                          refine wp_of e16 c16_223 (rw_goto (p1 := 280) (by decide) ?_)
                          refine wp_of e16 c16_280 (rw_aload_n (pc' := 281) (v := .ref r0) rfl rfl rfl ?_)
                          refine wp_of e16 c16_281 (rw_iload_n (pc' := 282) (z := v3500) rfl rfl ?_)
                          refine wp_of e16 c16_282 (xp_I (pc' := 285) lf_2_23 w3601 g0 sh_4 (by decide) (by decide) ty_4_2 rfl rfl (by omega) (by omega) ⟨by omega, by omega⟩ rfl (fun H3606 e3607 w3608 => ?_))
                          have f3609 := f3602.put' e3607 g0 rfl
                          have f3610 := f3603.put' e3607 g0 rfl
                          have f3611 := f3604.put' e3607 g0 rfl
                          have k3612 : H3606 r0 2 = v3500 := wq_u_s e3607
                          exact wp_return e16 c16_285 rfl ⟨rfl, w3608, f3609, rfl⟩
                    · refine wp_of e16 c16_187 (rw_aload_n (pc' := 188) (v := .ref r0) rfl rfl rfl ?_)
                      refine wp_of e16 c16_188 (rw_iload_n (pc' := 189) (z := v3426 - (H3427 r0 4)) rfl rfl ?_)
                      refine wp_of e16 c16_189 (rw_bipush (pc' := 191) (z := 8) rfl (by decide) ?_)
                      refine wp_of e16 c16_191 (rw_icmp_gt (p1 := 198) (p2 := 194) (by decide) rfl ⟨by omega, by omega⟩ ⟨by omega, by omega⟩ (fun c3613 => ?_) (fun c3613 => ?_))
                      · refine wp_of e16 c16_198 (rw_iconst (pc' := 199) rfl ?_)
                        refine wp_of e16 c16_199 (xp_I (pc' := 202) lf_2_41 w3502 g0 sh_4 (by decide) (by decide) ty_4_3 rfl rfl (by omega) (by omega) ⟨by omega, by omega⟩ rfl (fun H3614 e3615 w3616 => ?_))
                        have f3617 := f3506.put' e3615 g0 rfl
                        have f3618 := f3507.put' e3615 g0 rfl
                        have f3619 := f3503.put' e3615 g0 rfl
                        have k3620 : H3614 r0 3 = 5 := wq_u_s e3615
                        refine wp_of e16 c16_202 (rw_goto (p1 := 280) (by decide) ?_)
                        refine wp_of e16 c16_280 (rw_aload_n (pc' := 281) (v := .ref r0) rfl rfl rfl ?_)
                        refine wp_of e16 c16_281 (rw_iload_n (pc' := 282) (z := v3500) rfl rfl ?_)
                        refine wp_of e16 c16_282 (xp_I (pc' := 285) lf_2_23 w3616 g0 sh_4 (by decide) (by decide) ty_4_2 rfl rfl (by omega) (by omega) ⟨by omega, by omega⟩ rfl (fun H3621 e3622 w3623 => ?_))
                        have f3624 := f3617.put' e3622 g0 rfl
                        have f3625 := f3618.put' e3622 g0 rfl
                        have f3626 := f3619.put' e3622 g0 rfl
                        have k3627 : H3621 r0 2 = v3500 := wq_u_s e3622
                        exact wp_return e16 c16_285 rfl ⟨rfl, w3623, f3624, rfl⟩
                      · refine wp_of e16 c16_194 (rw_iconst (pc' := 195) rfl ?_)
                        refine wp_of e16 c16_195 (rw_goto (p1 := 199) (by decide) ?_)
                        refine wp_of e16 c16_199 (xp_I (pc' := 202) lf_2_41 w3502 g0 sh_4 (by decide) (by decide) ty_4_3 rfl rfl (by omega) (by omega) ⟨by omega, by omega⟩ rfl (fun H3628 e3629 w3630 => ?_))
                        have f3631 := f3506.put' e3629 g0 rfl
                        have f3632 := f3507.put' e3629 g0 rfl
                        have f3633 := f3503.put' e3629 g0 rfl
                        have k3634 : H3628 r0 3 = 1 := wq_u_s e3629
                        refine wp_of e16 c16_202 (rw_goto (p1 := 280) (by decide) ?_)
                        refine wp_of e16 c16_280 (rw_aload_n (pc' := 281) (v := .ref r0) rfl rfl rfl ?_)
                        refine wp_of e16 c16_281 (rw_iload_n (pc' := 282) (z := v3500) rfl rfl ?_)
                        refine wp_of e16 c16_282 (xp_I (pc' := 285) lf_2_23 w3630 g0 sh_4 (by decide) (by decide) ty_4_2 rfl rfl (by omega) (by omega) ⟨by omega, by omega⟩ rfl (fun H3635 e3636 w3637 => ?_))
                        have f3638 := f3631.put' e3636 g0 rfl
                        have f3639 := f3632.put' e3636 g0 rfl
                        have f3640 := f3633.put' e3636 g0 rfl
                        have k3641 : H3635 r0 2 = v3500 := wq_u_s e3636
                        exact wp_return e16 c16_285 rfl ⟨rfl, w3637, f3638, rfl⟩
                  · refine wp_of e16 c16_121 (rw_iload_n (pc' := 122) (z := v3426 - (H3427 r0 4)) rfl rfl ?_)
                    refine wp_of e16 c16_122 (rw_if_ne (p1 := 174) (p2 := 125) (by decide) rfl ⟨by omega, by omega⟩ (fun c3642 => ?_) (fun c3642 => ?_))
                    · refine wp_of e16 c16_174 (rw_iload_n (pc' := 175) (z := v3500) rfl rfl ?_)
                      refine wp_of e16 c16_175 (rw_aload_n (pc' := 176) (v := .ref r0) rfl rfl rfl ?_)
                      have k3643 : H3501 r0 4 = H3427 r0 4 := ((f3503 r0 4 _ g0 rfl).trans (wq_u_j e3441 rfl))
                      refine wp_of e16 c16_176 (xg_I (pc' := 179) lf_2_29 w3502 g0 sh_4 (by decide) (by decide) ty_4_4 rfl rfl (fun b3644 b3645 => ?_))
                      refine wp_of e16 c16_179 (rw_isub (pc' := 180) rfl ?_)
                      refine wp_of e16 c16_180 (rw_iload_n (pc' := 181) (z := v3426 - (H3427 r0 4)) rfl rfl ?_)
                      refine wp_of e16 c16_181 (rw_isub (pc' := 182) rfl ?_)
                      refine wp_of e16 c16_182 (rw_istore_n (pc' := 183) (z := (v3500 - (H3501 r0 4)) - (v3426 - (H3427 r0 4))) (L' := [(3, vI ((v3500 - (H3501 r0 4)) - (v3426 - (H3427 r0 4)))), (1, vI v3500), (2, vI (v3426 - (H3427 r0 4))), (0, .ref r0)]) rfl rfl rfl ?_)
                      refine wp_of e16 c16_183 (rw_iload_n (pc' := 184) (z := v3426 - (H3427 r0 4)) rfl rfl ?_)
                      refine wp_of e16 c16_184 (rw_if_le (p1 := 205) (p2 := 187) (by decide) rfl ⟨by omega, by omega⟩ (fun c3646 => ?_) (fun c3646 => ?_))
                      · refine wp_of e16 c16_205 (rw_iload_n (pc' := 206) (z := (v3500 - (H3501 r0 4)) - (v3426 - (H3427 r0 4))) rfl rfl ?_)
                        refine wp_of e16 c16_206 (rw_if_le (p1 := 226) (p2 := 209) (by decide) rfl ⟨by omega, by omega⟩ (fun c3647 => ?_) (fun c3647 => ?_))
                        · refine wp_of e16 c16_226 (rw_iload_n (pc' := 227) (z := v3500) rfl rfl ?_)
                          refine wp_of e16 c16_227 (rw_aload_n (pc' := 228) (v := .ref r0) rfl rfl rfl ?_)
                          refine wp_of e16 c16_228 (xg_I (pc' := 231) lf_2_19 w3502 g0 sh_4 (by decide) (by decide) ty_4_1 rfl rfl (fun b3648 b3649 => ?_))
                          refine wp_of e16 c16_231 (rw_icmp_ge (p1 := 275) (p2 := 234) (by decide) rfl ⟨by omega, by omega⟩ ⟨by omega, by omega⟩ (fun c3650 => ?_) (fun c3650 => ?_))
                          · refine wp_of e16 c16_275 (rw_aload_n (pc' := 276) (v := .ref r0) rfl rfl rfl ?_)
                            refine wp_of e16 c16_276 (rw_iconst (pc' := 277) rfl ?_)
                            refine wp_of e16 c16_277 (xp_I (pc' := 280) lf_2_41 w3502 g0 sh_4 (by decide) (by decide) ty_4_3 rfl rfl (by omega) (by omega) ⟨by omega, by omega⟩ rfl (fun H3651 e3652 w3653 => ?_))
                            have f3654 := f3506.put' e3652 g0 rfl
                            have f3655 := f3507.put' e3652 g0 rfl
                            have f3656 := f3503.put' e3652 g0 rfl
                            have k3657 : H3651 r0 3 = 0 := wq_u_s e3652
                            refine wp_of e16 c16_280 (rw_aload_n (pc' := 281) (v := .ref r0) rfl rfl rfl ?_)
                            refine wp_of e16 c16_281 (rw_iload_n (pc' := 282) (z := v3500) rfl rfl ?_)
                            refine wp_of e16 c16_282 (xp_I (pc' := 285) lf_2_23 w3653 g0 sh_4 (by decide) (by decide) ty_4_2 rfl rfl (by omega) (by omega) ⟨by omega, by omega⟩ rfl (fun H3658 e3659 w3660 => ?_))
                            have f3661 := f3654.put' e3659 g0 rfl
                            have f3662 := f3655.put' e3659 g0 rfl
                            have f3663 := f3656.put' e3659 g0 rfl
                            have k3664 : H3658 r0 2 = v3500 := wq_u_s e3659
                            exact wp_return e16 c16_285 rfl ⟨rfl, w3660, f3661, rfl⟩
                          · refine wp_of e16 c16_234 (rw_aload_n (pc' := 235) (v := .ref r0) rfl rfl rfl ?_)
                            refine wp_of e16 c16_235 (rw_aload_n (pc' := 236) (v := .ref r0) rfl rfl rfl ?_)
                            have k3665 : H3501 r0 0 = H r0 0 := ((f3503 r0 0 _ g0 rfl).trans ((wq_u_j e3441 rfl).trans ((f3429 r0 0 _ g0 rfl).trans ((wq_u_j e3372 rfl).trans (wq_u_j e3367 rfl)))))
                            have q3666 : H3501 r0 0 = (rb : Int) := k3665.trans qrb
                            refine wp_of e16 c16_236 (xg_K (pc' := 239) lf_2_7 w3502 g0 sh_4 (by decide) (by decide) rfl q3666 rfl ?_)
                            refine wp_of e16 c16_239 (rw_iload_n (pc' := 240) (z := v3500) rfl rfl ?_)
                            refine wp_of e16 c16_240 (xa_B (by decide) (pc' := 241) w3502 grb sh_2 (by decide) (ty_2 _) (by omega) (by omega) rfl (fun b3667 b3668 => ?_))
                            refine wp_of e16 c16_241 (rw_bipush (pc' := 243) (z := 59) rfl (by decide) ?_)
                            refine wp_of e16 c16_243 (rw_icmp_ne (p1 := 250) (p2 := 246) (by decide) rfl ⟨by omega, by omega⟩ ⟨by omega, by omega⟩ (fun c3669 => ?_) (fun c3669 => ?_))
                            · refine wp_of e16 c16_250 (rw_aload_n (pc' := 251) (v := .ref r0) rfl rfl rfl ?_)
                              refine wp_of e16 c16_251 (xg_K (pc' := 254) lf_2_7 w3502 g0 sh_4 (by decide) (by decide) rfl q3666 rfl ?_)
                              refine wp_of e16 c16_254 (rw_iload_n (pc' := 255) (z := v3500) rfl rfl ?_)
                              refine wp_of e16 c16_255 (xa_B (by decide) (pc' := 256) w3502 grb sh_2 (by decide) (ty_2 _) (by omega) (by omega) rfl (fun b3670 b3671 => ?_))
                              refine wp_of e16 c16_256 (rw_bipush (pc' := 258) (z := 44) rfl (by decide) ?_)
                              refine wp_of e16 c16_258 (rw_icmp_ne (p1 := 265) (p2 := 261) (by decide) rfl ⟨by omega, by omega⟩ ⟨by omega, by omega⟩ (fun c3672 => ?_) (fun c3672 => ?_))
                              · refine wp_of e16 c16_265 (rw_iconst (pc' := 266) rfl ?_)
                                refine wp_of e16 c16_266 (xp_I (pc' := 269) lf_2_41 w3502 g0 sh_4 (by decide) (by decide) ty_4_3 rfl rfl (by omega) (by omega) ⟨by omega, by omega⟩ rfl (fun H3673 e3674 w3675 => ?_))
                                have f3676 := f3506.put' e3674 g0 rfl
                                have f3677 := f3507.put' e3674 g0 rfl
                                have f3678 := f3503.put' e3674 g0 rfl
                                have k3679 : H3673 r0 3 = 5 := wq_u_s e3674
                                refine wp_of e16 c16_269 (rw_iinc (pc' := 272) (z := v3500) (L' := [(1, vI (v3500 + 1)), (3, vI ((v3500 - (H3501 r0 4)) - (v3426 - (H3427 r0 4)))), (2, vI (v3426 - (H3427 r0 4))), (0, .ref r0)]) rfl rfl rfl rfl ?_)
                                refine wp_of e16 c16_272 (rw_goto (p1 := 280) (by decide) ?_)
                                refine wp_of e16 c16_280 (rw_aload_n (pc' := 281) (v := .ref r0) rfl rfl rfl ?_)
                                refine wp_of e16 c16_281 (rw_iload_n (pc' := 282) (z := v3500 + 1) rfl rfl ?_)
                                refine wp_of e16 c16_282 (xp_I (pc' := 285) lf_2_23 w3675 g0 sh_4 (by decide) (by decide) ty_4_2 rfl rfl (by omega) (by omega) ⟨by omega, by omega⟩ rfl (fun H3680 e3681 w3682 => ?_))
                                have f3683 := f3676.put' e3681 g0 rfl
                                have f3684 := f3677.put' e3681 g0 rfl
                                have f3685 := f3678.put' e3681 g0 rfl
                                have k3686 : H3680 r0 2 = v3500 + 1 := wq_u_s e3681
                                exact wp_return e16 c16_285 rfl ⟨rfl, w3682, f3683, rfl⟩
                              · refine wp_of e16 c16_261 (rw_iconst (pc' := 262) rfl ?_)
                                refine wp_of e16 c16_262 (rw_goto (p1 := 266) (by decide) ?_)
                                refine wp_of e16 c16_266 (xp_I (pc' := 269) lf_2_41 w3502 g0 sh_4 (by decide) (by decide) ty_4_3 rfl rfl (by omega) (by omega) ⟨by omega, by omega⟩ rfl (fun H3687 e3688 w3689 => ?_))
                                have f3690 := f3506.put' e3688 g0 rfl
                                have f3691 := f3507.put' e3688 g0 rfl
                                have f3692 := f3503.put' e3688 g0 rfl
                                have k3693 : H3687 r0 3 = 4 := wq_u_s e3688
                                refine wp_of e16 c16_269 (rw_iinc (pc' := 272) (z := v3500) (L' := [(1, vI (v3500 + 1)), (3, vI ((v3500 - (H3501 r0 4)) - (v3426 - (H3427 r0 4)))), (2, vI (v3426 - (H3427 r0 4))), (0, .ref r0)]) rfl rfl rfl rfl ?_)
                                refine wp_of e16 c16_272 (rw_goto (p1 := 280) (by decide) ?_)
                                refine wp_of e16 c16_280 (rw_aload_n (pc' := 281) (v := .ref r0) rfl rfl rfl ?_)
                                refine wp_of e16 c16_281 (rw_iload_n (pc' := 282) (z := v3500 + 1) rfl rfl ?_)
                                refine wp_of e16 c16_282 (xp_I (pc' := 285) lf_2_23 w3689 g0 sh_4 (by decide) (by decide) ty_4_2 rfl rfl (by omega) (by omega) ⟨by omega, by omega⟩ rfl (fun H3694 e3695 w3696 => ?_))
                                have f3697 := f3690.put' e3695 g0 rfl
                                have f3698 := f3691.put' e3695 g0 rfl
                                have f3699 := f3692.put' e3695 g0 rfl
                                have k3700 : H3694 r0 2 = v3500 + 1 := wq_u_s e3695
                                exact wp_return e16 c16_285 rfl ⟨rfl, w3696, f3697, rfl⟩
                            · refine wp_of e16 c16_246 (rw_iconst (pc' := 247) rfl ?_)
                              refine wp_of e16 c16_247 (rw_goto (p1 := 266) (by decide) ?_)
                              refine wp_of e16 c16_266 (xp_I (pc' := 269) lf_2_41 w3502 g0 sh_4 (by decide) (by decide) ty_4_3 rfl rfl (by omega) (by omega) ⟨by omega, by omega⟩ rfl (fun H3701 e3702 w3703 => ?_))
                              have f3704 := f3506.put' e3702 g0 rfl
                              have f3705 := f3507.put' e3702 g0 rfl
                              have f3706 := f3503.put' e3702 g0 rfl
                              have k3707 : H3701 r0 3 = 3 := wq_u_s e3702
                              refine wp_of e16 c16_269 (rw_iinc (pc' := 272) (z := v3500) (L' := [(1, vI (v3500 + 1)), (3, vI ((v3500 - (H3501 r0 4)) - (v3426 - (H3427 r0 4)))), (2, vI (v3426 - (H3427 r0 4))), (0, .ref r0)]) rfl rfl rfl rfl ?_)
                              refine wp_of e16 c16_272 (rw_goto (p1 := 280) (by decide) ?_)
                              refine wp_of e16 c16_280 (rw_aload_n (pc' := 281) (v := .ref r0) rfl rfl rfl ?_)
                              refine wp_of e16 c16_281 (rw_iload_n (pc' := 282) (z := v3500 + 1) rfl rfl ?_)
                              refine wp_of e16 c16_282 (xp_I (pc' := 285) lf_2_23 w3703 g0 sh_4 (by decide) (by decide) ty_4_2 rfl rfl (by omega) (by omega) ⟨by omega, by omega⟩ rfl (fun H3708 e3709 w3710 => ?_))
                              have f3711 := f3704.put' e3709 g0 rfl
                              have f3712 := f3705.put' e3709 g0 rfl
                              have f3713 := f3706.put' e3709 g0 rfl
                              have k3714 : H3708 r0 2 = v3500 + 1 := wq_u_s e3709
                              exact wp_return e16 c16_285 rfl ⟨rfl, w3710, f3711, rfl⟩
                        · refine wp_of e16 c16_209 (rw_aload_n (pc' := 210) (v := .ref r0) rfl rfl rfl ?_)
                          refine wp_of e16 c16_210 (rw_iload_n (pc' := 211) (z := (v3500 - (H3501 r0 4)) - (v3426 - (H3427 r0 4))) rfl rfl ?_)
                          refine wp_of e16 c16_211 (rw_iconst (pc' := 212) rfl ?_)
                          refine wp_of e16 c16_212 (rw_icmp_gt (p1 := 219) (p2 := 215) (by decide) rfl ⟨by omega, by omega⟩ ⟨by omega, by omega⟩ (fun c3715 => ?_) (fun c3715 => ?_))
                          · refine wp_of e16 c16_219 (rw_iconst (pc' := 220) rfl ?_)
                            refine wp_of e16 c16_220 (xp_I (pc' := 223) lf_2_41 w3502 g0 sh_4 (by decide) (by decide) ty_4_3 rfl rfl (by omega) (by omega) ⟨by omega, by omega⟩ rfl (fun H3716 e3717 w3718 => ?_))
                            have f3719 := f3506.put' e3717 g0 rfl
                            have f3720 := f3507.put' e3717 g0 rfl
                            have f3721 := f3503.put' e3717 g0 rfl
                            have k3722 : H3716 r0 3 = 5 := wq_u_s e3717
                            refine wp_of e16 c16_223 (rw_goto (p1 := 280) (by decide) ?_)
                            refine wp_of e16 c16_280 (rw_aload_n (pc' := 281) (v := .ref r0) rfl rfl rfl ?_)
                            refine wp_of e16 c16_281 (rw_iload_n (pc' := 282) (z := v3500) rfl rfl ?_)
                            refine wp_of e16 c16_282 (xp_I (pc' := 285) lf_2_23 w3718 g0 sh_4 (by decide) (by decide) ty_4_2 rfl rfl (by omega) (by omega) ⟨by omega, by omega⟩ rfl (fun H3723 e3724 w3725 => ?_))
                            have f3726 := f3719.put' e3724 g0 rfl
                            have f3727 := f3720.put' e3724 g0 rfl
                            have f3728 := f3721.put' e3724 g0 rfl
                            have k3729 : H3723 r0 2 = v3500 := wq_u_s e3724
                            exact wp_return e16 c16_285 rfl ⟨rfl, w3725, f3726, rfl⟩
                          · refine wp_of e16 c16_215 (rw_iconst (pc' := 216) rfl ?_)
                            refine wp_of e16 c16_216 (rw_goto (p1 := 220) (by decide) ?_)
                            refine wp_of e16 c16_220 (xp_I (pc' := 223) lf_2_41 w3502 g0 sh_4 (by decide) (by decide) ty_4_3 rfl rfl (by omega) (by omega) ⟨by omega, by omega⟩ rfl (fun H3730 e3731 w3732 => ?_))
                            have f3733 := f3506.put' e3731 g0 rfl
                            have f3734 := f3507.put' e3731 g0 rfl
                            have f3735 := f3503.put' e3731 g0 rfl
                            have k3736 : H3730 r0 3 = 2 := wq_u_s e3731
                            refine wp_of e16 c16_223 (rw_goto (p1 := 280) (by decide) ?_)
                            refine wp_of e16 c16_280 (rw_aload_n (pc' := 281) (v := .ref r0) rfl rfl rfl ?_)
                            refine wp_of e16 c16_281 (rw_iload_n (pc' := 282) (z := v3500) rfl rfl ?_)
                            refine wp_of e16 c16_282 (xp_I (pc' := 285) lf_2_23 w3732 g0 sh_4 (by decide) (by decide) ty_4_2 rfl rfl (by omega) (by omega) ⟨by omega, by omega⟩ rfl (fun H3737 e3738 w3739 => ?_))
                            have f3740 := f3733.put' e3738 g0 rfl
                            have f3741 := f3734.put' e3738 g0 rfl
                            have f3742 := f3735.put' e3738 g0 rfl
                            have k3743 : H3737 r0 2 = v3500 := wq_u_s e3738
                            exact wp_return e16 c16_285 rfl ⟨rfl, w3739, f3740, rfl⟩
                      · refine wp_of e16 c16_187 (rw_aload_n (pc' := 188) (v := .ref r0) rfl rfl rfl ?_)
                        refine wp_of e16 c16_188 (rw_iload_n (pc' := 189) (z := v3426 - (H3427 r0 4)) rfl rfl ?_)
                        refine wp_of e16 c16_189 (rw_bipush (pc' := 191) (z := 8) rfl (by decide) ?_)
                        refine wp_of e16 c16_191 (rw_icmp_gt (p1 := 198) (p2 := 194) (by decide) rfl ⟨by omega, by omega⟩ ⟨by omega, by omega⟩ (fun c3744 => ?_) (fun c3744 => ?_))
                        · refine wp_of e16 c16_198 (rw_iconst (pc' := 199) rfl ?_)
                          refine wp_of e16 c16_199 (xp_I (pc' := 202) lf_2_41 w3502 g0 sh_4 (by decide) (by decide) ty_4_3 rfl rfl (by omega) (by omega) ⟨by omega, by omega⟩ rfl (fun H3745 e3746 w3747 => ?_))
                          have f3748 := f3506.put' e3746 g0 rfl
                          have f3749 := f3507.put' e3746 g0 rfl
                          have f3750 := f3503.put' e3746 g0 rfl
                          have k3751 : H3745 r0 3 = 5 := wq_u_s e3746
                          refine wp_of e16 c16_202 (rw_goto (p1 := 280) (by decide) ?_)
                          refine wp_of e16 c16_280 (rw_aload_n (pc' := 281) (v := .ref r0) rfl rfl rfl ?_)
                          refine wp_of e16 c16_281 (rw_iload_n (pc' := 282) (z := v3500) rfl rfl ?_)
                          refine wp_of e16 c16_282 (xp_I (pc' := 285) lf_2_23 w3747 g0 sh_4 (by decide) (by decide) ty_4_2 rfl rfl (by omega) (by omega) ⟨by omega, by omega⟩ rfl (fun H3752 e3753 w3754 => ?_))
                          have f3755 := f3748.put' e3753 g0 rfl
                          have f3756 := f3749.put' e3753 g0 rfl
                          have f3757 := f3750.put' e3753 g0 rfl
                          have k3758 : H3752 r0 2 = v3500 := wq_u_s e3753
                          exact wp_return e16 c16_285 rfl ⟨rfl, w3754, f3755, rfl⟩
                        · refine wp_of e16 c16_194 (rw_iconst (pc' := 195) rfl ?_)
                          refine wp_of e16 c16_195 (rw_goto (p1 := 199) (by decide) ?_)
                          refine wp_of e16 c16_199 (xp_I (pc' := 202) lf_2_41 w3502 g0 sh_4 (by decide) (by decide) ty_4_3 rfl rfl (by omega) (by omega) ⟨by omega, by omega⟩ rfl (fun H3759 e3760 w3761 => ?_))
                          have f3762 := f3506.put' e3760 g0 rfl
                          have f3763 := f3507.put' e3760 g0 rfl
                          have f3764 := f3503.put' e3760 g0 rfl
                          have k3765 : H3759 r0 3 = 1 := wq_u_s e3760
                          refine wp_of e16 c16_202 (rw_goto (p1 := 280) (by decide) ?_)
                          refine wp_of e16 c16_280 (rw_aload_n (pc' := 281) (v := .ref r0) rfl rfl rfl ?_)
                          refine wp_of e16 c16_281 (rw_iload_n (pc' := 282) (z := v3500) rfl rfl ?_)
                          refine wp_of e16 c16_282 (xp_I (pc' := 285) lf_2_23 w3761 g0 sh_4 (by decide) (by decide) ty_4_2 rfl rfl (by omega) (by omega) ⟨by omega, by omega⟩ rfl (fun H3766 e3767 w3768 => ?_))
                          have f3769 := f3762.put' e3767 g0 rfl
                          have f3770 := f3763.put' e3767 g0 rfl
                          have f3771 := f3764.put' e3767 g0 rfl
                          have k3772 : H3766 r0 2 = v3500 := wq_u_s e3767
                          exact wp_return e16 c16_285 rfl ⟨rfl, w3768, f3769, rfl⟩
                    · refine wp_of e16 c16_125 (rw_aload_n (pc' := 126) (v := .ref r0) rfl rfl rfl ?_)
                      have k3773 : H3501 r0 0 = H r0 0 := ((f3503 r0 0 _ g0 rfl).trans ((wq_u_j e3441 rfl).trans ((f3429 r0 0 _ g0 rfl).trans ((wq_u_j e3372 rfl).trans (wq_u_j e3367 rfl)))))
                      have q3774 : H3501 r0 0 = (rb : Int) := k3773.trans qrb
                      refine wp_of e16 c16_126 (xg_K (pc' := 129) lf_2_7 w3502 g0 sh_4 (by decide) (by decide) rfl q3774 rfl ?_)
                      refine wp_of e16 c16_129 (rw_iload_n (pc' := 130) (z := v3500) rfl rfl ?_)
                      refine wp_of e16 c16_130 (xa_B (by decide) (pc' := 131) w3502 grb sh_2 (by decide) (ty_2 _) (by omega) (by omega) rfl (fun b3775 b3776 => ?_))
                      refine wp_of e16 c16_131 (rw_bipush (pc' := 133) (z := 48) rfl (by decide) ?_)
                      refine wp_of e16 c16_133 (rw_icmp_lt (p1 := 174) (p2 := 136) (by decide) rfl ⟨by omega, by omega⟩ ⟨by omega, by omega⟩ (fun c3777 => ?_) (fun c3777 => ?_))
                      · refine wp_of e16 c16_174 (rw_iload_n (pc' := 175) (z := v3500) rfl rfl ?_)
                        refine wp_of e16 c16_175 (rw_aload_n (pc' := 176) (v := .ref r0) rfl rfl rfl ?_)
                        have k3778 : H3501 r0 4 = H3427 r0 4 := ((f3503 r0 4 _ g0 rfl).trans (wq_u_j e3441 rfl))
                        refine wp_of e16 c16_176 (xg_I (pc' := 179) lf_2_29 w3502 g0 sh_4 (by decide) (by decide) ty_4_4 rfl rfl (fun b3779 b3780 => ?_))
                        refine wp_of e16 c16_179 (rw_isub (pc' := 180) rfl ?_)
                        refine wp_of e16 c16_180 (rw_iload_n (pc' := 181) (z := v3426 - (H3427 r0 4)) rfl rfl ?_)
                        refine wp_of e16 c16_181 (rw_isub (pc' := 182) rfl ?_)
                        refine wp_of e16 c16_182 (rw_istore_n (pc' := 183) (z := (v3500 - (H3501 r0 4)) - (v3426 - (H3427 r0 4))) (L' := [(3, vI ((v3500 - (H3501 r0 4)) - (v3426 - (H3427 r0 4)))), (1, vI v3500), (2, vI (v3426 - (H3427 r0 4))), (0, .ref r0)]) rfl rfl rfl ?_)
                        refine wp_of e16 c16_183 (rw_iload_n (pc' := 184) (z := v3426 - (H3427 r0 4)) rfl rfl ?_)
                        refine wp_of e16 c16_184 (rw_if_le (p1 := 205) (p2 := 187) (by decide) rfl ⟨by omega, by omega⟩ (fun c3781 => ?_) (fun c3781 => ?_))
                        · refine wp_of e16 c16_205 (rw_iload_n (pc' := 206) (z := (v3500 - (H3501 r0 4)) - (v3426 - (H3427 r0 4))) rfl rfl ?_)
                          refine wp_of e16 c16_206 (rw_if_le (p1 := 226) (p2 := 209) (by decide) rfl ⟨by omega, by omega⟩ (fun c3782 => ?_) (fun c3782 => ?_))
                          · refine wp_of e16 c16_226 (rw_iload_n (pc' := 227) (z := v3500) rfl rfl ?_)
                            refine wp_of e16 c16_227 (rw_aload_n (pc' := 228) (v := .ref r0) rfl rfl rfl ?_)
                            refine wp_of e16 c16_228 (xg_I (pc' := 231) lf_2_19 w3502 g0 sh_4 (by decide) (by decide) ty_4_1 rfl rfl (fun b3783 b3784 => ?_))
                            refine wp_of e16 c16_231 (rw_icmp_ge (p1 := 275) (p2 := 234) (by decide) rfl ⟨by omega, by omega⟩ ⟨by omega, by omega⟩ (fun c3785 => ?_) (fun c3785 => ?_))
                            · refine wp_of e16 c16_275 (rw_aload_n (pc' := 276) (v := .ref r0) rfl rfl rfl ?_)
                              refine wp_of e16 c16_276 (rw_iconst (pc' := 277) rfl ?_)
                              refine wp_of e16 c16_277 (xp_I (pc' := 280) lf_2_41 w3502 g0 sh_4 (by decide) (by decide) ty_4_3 rfl rfl (by omega) (by omega) ⟨by omega, by omega⟩ rfl (fun H3786 e3787 w3788 => ?_))
                              have f3789 := f3506.put' e3787 g0 rfl
                              have f3790 := f3507.put' e3787 g0 rfl
                              have f3791 := f3503.put' e3787 g0 rfl
                              have k3792 : H3786 r0 3 = 0 := wq_u_s e3787
                              refine wp_of e16 c16_280 (rw_aload_n (pc' := 281) (v := .ref r0) rfl rfl rfl ?_)
                              refine wp_of e16 c16_281 (rw_iload_n (pc' := 282) (z := v3500) rfl rfl ?_)
                              refine wp_of e16 c16_282 (xp_I (pc' := 285) lf_2_23 w3788 g0 sh_4 (by decide) (by decide) ty_4_2 rfl rfl (by omega) (by omega) ⟨by omega, by omega⟩ rfl (fun H3793 e3794 w3795 => ?_))
                              have f3796 := f3789.put' e3794 g0 rfl
                              have f3797 := f3790.put' e3794 g0 rfl
                              have f3798 := f3791.put' e3794 g0 rfl
                              have k3799 : H3793 r0 2 = v3500 := wq_u_s e3794
                              exact wp_return e16 c16_285 rfl ⟨rfl, w3795, f3796, rfl⟩
                            · refine wp_of e16 c16_234 (rw_aload_n (pc' := 235) (v := .ref r0) rfl rfl rfl ?_)
                              refine wp_of e16 c16_235 (rw_aload_n (pc' := 236) (v := .ref r0) rfl rfl rfl ?_)
                              refine wp_of e16 c16_236 (xg_K (pc' := 239) lf_2_7 w3502 g0 sh_4 (by decide) (by decide) rfl q3774 rfl ?_)
                              refine wp_of e16 c16_239 (rw_iload_n (pc' := 240) (z := v3500) rfl rfl ?_)
                              refine wp_of e16 c16_240 (xa_B (by decide) (pc' := 241) w3502 grb sh_2 (by decide) (ty_2 _) (by omega) (by omega) rfl (fun b3800 b3801 => ?_))
                              refine wp_of e16 c16_241 (rw_bipush (pc' := 243) (z := 59) rfl (by decide) ?_)
                              refine wp_of e16 c16_243 (rw_icmp_ne (p1 := 250) (p2 := 246) (by decide) rfl ⟨by omega, by omega⟩ ⟨by omega, by omega⟩ (fun c3802 => ?_) (fun c3802 => ?_))
                              · refine wp_of e16 c16_250 (rw_aload_n (pc' := 251) (v := .ref r0) rfl rfl rfl ?_)
                                refine wp_of e16 c16_251 (xg_K (pc' := 254) lf_2_7 w3502 g0 sh_4 (by decide) (by decide) rfl q3774 rfl ?_)
                                refine wp_of e16 c16_254 (rw_iload_n (pc' := 255) (z := v3500) rfl rfl ?_)
                                refine wp_of e16 c16_255 (xa_B (by decide) (pc' := 256) w3502 grb sh_2 (by decide) (ty_2 _) (by omega) (by omega) rfl (fun b3803 b3804 => ?_))
                                refine wp_of e16 c16_256 (rw_bipush (pc' := 258) (z := 44) rfl (by decide) ?_)
                                refine wp_of e16 c16_258 (rw_icmp_ne (p1 := 265) (p2 := 261) (by decide) rfl ⟨by omega, by omega⟩ ⟨by omega, by omega⟩ (fun c3805 => ?_) (fun c3805 => ?_))
                                · refine wp_of e16 c16_265 (rw_iconst (pc' := 266) rfl ?_)
                                  refine wp_of e16 c16_266 (xp_I (pc' := 269) lf_2_41 w3502 g0 sh_4 (by decide) (by decide) ty_4_3 rfl rfl (by omega) (by omega) ⟨by omega, by omega⟩ rfl (fun H3806 e3807 w3808 => ?_))
                                  have f3809 := f3506.put' e3807 g0 rfl
                                  have f3810 := f3507.put' e3807 g0 rfl
                                  have f3811 := f3503.put' e3807 g0 rfl
                                  have k3812 : H3806 r0 3 = 5 := wq_u_s e3807
                                  refine wp_of e16 c16_269 (rw_iinc (pc' := 272) (z := v3500) (L' := [(1, vI (v3500 + 1)), (3, vI ((v3500 - (H3501 r0 4)) - (v3426 - (H3427 r0 4)))), (2, vI (v3426 - (H3427 r0 4))), (0, .ref r0)]) rfl rfl rfl rfl ?_)
                                  refine wp_of e16 c16_272 (rw_goto (p1 := 280) (by decide) ?_)
                                  refine wp_of e16 c16_280 (rw_aload_n (pc' := 281) (v := .ref r0) rfl rfl rfl ?_)
                                  refine wp_of e16 c16_281 (rw_iload_n (pc' := 282) (z := v3500 + 1) rfl rfl ?_)
                                  refine wp_of e16 c16_282 (xp_I (pc' := 285) lf_2_23 w3808 g0 sh_4 (by decide) (by decide) ty_4_2 rfl rfl (by omega) (by omega) ⟨by omega, by omega⟩ rfl (fun H3813 e3814 w3815 => ?_))
                                  have f3816 := f3809.put' e3814 g0 rfl
                                  have f3817 := f3810.put' e3814 g0 rfl
                                  have f3818 := f3811.put' e3814 g0 rfl
                                  have k3819 : H3813 r0 2 = v3500 + 1 := wq_u_s e3814
                                  exact wp_return e16 c16_285 rfl ⟨rfl, w3815, f3816, rfl⟩
                                · refine wp_of e16 c16_261 (rw_iconst (pc' := 262) rfl ?_)
                                  refine wp_of e16 c16_262 (rw_goto (p1 := 266) (by decide) ?_)
                                  refine wp_of e16 c16_266 (xp_I (pc' := 269) lf_2_41 w3502 g0 sh_4 (by decide) (by decide) ty_4_3 rfl rfl (by omega) (by omega) ⟨by omega, by omega⟩ rfl (fun H3820 e3821 w3822 => ?_))
                                  have f3823 := f3506.put' e3821 g0 rfl
                                  have f3824 := f3507.put' e3821 g0 rfl
                                  have f3825 := f3503.put' e3821 g0 rfl
                                  have k3826 : H3820 r0 3 = 4 := wq_u_s e3821
                                  refine wp_of e16 c16_269 (rw_iinc (pc' := 272) (z := v3500) (L' := [(1, vI (v3500 + 1)), (3, vI ((v3500 - (H3501 r0 4)) - (v3426 - (H3427 r0 4)))), (2, vI (v3426 - (H3427 r0 4))), (0, .ref r0)]) rfl rfl rfl rfl ?_)
                                  refine wp_of e16 c16_272 (rw_goto (p1 := 280) (by decide) ?_)
                                  refine wp_of e16 c16_280 (rw_aload_n (pc' := 281) (v := .ref r0) rfl rfl rfl ?_)
                                  refine wp_of e16 c16_281 (rw_iload_n (pc' := 282) (z := v3500 + 1) rfl rfl ?_)
                                  refine wp_of e16 c16_282 (xp_I (pc' := 285) lf_2_23 w3822 g0 sh_4 (by decide) (by decide) ty_4_2 rfl rfl (by omega) (by omega) ⟨by omega, by omega⟩ rfl (fun H3827 e3828 w3829 => ?_))
                                  have f3830 := f3823.put' e3828 g0 rfl
                                  have f3831 := f3824.put' e3828 g0 rfl
                                  have f3832 := f3825.put' e3828 g0 rfl
                                  have k3833 : H3827 r0 2 = v3500 + 1 := wq_u_s e3828
                                  exact wp_return e16 c16_285 rfl ⟨rfl, w3829, f3830, rfl⟩
                              · exfalso
                                omega
                          · refine wp_of e16 c16_209 (rw_aload_n (pc' := 210) (v := .ref r0) rfl rfl rfl ?_)
                            refine wp_of e16 c16_210 (rw_iload_n (pc' := 211) (z := (v3500 - (H3501 r0 4)) - (v3426 - (H3427 r0 4))) rfl rfl ?_)
                            refine wp_of e16 c16_211 (rw_iconst (pc' := 212) rfl ?_)
                            refine wp_of e16 c16_212 (rw_icmp_gt (p1 := 219) (p2 := 215) (by decide) rfl ⟨by omega, by omega⟩ ⟨by omega, by omega⟩ (fun c3834 => ?_) (fun c3834 => ?_))
                            · refine wp_of e16 c16_219 (rw_iconst (pc' := 220) rfl ?_)
                              refine wp_of e16 c16_220 (xp_I (pc' := 223) lf_2_41 w3502 g0 sh_4 (by decide) (by decide) ty_4_3 rfl rfl (by omega) (by omega) ⟨by omega, by omega⟩ rfl (fun H3835 e3836 w3837 => ?_))
                              have f3838 := f3506.put' e3836 g0 rfl
                              have f3839 := f3507.put' e3836 g0 rfl
                              have f3840 := f3503.put' e3836 g0 rfl
                              have k3841 : H3835 r0 3 = 5 := wq_u_s e3836
                              refine wp_of e16 c16_223 (rw_goto (p1 := 280) (by decide) ?_)
                              refine wp_of e16 c16_280 (rw_aload_n (pc' := 281) (v := .ref r0) rfl rfl rfl ?_)
                              refine wp_of e16 c16_281 (rw_iload_n (pc' := 282) (z := v3500) rfl rfl ?_)
                              refine wp_of e16 c16_282 (xp_I (pc' := 285) lf_2_23 w3837 g0 sh_4 (by decide) (by decide) ty_4_2 rfl rfl (by omega) (by omega) ⟨by omega, by omega⟩ rfl (fun H3842 e3843 w3844 => ?_))
                              have f3845 := f3838.put' e3843 g0 rfl
                              have f3846 := f3839.put' e3843 g0 rfl
                              have f3847 := f3840.put' e3843 g0 rfl
                              have k3848 : H3842 r0 2 = v3500 := wq_u_s e3843
                              exact wp_return e16 c16_285 rfl ⟨rfl, w3844, f3845, rfl⟩
                            · refine wp_of e16 c16_215 (rw_iconst (pc' := 216) rfl ?_)
                              refine wp_of e16 c16_216 (rw_goto (p1 := 220) (by decide) ?_)
                              refine wp_of e16 c16_220 (xp_I (pc' := 223) lf_2_41 w3502 g0 sh_4 (by decide) (by decide) ty_4_3 rfl rfl (by omega) (by omega) ⟨by omega, by omega⟩ rfl (fun H3849 e3850 w3851 => ?_))
                              have f3852 := f3506.put' e3850 g0 rfl
                              have f3853 := f3507.put' e3850 g0 rfl
                              have f3854 := f3503.put' e3850 g0 rfl
                              have k3855 : H3849 r0 3 = 2 := wq_u_s e3850
                              refine wp_of e16 c16_223 (rw_goto (p1 := 280) (by decide) ?_)
                              refine wp_of e16 c16_280 (rw_aload_n (pc' := 281) (v := .ref r0) rfl rfl rfl ?_)
                              refine wp_of e16 c16_281 (rw_iload_n (pc' := 282) (z := v3500) rfl rfl ?_)
                              refine wp_of e16 c16_282 (xp_I (pc' := 285) lf_2_23 w3851 g0 sh_4 (by decide) (by decide) ty_4_2 rfl rfl (by omega) (by omega) ⟨by omega, by omega⟩ rfl (fun H3856 e3857 w3858 => ?_))
                              have f3859 := f3852.put' e3857 g0 rfl
                              have f3860 := f3853.put' e3857 g0 rfl
                              have f3861 := f3854.put' e3857 g0 rfl
                              have k3862 : H3856 r0 2 = v3500 := wq_u_s e3857
                              exact wp_return e16 c16_285 rfl ⟨rfl, w3858, f3859, rfl⟩
                        · exfalso
                          omega
                      · refine wp_of e16 c16_136 (rw_aload_n (pc' := 137) (v := .ref r0) rfl rfl rfl ?_)
                        refine wp_of e16 c16_137 (xg_K (pc' := 140) lf_2_7 w3502 g0 sh_4 (by decide) (by decide) rfl q3774 rfl ?_)
                        refine wp_of e16 c16_140 (rw_iload_n (pc' := 141) (z := v3500) rfl rfl ?_)
                        refine wp_of e16 c16_141 (xa_B (by decide) (pc' := 142) w3502 grb sh_2 (by decide) (ty_2 _) (by omega) (by omega) rfl (fun b3863 b3864 => ?_))
                        refine wp_of e16 c16_142 (rw_bipush (pc' := 144) (z := 57) rfl (by decide) ?_)
                        refine wp_of e16 c16_144 (rw_icmp_gt (p1 := 174) (p2 := 147) (by decide) rfl ⟨by omega, by omega⟩ ⟨by omega, by omega⟩ (fun c3865 => ?_) (fun c3865 => ?_))
                        · refine wp_of e16 c16_174 (rw_iload_n (pc' := 175) (z := v3500) rfl rfl ?_)
                          refine wp_of e16 c16_175 (rw_aload_n (pc' := 176) (v := .ref r0) rfl rfl rfl ?_)
                          have k3866 : H3501 r0 4 = H3427 r0 4 := ((f3503 r0 4 _ g0 rfl).trans (wq_u_j e3441 rfl))
                          refine wp_of e16 c16_176 (xg_I (pc' := 179) lf_2_29 w3502 g0 sh_4 (by decide) (by decide) ty_4_4 rfl rfl (fun b3867 b3868 => ?_))
                          refine wp_of e16 c16_179 (rw_isub (pc' := 180) rfl ?_)
                          refine wp_of e16 c16_180 (rw_iload_n (pc' := 181) (z := v3426 - (H3427 r0 4)) rfl rfl ?_)
                          refine wp_of e16 c16_181 (rw_isub (pc' := 182) rfl ?_)
                          refine wp_of e16 c16_182 (rw_istore_n (pc' := 183) (z := (v3500 - (H3501 r0 4)) - (v3426 - (H3427 r0 4))) (L' := [(3, vI ((v3500 - (H3501 r0 4)) - (v3426 - (H3427 r0 4)))), (1, vI v3500), (2, vI (v3426 - (H3427 r0 4))), (0, .ref r0)]) rfl rfl rfl ?_)
                          refine wp_of e16 c16_183 (rw_iload_n (pc' := 184) (z := v3426 - (H3427 r0 4)) rfl rfl ?_)
                          refine wp_of e16 c16_184 (rw_if_le (p1 := 205) (p2 := 187) (by decide) rfl ⟨by omega, by omega⟩ (fun c3869 => ?_) (fun c3869 => ?_))
                          · refine wp_of e16 c16_205 (rw_iload_n (pc' := 206) (z := (v3500 - (H3501 r0 4)) - (v3426 - (H3427 r0 4))) rfl rfl ?_)
                            refine wp_of e16 c16_206 (rw_if_le (p1 := 226) (p2 := 209) (by decide) rfl ⟨by omega, by omega⟩ (fun c3870 => ?_) (fun c3870 => ?_))
                            · refine wp_of e16 c16_226 (rw_iload_n (pc' := 227) (z := v3500) rfl rfl ?_)
                              refine wp_of e16 c16_227 (rw_aload_n (pc' := 228) (v := .ref r0) rfl rfl rfl ?_)
                              refine wp_of e16 c16_228 (xg_I (pc' := 231) lf_2_19 w3502 g0 sh_4 (by decide) (by decide) ty_4_1 rfl rfl (fun b3871 b3872 => ?_))
                              refine wp_of e16 c16_231 (rw_icmp_ge (p1 := 275) (p2 := 234) (by decide) rfl ⟨by omega, by omega⟩ ⟨by omega, by omega⟩ (fun c3873 => ?_) (fun c3873 => ?_))
                              · refine wp_of e16 c16_275 (rw_aload_n (pc' := 276) (v := .ref r0) rfl rfl rfl ?_)
                                refine wp_of e16 c16_276 (rw_iconst (pc' := 277) rfl ?_)
                                refine wp_of e16 c16_277 (xp_I (pc' := 280) lf_2_41 w3502 g0 sh_4 (by decide) (by decide) ty_4_3 rfl rfl (by omega) (by omega) ⟨by omega, by omega⟩ rfl (fun H3874 e3875 w3876 => ?_))
                                have f3877 := f3506.put' e3875 g0 rfl
                                have f3878 := f3507.put' e3875 g0 rfl
                                have f3879 := f3503.put' e3875 g0 rfl
                                have k3880 : H3874 r0 3 = 0 := wq_u_s e3875
                                refine wp_of e16 c16_280 (rw_aload_n (pc' := 281) (v := .ref r0) rfl rfl rfl ?_)
                                refine wp_of e16 c16_281 (rw_iload_n (pc' := 282) (z := v3500) rfl rfl ?_)
                                refine wp_of e16 c16_282 (xp_I (pc' := 285) lf_2_23 w3876 g0 sh_4 (by decide) (by decide) ty_4_2 rfl rfl (by omega) (by omega) ⟨by omega, by omega⟩ rfl (fun H3881 e3882 w3883 => ?_))
                                have f3884 := f3877.put' e3882 g0 rfl
                                have f3885 := f3878.put' e3882 g0 rfl
                                have f3886 := f3879.put' e3882 g0 rfl
                                have k3887 : H3881 r0 2 = v3500 := wq_u_s e3882
                                exact wp_return e16 c16_285 rfl ⟨rfl, w3883, f3884, rfl⟩
                              · refine wp_of e16 c16_234 (rw_aload_n (pc' := 235) (v := .ref r0) rfl rfl rfl ?_)
                                refine wp_of e16 c16_235 (rw_aload_n (pc' := 236) (v := .ref r0) rfl rfl rfl ?_)
                                refine wp_of e16 c16_236 (xg_K (pc' := 239) lf_2_7 w3502 g0 sh_4 (by decide) (by decide) rfl q3774 rfl ?_)
                                refine wp_of e16 c16_239 (rw_iload_n (pc' := 240) (z := v3500) rfl rfl ?_)
                                refine wp_of e16 c16_240 (xa_B (by decide) (pc' := 241) w3502 grb sh_2 (by decide) (ty_2 _) (by omega) (by omega) rfl (fun b3888 b3889 => ?_))
                                refine wp_of e16 c16_241 (rw_bipush (pc' := 243) (z := 59) rfl (by decide) ?_)
                                refine wp_of e16 c16_243 (rw_icmp_ne (p1 := 250) (p2 := 246) (by decide) rfl ⟨by omega, by omega⟩ ⟨by omega, by omega⟩ (fun c3890 => ?_) (fun c3890 => ?_))
                                · refine wp_of e16 c16_250 (rw_aload_n (pc' := 251) (v := .ref r0) rfl rfl rfl ?_)
                                  refine wp_of e16 c16_251 (xg_K (pc' := 254) lf_2_7 w3502 g0 sh_4 (by decide) (by decide) rfl q3774 rfl ?_)
                                  refine wp_of e16 c16_254 (rw_iload_n (pc' := 255) (z := v3500) rfl rfl ?_)
                                  refine wp_of e16 c16_255 (xa_B (by decide) (pc' := 256) w3502 grb sh_2 (by decide) (ty_2 _) (by omega) (by omega) rfl (fun b3891 b3892 => ?_))
                                  refine wp_of e16 c16_256 (rw_bipush (pc' := 258) (z := 44) rfl (by decide) ?_)
                                  refine wp_of e16 c16_258 (rw_icmp_ne (p1 := 265) (p2 := 261) (by decide) rfl ⟨by omega, by omega⟩ ⟨by omega, by omega⟩ (fun c3893 => ?_) (fun c3893 => ?_))
                                  · refine wp_of e16 c16_265 (rw_iconst (pc' := 266) rfl ?_)
                                    refine wp_of e16 c16_266 (xp_I (pc' := 269) lf_2_41 w3502 g0 sh_4 (by decide) (by decide) ty_4_3 rfl rfl (by omega) (by omega) ⟨by omega, by omega⟩ rfl (fun H3894 e3895 w3896 => ?_))
                                    have f3897 := f3506.put' e3895 g0 rfl
                                    have f3898 := f3507.put' e3895 g0 rfl
                                    have f3899 := f3503.put' e3895 g0 rfl
                                    have k3900 : H3894 r0 3 = 5 := wq_u_s e3895
                                    refine wp_of e16 c16_269 (rw_iinc (pc' := 272) (z := v3500) (L' := [(1, vI (v3500 + 1)), (3, vI ((v3500 - (H3501 r0 4)) - (v3426 - (H3427 r0 4)))), (2, vI (v3426 - (H3427 r0 4))), (0, .ref r0)]) rfl rfl rfl rfl ?_)
                                    refine wp_of e16 c16_272 (rw_goto (p1 := 280) (by decide) ?_)
                                    refine wp_of e16 c16_280 (rw_aload_n (pc' := 281) (v := .ref r0) rfl rfl rfl ?_)
                                    refine wp_of e16 c16_281 (rw_iload_n (pc' := 282) (z := v3500 + 1) rfl rfl ?_)
                                    refine wp_of e16 c16_282 (xp_I (pc' := 285) lf_2_23 w3896 g0 sh_4 (by decide) (by decide) ty_4_2 rfl rfl (by omega) (by omega) ⟨by omega, by omega⟩ rfl (fun H3901 e3902 w3903 => ?_))
                                    have f3904 := f3897.put' e3902 g0 rfl
                                    have f3905 := f3898.put' e3902 g0 rfl
                                    have f3906 := f3899.put' e3902 g0 rfl
                                    have k3907 : H3901 r0 2 = v3500 + 1 := wq_u_s e3902
                                    exact wp_return e16 c16_285 rfl ⟨rfl, w3903, f3904, rfl⟩
                                  · exfalso
                                    omega
                                · refine wp_of e16 c16_246 (rw_iconst (pc' := 247) rfl ?_)
                                  refine wp_of e16 c16_247 (rw_goto (p1 := 266) (by decide) ?_)
                                  refine wp_of e16 c16_266 (xp_I (pc' := 269) lf_2_41 w3502 g0 sh_4 (by decide) (by decide) ty_4_3 rfl rfl (by omega) (by omega) ⟨by omega, by omega⟩ rfl (fun H3908 e3909 w3910 => ?_))
                                  have f3911 := f3506.put' e3909 g0 rfl
                                  have f3912 := f3507.put' e3909 g0 rfl
                                  have f3913 := f3503.put' e3909 g0 rfl
                                  have k3914 : H3908 r0 3 = 3 := wq_u_s e3909
                                  refine wp_of e16 c16_269 (rw_iinc (pc' := 272) (z := v3500) (L' := [(1, vI (v3500 + 1)), (3, vI ((v3500 - (H3501 r0 4)) - (v3426 - (H3427 r0 4)))), (2, vI (v3426 - (H3427 r0 4))), (0, .ref r0)]) rfl rfl rfl rfl ?_)
                                  refine wp_of e16 c16_272 (rw_goto (p1 := 280) (by decide) ?_)
                                  refine wp_of e16 c16_280 (rw_aload_n (pc' := 281) (v := .ref r0) rfl rfl rfl ?_)
                                  refine wp_of e16 c16_281 (rw_iload_n (pc' := 282) (z := v3500 + 1) rfl rfl ?_)
                                  refine wp_of e16 c16_282 (xp_I (pc' := 285) lf_2_23 w3910 g0 sh_4 (by decide) (by decide) ty_4_2 rfl rfl (by omega) (by omega) ⟨by omega, by omega⟩ rfl (fun H3915 e3916 w3917 => ?_))
                                  have f3918 := f3911.put' e3916 g0 rfl
                                  have f3919 := f3912.put' e3916 g0 rfl
                                  have f3920 := f3913.put' e3916 g0 rfl
                                  have k3921 : H3915 r0 2 = v3500 + 1 := wq_u_s e3916
                                  exact wp_return e16 c16_285 rfl ⟨rfl, w3917, f3918, rfl⟩
                            · refine wp_of e16 c16_209 (rw_aload_n (pc' := 210) (v := .ref r0) rfl rfl rfl ?_)
                              refine wp_of e16 c16_210 (rw_iload_n (pc' := 211) (z := (v3500 - (H3501 r0 4)) - (v3426 - (H3427 r0 4))) rfl rfl ?_)
                              refine wp_of e16 c16_211 (rw_iconst (pc' := 212) rfl ?_)
                              refine wp_of e16 c16_212 (rw_icmp_gt (p1 := 219) (p2 := 215) (by decide) rfl ⟨by omega, by omega⟩ ⟨by omega, by omega⟩ (fun c3922 => ?_) (fun c3922 => ?_))
                              · refine wp_of e16 c16_219 (rw_iconst (pc' := 220) rfl ?_)
                                refine wp_of e16 c16_220 (xp_I (pc' := 223) lf_2_41 w3502 g0 sh_4 (by decide) (by decide) ty_4_3 rfl rfl (by omega) (by omega) ⟨by omega, by omega⟩ rfl (fun H3923 e3924 w3925 => ?_))
                                have f3926 := f3506.put' e3924 g0 rfl
                                have f3927 := f3507.put' e3924 g0 rfl
                                have f3928 := f3503.put' e3924 g0 rfl
                                have k3929 : H3923 r0 3 = 5 := wq_u_s e3924
                                refine wp_of e16 c16_223 (rw_goto (p1 := 280) (by decide) ?_)
                                refine wp_of e16 c16_280 (rw_aload_n (pc' := 281) (v := .ref r0) rfl rfl rfl ?_)
                                refine wp_of e16 c16_281 (rw_iload_n (pc' := 282) (z := v3500) rfl rfl ?_)
                                refine wp_of e16 c16_282 (xp_I (pc' := 285) lf_2_23 w3925 g0 sh_4 (by decide) (by decide) ty_4_2 rfl rfl (by omega) (by omega) ⟨by omega, by omega⟩ rfl (fun H3930 e3931 w3932 => ?_))
                                have f3933 := f3926.put' e3931 g0 rfl
                                have f3934 := f3927.put' e3931 g0 rfl
                                have f3935 := f3928.put' e3931 g0 rfl
                                have k3936 : H3930 r0 2 = v3500 := wq_u_s e3931
                                exact wp_return e16 c16_285 rfl ⟨rfl, w3932, f3933, rfl⟩
                              · refine wp_of e16 c16_215 (rw_iconst (pc' := 216) rfl ?_)
                                refine wp_of e16 c16_216 (rw_goto (p1 := 220) (by decide) ?_)
                                refine wp_of e16 c16_220 (xp_I (pc' := 223) lf_2_41 w3502 g0 sh_4 (by decide) (by decide) ty_4_3 rfl rfl (by omega) (by omega) ⟨by omega, by omega⟩ rfl (fun H3937 e3938 w3939 => ?_))
                                have f3940 := f3506.put' e3938 g0 rfl
                                have f3941 := f3507.put' e3938 g0 rfl
                                have f3942 := f3503.put' e3938 g0 rfl
                                have k3943 : H3937 r0 3 = 2 := wq_u_s e3938
                                refine wp_of e16 c16_223 (rw_goto (p1 := 280) (by decide) ?_)
                                refine wp_of e16 c16_280 (rw_aload_n (pc' := 281) (v := .ref r0) rfl rfl rfl ?_)
                                refine wp_of e16 c16_281 (rw_iload_n (pc' := 282) (z := v3500) rfl rfl ?_)
                                refine wp_of e16 c16_282 (xp_I (pc' := 285) lf_2_23 w3939 g0 sh_4 (by decide) (by decide) ty_4_2 rfl rfl (by omega) (by omega) ⟨by omega, by omega⟩ rfl (fun H3944 e3945 w3946 => ?_))
                                have f3947 := f3940.put' e3945 g0 rfl
                                have f3948 := f3941.put' e3945 g0 rfl
                                have f3949 := f3942.put' e3945 g0 rfl
                                have k3950 : H3944 r0 2 = v3500 := wq_u_s e3945
                                exact wp_return e16 c16_285 rfl ⟨rfl, w3946, f3947, rfl⟩
                          · exfalso
                            omega
                        · refine wp_of e16 c16_147 (rw_aload_n (pc' := 148) (v := .ref r0) rfl rfl rfl ?_)
                          refine wp_of e16 c16_148 (rw_aload_n (pc' := 149) (v := .ref r0) rfl rfl rfl ?_)
                          refine wp_of e16 c16_149 (xg_I (pc' := 152) lf_2_38 w3502 g0 sh_4 (by decide) (by decide) ty_4_5 rfl rfl (fun b3951 b3952 => ?_))
                          refine wp_of e16 c16_152 (rw_bipush (pc' := 154) (z := 10) rfl (by decide) ?_)
                          refine wp_of e16 c16_154 (rw_imulw (pc' := 155) rfl ?_)
                          obtain ⟨v3953, e3954⟩ : ∃ x : Int, x = wq_w ((H3501 r0 5) * 10) := ⟨_, rfl⟩
                          rw [← e3954]
                          have b3955 : -2147483648 ≤ v3953 ∧ v3953 ≤ 2147483647 := by
                            rw [e3954]
                            exact wI_w _
                          refine wp_of e16 c16_155 (rw_aload_n (pc' := 156) (v := .ref r0) rfl rfl rfl ?_)
                          refine wp_of e16 c16_156 (xg_K (pc' := 159) lf_2_7 w3502 g0 sh_4 (by decide) (by decide) rfl q3774 rfl ?_)
                          refine wp_of e16 c16_159 (rw_iload_n (pc' := 160) (z := v3500) rfl rfl ?_)
                          refine wp_of e16 c16_160 (xa_B (by decide) (pc' := 161) w3502 grb sh_2 (by decide) (ty_2 _) (by omega) (by omega) rfl (fun b3956 b3957 => ?_))
                          refine wp_of e16 c16_161 (rw_bipush (pc' := 163) (z := 48) rfl (by decide) ?_)
                          refine wp_of e16 c16_163 (rw_isub (pc' := 164) rfl ?_)
                          refine wp_of e16 c16_164 (rw_iaddw (pc' := 165) rfl ?_)
                          obtain ⟨v3958, e3959⟩ : ∃ x : Int, x = wq_w (v3953 + ((H3501 rb v3500.toNat) - 48)) := ⟨_, rfl⟩
                          rw [← e3959]
                          have b3960 : -2147483648 ≤ v3958 ∧ v3958 ≤ 2147483647 := by
                            rw [e3959]
                            exact wI_w _
                          refine wp_of e16 c16_165 (xp_I (pc' := 168) lf_2_38 w3502 g0 sh_4 (by decide) (by decide) ty_4_5 rfl rfl (by omega) (by omega) ⟨by omega, by omega⟩ rfl (fun H3961 e3962 w3963 => ?_))
                          have f3964 := f3506.put' e3962 g0 rfl
                          have f3965 := f3507.put' e3962 g0 rfl
                          have f3966 := f3503.put' e3962 g0 rfl
                          have k3967 : H3961 r0 5 = v3958 := wq_u_s e3962
                          refine wp_of e16 c16_168 (rw_iinc (pc' := 171) (z := v3500) (L' := [(1, vI (v3500 + 1)), (2, vI (v3426 - (H3427 r0 4))), (0, .ref r0)]) rfl rfl rfl rfl ?_)
                          refine wp_of e16 c16_171 (rw_goto (p1 := 113) (by decide) ?_)
                          exact wp_lc (ks := [1, 2, 0]) (wl_c rfl (wl_c rfl (wl_c rfl wl_n))) rfl (by decide) (ih3499 _ (by omega) (v3500 + 1) H3961 w3963 f3966 ⟨by omega, by omega⟩ rfl)
              exact wp_lc (ks := [2, 1, 0]) (wl_c rfl (wl_c rfl (wl_c rfl wl_n))) rfl (by decide) (lp3497 _ v3426 H3440 w3442 wfr.rf ⟨by omega, by omega⟩ rfl)
            · refine wp_of e16 c16_48 (rw_aload_n (pc' := 49) (v := .ref r0) rfl rfl rfl ?_)
              have k3968 : H3427 r0 0 = H r0 0 := ((f3429 r0 0 _ g0 rfl).trans ((wq_u_j e3372 rfl).trans (wq_u_j e3367 rfl)))
              have q3969 : H3427 r0 0 = (rb : Int) := k3968.trans qrb
              refine wp_of e16 c16_49 (xg_K (pc' := 52) lf_2_7 w3428 g0 sh_4 (by decide) (by decide) rfl q3969 rfl ?_)
              refine wp_of e16 c16_52 (rw_iload_n (pc' := 53) (z := v3426) rfl rfl ?_)
              refine wp_of e16 c16_53 (xa_B (by decide) (pc' := 54) w3428 grb sh_2 (by decide) (ty_2 _) (by omega) (by omega) rfl (fun b3970 b3971 => ?_))
              refine wp_of e16 c16_54 (rw_bipush (pc' := 56) (z := 97) rfl (by decide) ?_)
              refine wp_of e16 c16_56 (rw_icmp_lt (p1 := 101) (p2 := 59) (by decide) rfl ⟨by omega, by omega⟩ ⟨by omega, by omega⟩ (fun c3972 => ?_) (fun c3972 => ?_))
              · refine wp_of e16 c16_101 (rw_iload_n (pc' := 102) (z := v3426) rfl rfl ?_)
                refine wp_of e16 c16_102 (rw_aload_n (pc' := 103) (v := .ref r0) rfl rfl rfl ?_)
                have k3973 : H3427 r0 4 = H3366 r0 4 := ((f3429 r0 4 _ g0 rfl).trans (wq_u_j e3372 rfl))
                refine wp_of e16 c16_103 (xg_I (pc' := 106) lf_2_29 w3428 g0 sh_4 (by decide) (by decide) ty_4_4 rfl rfl (fun b3974 b3975 => ?_))
                refine wp_of e16 c16_106 (rw_isub (pc' := 107) rfl ?_)
                refine wp_of e16 c16_107 (rw_istore_n (pc' := 108) (z := v3426 - (H3427 r0 4)) (L' := [(2, vI (v3426 - (H3427 r0 4))), (1, vI v3426), (0, .ref r0)]) rfl rfl rfl ?_)
                refine wp_of e16 c16_108 (rw_aload_n (pc' := 109) (v := .ref r0) rfl rfl rfl ?_)
                refine wp_of e16 c16_109 (rw_iconst (pc' := 110) rfl ?_)
                refine wp_of e16 c16_110 (xp_I (pc' := 113) lf_2_38 w3428 g0 sh_4 (by decide) (by decide) ty_4_5 rfl rfl (by omega) (by omega) ⟨by omega, by omega⟩ rfl (fun H3976 e3977 w3978 => ?_))
                have f3979 := f3432.put' e3977 g0 rfl
                have f3980 := f3429.put' e3977 g0 rfl
                have k3981 : H3976 r0 5 = 0 := wq_u_s e3977
                have lp4033 : ∀ (n4034 : Nat) (v4036 : Int) (H4037 : wq_H), WT T H4037 → wfr [(4, 5)] T H3976 H4037 → (0 ≤ v4036 ∧ v4036 ≤ 900) → (900 - v4036).toNat = n4034 → wp kt 0 16 113 [(1, vI v4036), (2, vI (v3426 - (H3427 r0 4))), (0, .ref r0)] [] T H4037 (q_16 r0 rb T H) := by
                  intro n4034
                  induction n4034 using Nat.strongRecOn with
                  | _ n4034 ih4035 =>
                    intro v4036 H4037 w4038 f4039 b4040 m4041
                    have f4042 := f3979.tr f4039 rfl
                    have f4043 := f3980.tr f4039 rfl
                    refine wp_of e16 c16_113 (rw_iload_n (pc' := 114) (z := v4036) rfl rfl ?_)
                    refine wp_of e16 c16_114 (rw_aload_n (pc' := 115) (v := .ref r0) rfl rfl rfl ?_)
                    have k4044 : H4037 r0 1 = H3427 r0 1 := ((f4039 r0 1 _ g0 rfl).trans (wq_u_j e3977 rfl))
                    refine wp_of e16 c16_115 (xg_I (pc' := 118) lf_2_19 w4038 g0 sh_4 (by decide) (by decide) ty_4_1 rfl rfl (fun b4045 b4046 => ?_))
                    refine wp_of e16 c16_118 (rw_icmp_ge (p1 := 174) (p2 := 121) (by decide) rfl ⟨by omega, by omega⟩ ⟨by omega, by omega⟩ (fun c4047 => ?_) (fun c4047 => ?_))
                    · refine wp_of e16 c16_174 (rw_iload_n (pc' := 175) (z := v4036) rfl rfl ?_)
                      refine wp_of e16 c16_175 (rw_aload_n (pc' := 176) (v := .ref r0) rfl rfl rfl ?_)
                      have k4048 : H4037 r0 4 = H3427 r0 4 := ((f4039 r0 4 _ g0 rfl).trans (wq_u_j e3977 rfl))
                      refine wp_of e16 c16_176 (xg_I (pc' := 179) lf_2_29 w4038 g0 sh_4 (by decide) (by decide) ty_4_4 rfl rfl (fun b4049 b4050 => ?_))
                      refine wp_of e16 c16_179 (rw_isub (pc' := 180) rfl ?_)
                      refine wp_of e16 c16_180 (rw_iload_n (pc' := 181) (z := v3426 - (H3427 r0 4)) rfl rfl ?_)
                      refine wp_of e16 c16_181 (rw_isub (pc' := 182) rfl ?_)
                      refine wp_of e16 c16_182 (rw_istore_n (pc' := 183) (z := (v4036 - (H4037 r0 4)) - (v3426 - (H3427 r0 4))) (L' := [(3, vI ((v4036 - (H4037 r0 4)) - (v3426 - (H3427 r0 4)))), (1, vI v4036), (2, vI (v3426 - (H3427 r0 4))), (0, .ref r0)]) rfl rfl rfl ?_)
                      refine wp_of e16 c16_183 (rw_iload_n (pc' := 184) (z := v3426 - (H3427 r0 4)) rfl rfl ?_)
                      refine wp_of e16 c16_184 (rw_if_le (p1 := 205) (p2 := 187) (by decide) rfl ⟨by omega, by omega⟩ (fun c4051 => ?_) (fun c4051 => ?_))
                      · refine wp_of e16 c16_205 (rw_iload_n (pc' := 206) (z := (v4036 - (H4037 r0 4)) - (v3426 - (H3427 r0 4))) rfl rfl ?_)
                        refine wp_of e16 c16_206 (rw_if_le (p1 := 226) (p2 := 209) (by decide) rfl ⟨by omega, by omega⟩ (fun c4052 => ?_) (fun c4052 => ?_))
                        · refine wp_of e16 c16_226 (rw_iload_n (pc' := 227) (z := v4036) rfl rfl ?_)
                          refine wp_of e16 c16_227 (rw_aload_n (pc' := 228) (v := .ref r0) rfl rfl rfl ?_)
                          refine wp_of e16 c16_228 (xg_I (pc' := 231) lf_2_19 w4038 g0 sh_4 (by decide) (by decide) ty_4_1 rfl rfl (fun b4053 b4054 => ?_))
                          refine wp_of e16 c16_231 (rw_icmp_ge (p1 := 275) (p2 := 234) (by decide) rfl ⟨by omega, by omega⟩ ⟨by omega, by omega⟩ (fun c4055 => ?_) (fun c4055 => ?_))
                          · refine wp_of e16 c16_275 (rw_aload_n (pc' := 276) (v := .ref r0) rfl rfl rfl ?_)
                            refine wp_of e16 c16_276 (rw_iconst (pc' := 277) rfl ?_)
                            refine wp_of e16 c16_277 (xp_I (pc' := 280) lf_2_41 w4038 g0 sh_4 (by decide) (by decide) ty_4_3 rfl rfl (by omega) (by omega) ⟨by omega, by omega⟩ rfl (fun H4056 e4057 w4058 => ?_))
                            have f4059 := f4042.put' e4057 g0 rfl
                            have f4060 := f4043.put' e4057 g0 rfl
                            have f4061 := f4039.put' e4057 g0 rfl
                            have k4062 : H4056 r0 3 = 0 := wq_u_s e4057
                            refine wp_of e16 c16_280 (rw_aload_n (pc' := 281) (v := .ref r0) rfl rfl rfl ?_)
                            refine wp_of e16 c16_281 (rw_iload_n (pc' := 282) (z := v4036) rfl rfl ?_)
                            refine wp_of e16 c16_282 (xp_I (pc' := 285) lf_2_23 w4058 g0 sh_4 (by decide) (by decide) ty_4_2 rfl rfl (by omega) (by omega) ⟨by omega, by omega⟩ rfl (fun H4063 e4064 w4065 => ?_))
                            have f4066 := f4059.put' e4064 g0 rfl
                            have f4067 := f4060.put' e4064 g0 rfl
                            have f4068 := f4061.put' e4064 g0 rfl
                            have k4069 : H4063 r0 2 = v4036 := wq_u_s e4064
                            exact wp_return e16 c16_285 rfl ⟨rfl, w4065, f4066, rfl⟩
                          · refine wp_of e16 c16_234 (rw_aload_n (pc' := 235) (v := .ref r0) rfl rfl rfl ?_)
                            refine wp_of e16 c16_235 (rw_aload_n (pc' := 236) (v := .ref r0) rfl rfl rfl ?_)
                            have k4070 : H4037 r0 0 = H3427 r0 0 := ((f4039 r0 0 _ g0 rfl).trans (wq_u_j e3977 rfl))
                            have q4071 : H4037 r0 0 = (rb : Int) := k4070.trans q3969
                            refine wp_of e16 c16_236 (xg_K (pc' := 239) lf_2_7 w4038 g0 sh_4 (by decide) (by decide) rfl q4071 rfl ?_)
                            refine wp_of e16 c16_239 (rw_iload_n (pc' := 240) (z := v4036) rfl rfl ?_)
                            refine wp_of e16 c16_240 (xa_B (by decide) (pc' := 241) w4038 grb sh_2 (by decide) (ty_2 _) (by omega) (by omega) rfl (fun b4072 b4073 => ?_))
                            refine wp_of e16 c16_241 (rw_bipush (pc' := 243) (z := 59) rfl (by decide) ?_)
                            refine wp_of e16 c16_243 (rw_icmp_ne (p1 := 250) (p2 := 246) (by decide) rfl ⟨by omega, by omega⟩ ⟨by omega, by omega⟩ (fun c4074 => ?_) (fun c4074 => ?_))
                            · refine wp_of e16 c16_250 (rw_aload_n (pc' := 251) (v := .ref r0) rfl rfl rfl ?_)
                              refine wp_of e16 c16_251 (xg_K (pc' := 254) lf_2_7 w4038 g0 sh_4 (by decide) (by decide) rfl q4071 rfl ?_)
                              refine wp_of e16 c16_254 (rw_iload_n (pc' := 255) (z := v4036) rfl rfl ?_)
                              refine wp_of e16 c16_255 (xa_B (by decide) (pc' := 256) w4038 grb sh_2 (by decide) (ty_2 _) (by omega) (by omega) rfl (fun b4075 b4076 => ?_))
                              refine wp_of e16 c16_256 (rw_bipush (pc' := 258) (z := 44) rfl (by decide) ?_)
                              refine wp_of e16 c16_258 (rw_icmp_ne (p1 := 265) (p2 := 261) (by decide) rfl ⟨by omega, by omega⟩ ⟨by omega, by omega⟩ (fun c4077 => ?_) (fun c4077 => ?_))
                              · refine wp_of e16 c16_265 (rw_iconst (pc' := 266) rfl ?_)
                                refine wp_of e16 c16_266 (xp_I (pc' := 269) lf_2_41 w4038 g0 sh_4 (by decide) (by decide) ty_4_3 rfl rfl (by omega) (by omega) ⟨by omega, by omega⟩ rfl (fun H4078 e4079 w4080 => ?_))
                                have f4081 := f4042.put' e4079 g0 rfl
                                have f4082 := f4043.put' e4079 g0 rfl
                                have f4083 := f4039.put' e4079 g0 rfl
                                have k4084 : H4078 r0 3 = 5 := wq_u_s e4079
                                refine wp_of e16 c16_269 (rw_iinc (pc' := 272) (z := v4036) (L' := [(1, vI (v4036 + 1)), (3, vI ((v4036 - (H4037 r0 4)) - (v3426 - (H3427 r0 4)))), (2, vI (v3426 - (H3427 r0 4))), (0, .ref r0)]) rfl rfl rfl rfl ?_)
                                refine wp_of e16 c16_272 (rw_goto (p1 := 280) (by decide) ?_)
                                refine wp_of e16 c16_280 (rw_aload_n (pc' := 281) (v := .ref r0) rfl rfl rfl ?_)
                                refine wp_of e16 c16_281 (rw_iload_n (pc' := 282) (z := v4036 + 1) rfl rfl ?_)
                                refine wp_of e16 c16_282 (xp_I (pc' := 285) lf_2_23 w4080 g0 sh_4 (by decide) (by decide) ty_4_2 rfl rfl (by omega) (by omega) ⟨by omega, by omega⟩ rfl (fun H4085 e4086 w4087 => ?_))
                                have f4088 := f4081.put' e4086 g0 rfl
                                have f4089 := f4082.put' e4086 g0 rfl
                                have f4090 := f4083.put' e4086 g0 rfl
                                have k4091 : H4085 r0 2 = v4036 + 1 := wq_u_s e4086
                                exact wp_return e16 c16_285 rfl ⟨rfl, w4087, f4088, rfl⟩
                              · refine wp_of e16 c16_261 (rw_iconst (pc' := 262) rfl ?_)
                                refine wp_of e16 c16_262 (rw_goto (p1 := 266) (by decide) ?_)
                                refine wp_of e16 c16_266 (xp_I (pc' := 269) lf_2_41 w4038 g0 sh_4 (by decide) (by decide) ty_4_3 rfl rfl (by omega) (by omega) ⟨by omega, by omega⟩ rfl (fun H4092 e4093 w4094 => ?_))
                                have f4095 := f4042.put' e4093 g0 rfl
                                have f4096 := f4043.put' e4093 g0 rfl
                                have f4097 := f4039.put' e4093 g0 rfl
                                have k4098 : H4092 r0 3 = 4 := wq_u_s e4093
                                refine wp_of e16 c16_269 (rw_iinc (pc' := 272) (z := v4036) (L' := [(1, vI (v4036 + 1)), (3, vI ((v4036 - (H4037 r0 4)) - (v3426 - (H3427 r0 4)))), (2, vI (v3426 - (H3427 r0 4))), (0, .ref r0)]) rfl rfl rfl rfl ?_)
                                refine wp_of e16 c16_272 (rw_goto (p1 := 280) (by decide) ?_)
                                refine wp_of e16 c16_280 (rw_aload_n (pc' := 281) (v := .ref r0) rfl rfl rfl ?_)
                                refine wp_of e16 c16_281 (rw_iload_n (pc' := 282) (z := v4036 + 1) rfl rfl ?_)
                                refine wp_of e16 c16_282 (xp_I (pc' := 285) lf_2_23 w4094 g0 sh_4 (by decide) (by decide) ty_4_2 rfl rfl (by omega) (by omega) ⟨by omega, by omega⟩ rfl (fun H4099 e4100 w4101 => ?_))
                                have f4102 := f4095.put' e4100 g0 rfl
                                have f4103 := f4096.put' e4100 g0 rfl
                                have f4104 := f4097.put' e4100 g0 rfl
                                have k4105 : H4099 r0 2 = v4036 + 1 := wq_u_s e4100
                                exact wp_return e16 c16_285 rfl ⟨rfl, w4101, f4102, rfl⟩
                            · refine wp_of e16 c16_246 (rw_iconst (pc' := 247) rfl ?_)
                              refine wp_of e16 c16_247 (rw_goto (p1 := 266) (by decide) ?_)
                              refine wp_of e16 c16_266 (xp_I (pc' := 269) lf_2_41 w4038 g0 sh_4 (by decide) (by decide) ty_4_3 rfl rfl (by omega) (by omega) ⟨by omega, by omega⟩ rfl (fun H4106 e4107 w4108 => ?_))
                              have f4109 := f4042.put' e4107 g0 rfl
                              have f4110 := f4043.put' e4107 g0 rfl
                              have f4111 := f4039.put' e4107 g0 rfl
                              have k4112 : H4106 r0 3 = 3 := wq_u_s e4107
                              refine wp_of e16 c16_269 (rw_iinc (pc' := 272) (z := v4036) (L' := [(1, vI (v4036 + 1)), (3, vI ((v4036 - (H4037 r0 4)) - (v3426 - (H3427 r0 4)))), (2, vI (v3426 - (H3427 r0 4))), (0, .ref r0)]) rfl rfl rfl rfl ?_)
                              refine wp_of e16 c16_272 (rw_goto (p1 := 280) (by decide) ?_)
                              refine wp_of e16 c16_280 (rw_aload_n (pc' := 281) (v := .ref r0) rfl rfl rfl ?_)
                              refine wp_of e16 c16_281 (rw_iload_n (pc' := 282) (z := v4036 + 1) rfl rfl ?_)
                              refine wp_of e16 c16_282 (xp_I (pc' := 285) lf_2_23 w4108 g0 sh_4 (by decide) (by decide) ty_4_2 rfl rfl (by omega) (by omega) ⟨by omega, by omega⟩ rfl (fun H4113 e4114 w4115 => ?_))
                              have f4116 := f4109.put' e4114 g0 rfl
                              have f4117 := f4110.put' e4114 g0 rfl
                              have f4118 := f4111.put' e4114 g0 rfl
                              have k4119 : H4113 r0 2 = v4036 + 1 := wq_u_s e4114
                              exact wp_return e16 c16_285 rfl ⟨rfl, w4115, f4116, rfl⟩
                        · refine wp_of e16 c16_209 (rw_aload_n (pc' := 210) (v := .ref r0) rfl rfl rfl ?_)
                          refine wp_of e16 c16_210 (rw_iload_n (pc' := 211) (z := (v4036 - (H4037 r0 4)) - (v3426 - (H3427 r0 4))) rfl rfl ?_)
                          refine wp_of e16 c16_211 (rw_iconst (pc' := 212) rfl ?_)
                          refine wp_of e16 c16_212 (rw_icmp_gt (p1 := 219) (p2 := 215) (by decide) rfl ⟨by omega, by omega⟩ ⟨by omega, by omega⟩ (fun c4120 => ?_) (fun c4120 => ?_))
                          · refine wp_of e16 c16_219 (rw_iconst (pc' := 220) rfl ?_)
                            refine wp_of e16 c16_220 (xp_I (pc' := 223) lf_2_41 w4038 g0 sh_4 (by decide) (by decide) ty_4_3 rfl rfl (by omega) (by omega) ⟨by omega, by omega⟩ rfl (fun H4121 e4122 w4123 => ?_))
                            have f4124 := f4042.put' e4122 g0 rfl
                            have f4125 := f4043.put' e4122 g0 rfl
                            have f4126 := f4039.put' e4122 g0 rfl
                            have k4127 : H4121 r0 3 = 5 := wq_u_s e4122
                            refine wp_of e16 c16_223 (rw_goto (p1 := 280) (by decide) ?_)
                            refine wp_of e16 c16_280 (rw_aload_n (pc' := 281) (v := .ref r0) rfl rfl rfl ?_)
                            refine wp_of e16 c16_281 (rw_iload_n (pc' := 282) (z := v4036) rfl rfl ?_)
                            refine wp_of e16 c16_282 (xp_I (pc' := 285) lf_2_23 w4123 g0 sh_4 (by decide) (by decide) ty_4_2 rfl rfl (by omega) (by omega) ⟨by omega, by omega⟩ rfl (fun H4128 e4129 w4130 => ?_))
                            have f4131 := f4124.put' e4129 g0 rfl
                            have f4132 := f4125.put' e4129 g0 rfl
                            have f4133 := f4126.put' e4129 g0 rfl
                            have k4134 : H4128 r0 2 = v4036 := wq_u_s e4129
                            exact wp_return e16 c16_285 rfl ⟨rfl, w4130, f4131, rfl⟩
                          · refine wp_of e16 c16_215 (rw_iconst (pc' := 216) rfl ?_)
                            refine wp_of e16 c16_216 (rw_goto (p1 := 220) (by decide) ?_)
                            refine wp_of e16 c16_220 (xp_I (pc' := 223) lf_2_41 w4038 g0 sh_4 (by decide) (by decide) ty_4_3 rfl rfl (by omega) (by omega) ⟨by omega, by omega⟩ rfl (fun H4135 e4136 w4137 => ?_))
                            have f4138 := f4042.put' e4136 g0 rfl
                            have f4139 := f4043.put' e4136 g0 rfl
                            have f4140 := f4039.put' e4136 g0 rfl
                            have k4141 : H4135 r0 3 = 2 := wq_u_s e4136
                            refine wp_of e16 c16_223 (rw_goto (p1 := 280) (by decide) ?_)
                            refine wp_of e16 c16_280 (rw_aload_n (pc' := 281) (v := .ref r0) rfl rfl rfl ?_)
                            refine wp_of e16 c16_281 (rw_iload_n (pc' := 282) (z := v4036) rfl rfl ?_)
                            refine wp_of e16 c16_282 (xp_I (pc' := 285) lf_2_23 w4137 g0 sh_4 (by decide) (by decide) ty_4_2 rfl rfl (by omega) (by omega) ⟨by omega, by omega⟩ rfl (fun H4142 e4143 w4144 => ?_))
                            have f4145 := f4138.put' e4143 g0 rfl
                            have f4146 := f4139.put' e4143 g0 rfl
                            have f4147 := f4140.put' e4143 g0 rfl
                            have k4148 : H4142 r0 2 = v4036 := wq_u_s e4143
                            exact wp_return e16 c16_285 rfl ⟨rfl, w4144, f4145, rfl⟩
                      · refine wp_of e16 c16_187 (rw_aload_n (pc' := 188) (v := .ref r0) rfl rfl rfl ?_)
                        refine wp_of e16 c16_188 (rw_iload_n (pc' := 189) (z := v3426 - (H3427 r0 4)) rfl rfl ?_)
                        refine wp_of e16 c16_189 (rw_bipush (pc' := 191) (z := 8) rfl (by decide) ?_)
                        refine wp_of e16 c16_191 (rw_icmp_gt (p1 := 198) (p2 := 194) (by decide) rfl ⟨by omega, by omega⟩ ⟨by omega, by omega⟩ (fun c4149 => ?_) (fun c4149 => ?_))
                        · refine wp_of e16 c16_198 (rw_iconst (pc' := 199) rfl ?_)
                          refine wp_of e16 c16_199 (xp_I (pc' := 202) lf_2_41 w4038 g0 sh_4 (by decide) (by decide) ty_4_3 rfl rfl (by omega) (by omega) ⟨by omega, by omega⟩ rfl (fun H4150 e4151 w4152 => ?_))
                          have f4153 := f4042.put' e4151 g0 rfl
                          have f4154 := f4043.put' e4151 g0 rfl
                          have f4155 := f4039.put' e4151 g0 rfl
                          have k4156 : H4150 r0 3 = 5 := wq_u_s e4151
                          refine wp_of e16 c16_202 (rw_goto (p1 := 280) (by decide) ?_)
                          refine wp_of e16 c16_280 (rw_aload_n (pc' := 281) (v := .ref r0) rfl rfl rfl ?_)
                          refine wp_of e16 c16_281 (rw_iload_n (pc' := 282) (z := v4036) rfl rfl ?_)
                          refine wp_of e16 c16_282 (xp_I (pc' := 285) lf_2_23 w4152 g0 sh_4 (by decide) (by decide) ty_4_2 rfl rfl (by omega) (by omega) ⟨by omega, by omega⟩ rfl (fun H4157 e4158 w4159 => ?_))
                          have f4160 := f4153.put' e4158 g0 rfl
                          have f4161 := f4154.put' e4158 g0 rfl
                          have f4162 := f4155.put' e4158 g0 rfl
                          have k4163 : H4157 r0 2 = v4036 := wq_u_s e4158
                          exact wp_return e16 c16_285 rfl ⟨rfl, w4159, f4160, rfl⟩
                        · refine wp_of e16 c16_194 (rw_iconst (pc' := 195) rfl ?_)
                          refine wp_of e16 c16_195 (rw_goto (p1 := 199) (by decide) ?_)
                          refine wp_of e16 c16_199 (xp_I (pc' := 202) lf_2_41 w4038 g0 sh_4 (by decide) (by decide) ty_4_3 rfl rfl (by omega) (by omega) ⟨by omega, by omega⟩ rfl (fun H4164 e4165 w4166 => ?_))
                          have f4167 := f4042.put' e4165 g0 rfl
                          have f4168 := f4043.put' e4165 g0 rfl
                          have f4169 := f4039.put' e4165 g0 rfl
                          have k4170 : H4164 r0 3 = 1 := wq_u_s e4165
                          refine wp_of e16 c16_202 (rw_goto (p1 := 280) (by decide) ?_)
                          refine wp_of e16 c16_280 (rw_aload_n (pc' := 281) (v := .ref r0) rfl rfl rfl ?_)
                          refine wp_of e16 c16_281 (rw_iload_n (pc' := 282) (z := v4036) rfl rfl ?_)
                          refine wp_of e16 c16_282 (xp_I (pc' := 285) lf_2_23 w4166 g0 sh_4 (by decide) (by decide) ty_4_2 rfl rfl (by omega) (by omega) ⟨by omega, by omega⟩ rfl (fun H4171 e4172 w4173 => ?_))
                          have f4174 := f4167.put' e4172 g0 rfl
                          have f4175 := f4168.put' e4172 g0 rfl
                          have f4176 := f4169.put' e4172 g0 rfl
                          have k4177 : H4171 r0 2 = v4036 := wq_u_s e4172
                          exact wp_return e16 c16_285 rfl ⟨rfl, w4173, f4174, rfl⟩
                    · refine wp_of e16 c16_121 (rw_iload_n (pc' := 122) (z := v3426 - (H3427 r0 4)) rfl rfl ?_)
                      refine wp_of e16 c16_122 (rw_if_ne (p1 := 174) (p2 := 125) (by decide) rfl ⟨by omega, by omega⟩ (fun c4178 => ?_) (fun c4178 => ?_))
                      · refine wp_of e16 c16_174 (rw_iload_n (pc' := 175) (z := v4036) rfl rfl ?_)
                        refine wp_of e16 c16_175 (rw_aload_n (pc' := 176) (v := .ref r0) rfl rfl rfl ?_)
                        have k4179 : H4037 r0 4 = H3427 r0 4 := ((f4039 r0 4 _ g0 rfl).trans (wq_u_j e3977 rfl))
                        refine wp_of e16 c16_176 (xg_I (pc' := 179) lf_2_29 w4038 g0 sh_4 (by decide) (by decide) ty_4_4 rfl rfl (fun b4180 b4181 => ?_))
                        refine wp_of e16 c16_179 (rw_isub (pc' := 180) rfl ?_)
                        refine wp_of e16 c16_180 (rw_iload_n (pc' := 181) (z := v3426 - (H3427 r0 4)) rfl rfl ?_)
                        refine wp_of e16 c16_181 (rw_isub (pc' := 182) rfl ?_)
                        refine wp_of e16 c16_182 (rw_istore_n (pc' := 183) (z := (v4036 - (H4037 r0 4)) - (v3426 - (H3427 r0 4))) (L' := [(3, vI ((v4036 - (H4037 r0 4)) - (v3426 - (H3427 r0 4)))), (1, vI v4036), (2, vI (v3426 - (H3427 r0 4))), (0, .ref r0)]) rfl rfl rfl ?_)
                        refine wp_of e16 c16_183 (rw_iload_n (pc' := 184) (z := v3426 - (H3427 r0 4)) rfl rfl ?_)
                        refine wp_of e16 c16_184 (rw_if_le (p1 := 205) (p2 := 187) (by decide) rfl ⟨by omega, by omega⟩ (fun c4182 => ?_) (fun c4182 => ?_))
                        · refine wp_of e16 c16_205 (rw_iload_n (pc' := 206) (z := (v4036 - (H4037 r0 4)) - (v3426 - (H3427 r0 4))) rfl rfl ?_)
                          refine wp_of e16 c16_206 (rw_if_le (p1 := 226) (p2 := 209) (by decide) rfl ⟨by omega, by omega⟩ (fun c4183 => ?_) (fun c4183 => ?_))
                          · refine wp_of e16 c16_226 (rw_iload_n (pc' := 227) (z := v4036) rfl rfl ?_)
                            refine wp_of e16 c16_227 (rw_aload_n (pc' := 228) (v := .ref r0) rfl rfl rfl ?_)
                            refine wp_of e16 c16_228 (xg_I (pc' := 231) lf_2_19 w4038 g0 sh_4 (by decide) (by decide) ty_4_1 rfl rfl (fun b4184 b4185 => ?_))
                            refine wp_of e16 c16_231 (rw_icmp_ge (p1 := 275) (p2 := 234) (by decide) rfl ⟨by omega, by omega⟩ ⟨by omega, by omega⟩ (fun c4186 => ?_) (fun c4186 => ?_))
                            · refine wp_of e16 c16_275 (rw_aload_n (pc' := 276) (v := .ref r0) rfl rfl rfl ?_)
                              refine wp_of e16 c16_276 (rw_iconst (pc' := 277) rfl ?_)
                              refine wp_of e16 c16_277 (xp_I (pc' := 280) lf_2_41 w4038 g0 sh_4 (by decide) (by decide) ty_4_3 rfl rfl (by omega) (by omega) ⟨by omega, by omega⟩ rfl (fun H4187 e4188 w4189 => ?_))
                              have f4190 := f4042.put' e4188 g0 rfl
                              have f4191 := f4043.put' e4188 g0 rfl
                              have f4192 := f4039.put' e4188 g0 rfl
                              have k4193 : H4187 r0 3 = 0 := wq_u_s e4188
                              refine wp_of e16 c16_280 (rw_aload_n (pc' := 281) (v := .ref r0) rfl rfl rfl ?_)
                              refine wp_of e16 c16_281 (rw_iload_n (pc' := 282) (z := v4036) rfl rfl ?_)
                              refine wp_of e16 c16_282 (xp_I (pc' := 285) lf_2_23 w4189 g0 sh_4 (by decide) (by decide) ty_4_2 rfl rfl (by omega) (by omega) ⟨by omega, by omega⟩ rfl (fun H4194 e4195 w4196 => ?_))
                              have f4197 := f4190.put' e4195 g0 rfl
                              have f4198 := f4191.put' e4195 g0 rfl
                              have f4199 := f4192.put' e4195 g0 rfl
                              have k4200 : H4194 r0 2 = v4036 := wq_u_s e4195
                              exact wp_return e16 c16_285 rfl ⟨rfl, w4196, f4197, rfl⟩
                            · refine wp_of e16 c16_234 (rw_aload_n (pc' := 235) (v := .ref r0) rfl rfl rfl ?_)
                              refine wp_of e16 c16_235 (rw_aload_n (pc' := 236) (v := .ref r0) rfl rfl rfl ?_)
                              have k4201 : H4037 r0 0 = H3427 r0 0 := ((f4039 r0 0 _ g0 rfl).trans (wq_u_j e3977 rfl))
                              have q4202 : H4037 r0 0 = (rb : Int) := k4201.trans q3969
                              refine wp_of e16 c16_236 (xg_K (pc' := 239) lf_2_7 w4038 g0 sh_4 (by decide) (by decide) rfl q4202 rfl ?_)
                              refine wp_of e16 c16_239 (rw_iload_n (pc' := 240) (z := v4036) rfl rfl ?_)
                              refine wp_of e16 c16_240 (xa_B (by decide) (pc' := 241) w4038 grb sh_2 (by decide) (ty_2 _) (by omega) (by omega) rfl (fun b4203 b4204 => ?_))
                              refine wp_of e16 c16_241 (rw_bipush (pc' := 243) (z := 59) rfl (by decide) ?_)
                              refine wp_of e16 c16_243 (rw_icmp_ne (p1 := 250) (p2 := 246) (by decide) rfl ⟨by omega, by omega⟩ ⟨by omega, by omega⟩ (fun c4205 => ?_) (fun c4205 => ?_))
                              · refine wp_of e16 c16_250 (rw_aload_n (pc' := 251) (v := .ref r0) rfl rfl rfl ?_)
                                refine wp_of e16 c16_251 (xg_K (pc' := 254) lf_2_7 w4038 g0 sh_4 (by decide) (by decide) rfl q4202 rfl ?_)
                                refine wp_of e16 c16_254 (rw_iload_n (pc' := 255) (z := v4036) rfl rfl ?_)
                                refine wp_of e16 c16_255 (xa_B (by decide) (pc' := 256) w4038 grb sh_2 (by decide) (ty_2 _) (by omega) (by omega) rfl (fun b4206 b4207 => ?_))
                                refine wp_of e16 c16_256 (rw_bipush (pc' := 258) (z := 44) rfl (by decide) ?_)
                                refine wp_of e16 c16_258 (rw_icmp_ne (p1 := 265) (p2 := 261) (by decide) rfl ⟨by omega, by omega⟩ ⟨by omega, by omega⟩ (fun c4208 => ?_) (fun c4208 => ?_))
                                · refine wp_of e16 c16_265 (rw_iconst (pc' := 266) rfl ?_)
                                  refine wp_of e16 c16_266 (xp_I (pc' := 269) lf_2_41 w4038 g0 sh_4 (by decide) (by decide) ty_4_3 rfl rfl (by omega) (by omega) ⟨by omega, by omega⟩ rfl (fun H4209 e4210 w4211 => ?_))
                                  have f4212 := f4042.put' e4210 g0 rfl
                                  have f4213 := f4043.put' e4210 g0 rfl
                                  have f4214 := f4039.put' e4210 g0 rfl
                                  have k4215 : H4209 r0 3 = 5 := wq_u_s e4210
                                  refine wp_of e16 c16_269 (rw_iinc (pc' := 272) (z := v4036) (L' := [(1, vI (v4036 + 1)), (3, vI ((v4036 - (H4037 r0 4)) - (v3426 - (H3427 r0 4)))), (2, vI (v3426 - (H3427 r0 4))), (0, .ref r0)]) rfl rfl rfl rfl ?_)
                                  refine wp_of e16 c16_272 (rw_goto (p1 := 280) (by decide) ?_)
                                  refine wp_of e16 c16_280 (rw_aload_n (pc' := 281) (v := .ref r0) rfl rfl rfl ?_)
                                  refine wp_of e16 c16_281 (rw_iload_n (pc' := 282) (z := v4036 + 1) rfl rfl ?_)
                                  refine wp_of e16 c16_282 (xp_I (pc' := 285) lf_2_23 w4211 g0 sh_4 (by decide) (by decide) ty_4_2 rfl rfl (by omega) (by omega) ⟨by omega, by omega⟩ rfl (fun H4216 e4217 w4218 => ?_))
                                  have f4219 := f4212.put' e4217 g0 rfl
                                  have f4220 := f4213.put' e4217 g0 rfl
                                  have f4221 := f4214.put' e4217 g0 rfl
                                  have k4222 : H4216 r0 2 = v4036 + 1 := wq_u_s e4217
                                  exact wp_return e16 c16_285 rfl ⟨rfl, w4218, f4219, rfl⟩
                                · refine wp_of e16 c16_261 (rw_iconst (pc' := 262) rfl ?_)
                                  refine wp_of e16 c16_262 (rw_goto (p1 := 266) (by decide) ?_)
                                  refine wp_of e16 c16_266 (xp_I (pc' := 269) lf_2_41 w4038 g0 sh_4 (by decide) (by decide) ty_4_3 rfl rfl (by omega) (by omega) ⟨by omega, by omega⟩ rfl (fun H4223 e4224 w4225 => ?_))
                                  have f4226 := f4042.put' e4224 g0 rfl
                                  have f4227 := f4043.put' e4224 g0 rfl
                                  have f4228 := f4039.put' e4224 g0 rfl
                                  have k4229 : H4223 r0 3 = 4 := wq_u_s e4224
                                  refine wp_of e16 c16_269 (rw_iinc (pc' := 272) (z := v4036) (L' := [(1, vI (v4036 + 1)), (3, vI ((v4036 - (H4037 r0 4)) - (v3426 - (H3427 r0 4)))), (2, vI (v3426 - (H3427 r0 4))), (0, .ref r0)]) rfl rfl rfl rfl ?_)
                                  refine wp_of e16 c16_272 (rw_goto (p1 := 280) (by decide) ?_)
                                  refine wp_of e16 c16_280 (rw_aload_n (pc' := 281) (v := .ref r0) rfl rfl rfl ?_)
                                  refine wp_of e16 c16_281 (rw_iload_n (pc' := 282) (z := v4036 + 1) rfl rfl ?_)
                                  refine wp_of e16 c16_282 (xp_I (pc' := 285) lf_2_23 w4225 g0 sh_4 (by decide) (by decide) ty_4_2 rfl rfl (by omega) (by omega) ⟨by omega, by omega⟩ rfl (fun H4230 e4231 w4232 => ?_))
                                  have f4233 := f4226.put' e4231 g0 rfl
                                  have f4234 := f4227.put' e4231 g0 rfl
                                  have f4235 := f4228.put' e4231 g0 rfl
                                  have k4236 : H4230 r0 2 = v4036 + 1 := wq_u_s e4231
                                  exact wp_return e16 c16_285 rfl ⟨rfl, w4232, f4233, rfl⟩
                              · refine wp_of e16 c16_246 (rw_iconst (pc' := 247) rfl ?_)
                                refine wp_of e16 c16_247 (rw_goto (p1 := 266) (by decide) ?_)
                                refine wp_of e16 c16_266 (xp_I (pc' := 269) lf_2_41 w4038 g0 sh_4 (by decide) (by decide) ty_4_3 rfl rfl (by omega) (by omega) ⟨by omega, by omega⟩ rfl (fun H4237 e4238 w4239 => ?_))
                                have f4240 := f4042.put' e4238 g0 rfl
                                have f4241 := f4043.put' e4238 g0 rfl
                                have f4242 := f4039.put' e4238 g0 rfl
                                have k4243 : H4237 r0 3 = 3 := wq_u_s e4238
                                refine wp_of e16 c16_269 (rw_iinc (pc' := 272) (z := v4036) (L' := [(1, vI (v4036 + 1)), (3, vI ((v4036 - (H4037 r0 4)) - (v3426 - (H3427 r0 4)))), (2, vI (v3426 - (H3427 r0 4))), (0, .ref r0)]) rfl rfl rfl rfl ?_)
                                refine wp_of e16 c16_272 (rw_goto (p1 := 280) (by decide) ?_)
                                refine wp_of e16 c16_280 (rw_aload_n (pc' := 281) (v := .ref r0) rfl rfl rfl ?_)
                                refine wp_of e16 c16_281 (rw_iload_n (pc' := 282) (z := v4036 + 1) rfl rfl ?_)
                                refine wp_of e16 c16_282 (xp_I (pc' := 285) lf_2_23 w4239 g0 sh_4 (by decide) (by decide) ty_4_2 rfl rfl (by omega) (by omega) ⟨by omega, by omega⟩ rfl (fun H4244 e4245 w4246 => ?_))
                                have f4247 := f4240.put' e4245 g0 rfl
                                have f4248 := f4241.put' e4245 g0 rfl
                                have f4249 := f4242.put' e4245 g0 rfl
                                have k4250 : H4244 r0 2 = v4036 + 1 := wq_u_s e4245
                                exact wp_return e16 c16_285 rfl ⟨rfl, w4246, f4247, rfl⟩
                          · refine wp_of e16 c16_209 (rw_aload_n (pc' := 210) (v := .ref r0) rfl rfl rfl ?_)
                            refine wp_of e16 c16_210 (rw_iload_n (pc' := 211) (z := (v4036 - (H4037 r0 4)) - (v3426 - (H3427 r0 4))) rfl rfl ?_)
                            refine wp_of e16 c16_211 (rw_iconst (pc' := 212) rfl ?_)
                            refine wp_of e16 c16_212 (rw_icmp_gt (p1 := 219) (p2 := 215) (by decide) rfl ⟨by omega, by omega⟩ ⟨by omega, by omega⟩ (fun c4251 => ?_) (fun c4251 => ?_))
                            · refine wp_of e16 c16_219 (rw_iconst (pc' := 220) rfl ?_)
                              refine wp_of e16 c16_220 (xp_I (pc' := 223) lf_2_41 w4038 g0 sh_4 (by decide) (by decide) ty_4_3 rfl rfl (by omega) (by omega) ⟨by omega, by omega⟩ rfl (fun H4252 e4253 w4254 => ?_))
                              have f4255 := f4042.put' e4253 g0 rfl
                              have f4256 := f4043.put' e4253 g0 rfl
                              have f4257 := f4039.put' e4253 g0 rfl
                              have k4258 : H4252 r0 3 = 5 := wq_u_s e4253
                              refine wp_of e16 c16_223 (rw_goto (p1 := 280) (by decide) ?_)
                              refine wp_of e16 c16_280 (rw_aload_n (pc' := 281) (v := .ref r0) rfl rfl rfl ?_)
                              refine wp_of e16 c16_281 (rw_iload_n (pc' := 282) (z := v4036) rfl rfl ?_)
                              refine wp_of e16 c16_282 (xp_I (pc' := 285) lf_2_23 w4254 g0 sh_4 (by decide) (by decide) ty_4_2 rfl rfl (by omega) (by omega) ⟨by omega, by omega⟩ rfl (fun H4259 e4260 w4261 => ?_))
                              have f4262 := f4255.put' e4260 g0 rfl
                              have f4263 := f4256.put' e4260 g0 rfl
                              have f4264 := f4257.put' e4260 g0 rfl
                              have k4265 : H4259 r0 2 = v4036 := wq_u_s e4260
                              exact wp_return e16 c16_285 rfl ⟨rfl, w4261, f4262, rfl⟩
                            · refine wp_of e16 c16_215 (rw_iconst (pc' := 216) rfl ?_)
                              refine wp_of e16 c16_216 (rw_goto (p1 := 220) (by decide) ?_)
                              refine wp_of e16 c16_220 (xp_I (pc' := 223) lf_2_41 w4038 g0 sh_4 (by decide) (by decide) ty_4_3 rfl rfl (by omega) (by omega) ⟨by omega, by omega⟩ rfl (fun H4266 e4267 w4268 => ?_))
                              have f4269 := f4042.put' e4267 g0 rfl
                              have f4270 := f4043.put' e4267 g0 rfl
                              have f4271 := f4039.put' e4267 g0 rfl
                              have k4272 : H4266 r0 3 = 2 := wq_u_s e4267
                              refine wp_of e16 c16_223 (rw_goto (p1 := 280) (by decide) ?_)
                              refine wp_of e16 c16_280 (rw_aload_n (pc' := 281) (v := .ref r0) rfl rfl rfl ?_)
                              refine wp_of e16 c16_281 (rw_iload_n (pc' := 282) (z := v4036) rfl rfl ?_)
                              refine wp_of e16 c16_282 (xp_I (pc' := 285) lf_2_23 w4268 g0 sh_4 (by decide) (by decide) ty_4_2 rfl rfl (by omega) (by omega) ⟨by omega, by omega⟩ rfl (fun H4273 e4274 w4275 => ?_))
                              have f4276 := f4269.put' e4274 g0 rfl
                              have f4277 := f4270.put' e4274 g0 rfl
                              have f4278 := f4271.put' e4274 g0 rfl
                              have k4279 : H4273 r0 2 = v4036 := wq_u_s e4274
                              exact wp_return e16 c16_285 rfl ⟨rfl, w4275, f4276, rfl⟩
                        · refine wp_of e16 c16_187 (rw_aload_n (pc' := 188) (v := .ref r0) rfl rfl rfl ?_)
                          refine wp_of e16 c16_188 (rw_iload_n (pc' := 189) (z := v3426 - (H3427 r0 4)) rfl rfl ?_)
                          refine wp_of e16 c16_189 (rw_bipush (pc' := 191) (z := 8) rfl (by decide) ?_)
                          refine wp_of e16 c16_191 (rw_icmp_gt (p1 := 198) (p2 := 194) (by decide) rfl ⟨by omega, by omega⟩ ⟨by omega, by omega⟩ (fun c4280 => ?_) (fun c4280 => ?_))
                          · refine wp_of e16 c16_198 (rw_iconst (pc' := 199) rfl ?_)
                            refine wp_of e16 c16_199 (xp_I (pc' := 202) lf_2_41 w4038 g0 sh_4 (by decide) (by decide) ty_4_3 rfl rfl (by omega) (by omega) ⟨by omega, by omega⟩ rfl (fun H4281 e4282 w4283 => ?_))
                            have f4284 := f4042.put' e4282 g0 rfl
                            have f4285 := f4043.put' e4282 g0 rfl
                            have f4286 := f4039.put' e4282 g0 rfl
                            have k4287 : H4281 r0 3 = 5 := wq_u_s e4282
                            refine wp_of e16 c16_202 (rw_goto (p1 := 280) (by decide) ?_)
                            refine wp_of e16 c16_280 (rw_aload_n (pc' := 281) (v := .ref r0) rfl rfl rfl ?_)
                            refine wp_of e16 c16_281 (rw_iload_n (pc' := 282) (z := v4036) rfl rfl ?_)
                            refine wp_of e16 c16_282 (xp_I (pc' := 285) lf_2_23 w4283 g0 sh_4 (by decide) (by decide) ty_4_2 rfl rfl (by omega) (by omega) ⟨by omega, by omega⟩ rfl (fun H4288 e4289 w4290 => ?_))
                            have f4291 := f4284.put' e4289 g0 rfl
                            have f4292 := f4285.put' e4289 g0 rfl
                            have f4293 := f4286.put' e4289 g0 rfl
                            have k4294 : H4288 r0 2 = v4036 := wq_u_s e4289
                            exact wp_return e16 c16_285 rfl ⟨rfl, w4290, f4291, rfl⟩
                          · refine wp_of e16 c16_194 (rw_iconst (pc' := 195) rfl ?_)
                            refine wp_of e16 c16_195 (rw_goto (p1 := 199) (by decide) ?_)
                            refine wp_of e16 c16_199 (xp_I (pc' := 202) lf_2_41 w4038 g0 sh_4 (by decide) (by decide) ty_4_3 rfl rfl (by omega) (by omega) ⟨by omega, by omega⟩ rfl (fun H4295 e4296 w4297 => ?_))
                            have f4298 := f4042.put' e4296 g0 rfl
                            have f4299 := f4043.put' e4296 g0 rfl
                            have f4300 := f4039.put' e4296 g0 rfl
                            have k4301 : H4295 r0 3 = 1 := wq_u_s e4296
                            refine wp_of e16 c16_202 (rw_goto (p1 := 280) (by decide) ?_)
                            refine wp_of e16 c16_280 (rw_aload_n (pc' := 281) (v := .ref r0) rfl rfl rfl ?_)
                            refine wp_of e16 c16_281 (rw_iload_n (pc' := 282) (z := v4036) rfl rfl ?_)
                            refine wp_of e16 c16_282 (xp_I (pc' := 285) lf_2_23 w4297 g0 sh_4 (by decide) (by decide) ty_4_2 rfl rfl (by omega) (by omega) ⟨by omega, by omega⟩ rfl (fun H4302 e4303 w4304 => ?_))
                            have f4305 := f4298.put' e4303 g0 rfl
                            have f4306 := f4299.put' e4303 g0 rfl
                            have f4307 := f4300.put' e4303 g0 rfl
                            have k4308 : H4302 r0 2 = v4036 := wq_u_s e4303
                            exact wp_return e16 c16_285 rfl ⟨rfl, w4304, f4305, rfl⟩
                      · refine wp_of e16 c16_125 (rw_aload_n (pc' := 126) (v := .ref r0) rfl rfl rfl ?_)
                        have k4309 : H4037 r0 0 = H3427 r0 0 := ((f4039 r0 0 _ g0 rfl).trans (wq_u_j e3977 rfl))
                        have q4310 : H4037 r0 0 = (rb : Int) := k4309.trans q3969
                        refine wp_of e16 c16_126 (xg_K (pc' := 129) lf_2_7 w4038 g0 sh_4 (by decide) (by decide) rfl q4310 rfl ?_)
                        refine wp_of e16 c16_129 (rw_iload_n (pc' := 130) (z := v4036) rfl rfl ?_)
                        refine wp_of e16 c16_130 (xa_B (by decide) (pc' := 131) w4038 grb sh_2 (by decide) (ty_2 _) (by omega) (by omega) rfl (fun b4311 b4312 => ?_))
                        refine wp_of e16 c16_131 (rw_bipush (pc' := 133) (z := 48) rfl (by decide) ?_)
                        refine wp_of e16 c16_133 (rw_icmp_lt (p1 := 174) (p2 := 136) (by decide) rfl ⟨by omega, by omega⟩ ⟨by omega, by omega⟩ (fun c4313 => ?_) (fun c4313 => ?_))
                        · refine wp_of e16 c16_174 (rw_iload_n (pc' := 175) (z := v4036) rfl rfl ?_)
                          refine wp_of e16 c16_175 (rw_aload_n (pc' := 176) (v := .ref r0) rfl rfl rfl ?_)
                          have k4314 : H4037 r0 4 = H3427 r0 4 := ((f4039 r0 4 _ g0 rfl).trans (wq_u_j e3977 rfl))
                          refine wp_of e16 c16_176 (xg_I (pc' := 179) lf_2_29 w4038 g0 sh_4 (by decide) (by decide) ty_4_4 rfl rfl (fun b4315 b4316 => ?_))
                          refine wp_of e16 c16_179 (rw_isub (pc' := 180) rfl ?_)
                          refine wp_of e16 c16_180 (rw_iload_n (pc' := 181) (z := v3426 - (H3427 r0 4)) rfl rfl ?_)
                          refine wp_of e16 c16_181 (rw_isub (pc' := 182) rfl ?_)
                          refine wp_of e16 c16_182 (rw_istore_n (pc' := 183) (z := (v4036 - (H4037 r0 4)) - (v3426 - (H3427 r0 4))) (L' := [(3, vI ((v4036 - (H4037 r0 4)) - (v3426 - (H3427 r0 4)))), (1, vI v4036), (2, vI (v3426 - (H3427 r0 4))), (0, .ref r0)]) rfl rfl rfl ?_)
                          refine wp_of e16 c16_183 (rw_iload_n (pc' := 184) (z := v3426 - (H3427 r0 4)) rfl rfl ?_)
                          refine wp_of e16 c16_184 (rw_if_le (p1 := 205) (p2 := 187) (by decide) rfl ⟨by omega, by omega⟩ (fun c4317 => ?_) (fun c4317 => ?_))
                          · refine wp_of e16 c16_205 (rw_iload_n (pc' := 206) (z := (v4036 - (H4037 r0 4)) - (v3426 - (H3427 r0 4))) rfl rfl ?_)
                            refine wp_of e16 c16_206 (rw_if_le (p1 := 226) (p2 := 209) (by decide) rfl ⟨by omega, by omega⟩ (fun c4318 => ?_) (fun c4318 => ?_))
                            · refine wp_of e16 c16_226 (rw_iload_n (pc' := 227) (z := v4036) rfl rfl ?_)
                              refine wp_of e16 c16_227 (rw_aload_n (pc' := 228) (v := .ref r0) rfl rfl rfl ?_)
                              refine wp_of e16 c16_228 (xg_I (pc' := 231) lf_2_19 w4038 g0 sh_4 (by decide) (by decide) ty_4_1 rfl rfl (fun b4319 b4320 => ?_))
                              refine wp_of e16 c16_231 (rw_icmp_ge (p1 := 275) (p2 := 234) (by decide) rfl ⟨by omega, by omega⟩ ⟨by omega, by omega⟩ (fun c4321 => ?_) (fun c4321 => ?_))
                              · refine wp_of e16 c16_275 (rw_aload_n (pc' := 276) (v := .ref r0) rfl rfl rfl ?_)
                                refine wp_of e16 c16_276 (rw_iconst (pc' := 277) rfl ?_)
                                refine wp_of e16 c16_277 (xp_I (pc' := 280) lf_2_41 w4038 g0 sh_4 (by decide) (by decide) ty_4_3 rfl rfl (by omega) (by omega) ⟨by omega, by omega⟩ rfl (fun H4322 e4323 w4324 => ?_))
                                have f4325 := f4042.put' e4323 g0 rfl
                                have f4326 := f4043.put' e4323 g0 rfl
                                have f4327 := f4039.put' e4323 g0 rfl
                                have k4328 : H4322 r0 3 = 0 := wq_u_s e4323
                                refine wp_of e16 c16_280 (rw_aload_n (pc' := 281) (v := .ref r0) rfl rfl rfl ?_)
                                refine wp_of e16 c16_281 (rw_iload_n (pc' := 282) (z := v4036) rfl rfl ?_)
                                refine wp_of e16 c16_282 (xp_I (pc' := 285) lf_2_23 w4324 g0 sh_4 (by decide) (by decide) ty_4_2 rfl rfl (by omega) (by omega) ⟨by omega, by omega⟩ rfl (fun H4329 e4330 w4331 => ?_))
                                have f4332 := f4325.put' e4330 g0 rfl
                                have f4333 := f4326.put' e4330 g0 rfl
                                have f4334 := f4327.put' e4330 g0 rfl
                                have k4335 : H4329 r0 2 = v4036 := wq_u_s e4330
                                exact wp_return e16 c16_285 rfl ⟨rfl, w4331, f4332, rfl⟩
                              · refine wp_of e16 c16_234 (rw_aload_n (pc' := 235) (v := .ref r0) rfl rfl rfl ?_)
                                refine wp_of e16 c16_235 (rw_aload_n (pc' := 236) (v := .ref r0) rfl rfl rfl ?_)
                                refine wp_of e16 c16_236 (xg_K (pc' := 239) lf_2_7 w4038 g0 sh_4 (by decide) (by decide) rfl q4310 rfl ?_)
                                refine wp_of e16 c16_239 (rw_iload_n (pc' := 240) (z := v4036) rfl rfl ?_)
                                refine wp_of e16 c16_240 (xa_B (by decide) (pc' := 241) w4038 grb sh_2 (by decide) (ty_2 _) (by omega) (by omega) rfl (fun b4336 b4337 => ?_))
                                refine wp_of e16 c16_241 (rw_bipush (pc' := 243) (z := 59) rfl (by decide) ?_)
                                refine wp_of e16 c16_243 (rw_icmp_ne (p1 := 250) (p2 := 246) (by decide) rfl ⟨by omega, by omega⟩ ⟨by omega, by omega⟩ (fun c4338 => ?_) (fun c4338 => ?_))
                                · refine wp_of e16 c16_250 (rw_aload_n (pc' := 251) (v := .ref r0) rfl rfl rfl ?_)
                                  refine wp_of e16 c16_251 (xg_K (pc' := 254) lf_2_7 w4038 g0 sh_4 (by decide) (by decide) rfl q4310 rfl ?_)
                                  refine wp_of e16 c16_254 (rw_iload_n (pc' := 255) (z := v4036) rfl rfl ?_)
                                  refine wp_of e16 c16_255 (xa_B (by decide) (pc' := 256) w4038 grb sh_2 (by decide) (ty_2 _) (by omega) (by omega) rfl (fun b4339 b4340 => ?_))
                                  refine wp_of e16 c16_256 (rw_bipush (pc' := 258) (z := 44) rfl (by decide) ?_)
                                  refine wp_of e16 c16_258 (rw_icmp_ne (p1 := 265) (p2 := 261) (by decide) rfl ⟨by omega, by omega⟩ ⟨by omega, by omega⟩ (fun c4341 => ?_) (fun c4341 => ?_))
                                  · refine wp_of e16 c16_265 (rw_iconst (pc' := 266) rfl ?_)
                                    refine wp_of e16 c16_266 (xp_I (pc' := 269) lf_2_41 w4038 g0 sh_4 (by decide) (by decide) ty_4_3 rfl rfl (by omega) (by omega) ⟨by omega, by omega⟩ rfl (fun H4342 e4343 w4344 => ?_))
                                    have f4345 := f4042.put' e4343 g0 rfl
                                    have f4346 := f4043.put' e4343 g0 rfl
                                    have f4347 := f4039.put' e4343 g0 rfl
                                    have k4348 : H4342 r0 3 = 5 := wq_u_s e4343
                                    refine wp_of e16 c16_269 (rw_iinc (pc' := 272) (z := v4036) (L' := [(1, vI (v4036 + 1)), (3, vI ((v4036 - (H4037 r0 4)) - (v3426 - (H3427 r0 4)))), (2, vI (v3426 - (H3427 r0 4))), (0, .ref r0)]) rfl rfl rfl rfl ?_)
                                    refine wp_of e16 c16_272 (rw_goto (p1 := 280) (by decide) ?_)
                                    refine wp_of e16 c16_280 (rw_aload_n (pc' := 281) (v := .ref r0) rfl rfl rfl ?_)
                                    refine wp_of e16 c16_281 (rw_iload_n (pc' := 282) (z := v4036 + 1) rfl rfl ?_)
                                    refine wp_of e16 c16_282 (xp_I (pc' := 285) lf_2_23 w4344 g0 sh_4 (by decide) (by decide) ty_4_2 rfl rfl (by omega) (by omega) ⟨by omega, by omega⟩ rfl (fun H4349 e4350 w4351 => ?_))
                                    have f4352 := f4345.put' e4350 g0 rfl
                                    have f4353 := f4346.put' e4350 g0 rfl
                                    have f4354 := f4347.put' e4350 g0 rfl
                                    have k4355 : H4349 r0 2 = v4036 + 1 := wq_u_s e4350
                                    exact wp_return e16 c16_285 rfl ⟨rfl, w4351, f4352, rfl⟩
                                  · refine wp_of e16 c16_261 (rw_iconst (pc' := 262) rfl ?_)
                                    refine wp_of e16 c16_262 (rw_goto (p1 := 266) (by decide) ?_)
                                    refine wp_of e16 c16_266 (xp_I (pc' := 269) lf_2_41 w4038 g0 sh_4 (by decide) (by decide) ty_4_3 rfl rfl (by omega) (by omega) ⟨by omega, by omega⟩ rfl (fun H4356 e4357 w4358 => ?_))
                                    have f4359 := f4042.put' e4357 g0 rfl
                                    have f4360 := f4043.put' e4357 g0 rfl
                                    have f4361 := f4039.put' e4357 g0 rfl
                                    have k4362 : H4356 r0 3 = 4 := wq_u_s e4357
                                    refine wp_of e16 c16_269 (rw_iinc (pc' := 272) (z := v4036) (L' := [(1, vI (v4036 + 1)), (3, vI ((v4036 - (H4037 r0 4)) - (v3426 - (H3427 r0 4)))), (2, vI (v3426 - (H3427 r0 4))), (0, .ref r0)]) rfl rfl rfl rfl ?_)
                                    refine wp_of e16 c16_272 (rw_goto (p1 := 280) (by decide) ?_)
                                    refine wp_of e16 c16_280 (rw_aload_n (pc' := 281) (v := .ref r0) rfl rfl rfl ?_)
                                    refine wp_of e16 c16_281 (rw_iload_n (pc' := 282) (z := v4036 + 1) rfl rfl ?_)
                                    refine wp_of e16 c16_282 (xp_I (pc' := 285) lf_2_23 w4358 g0 sh_4 (by decide) (by decide) ty_4_2 rfl rfl (by omega) (by omega) ⟨by omega, by omega⟩ rfl (fun H4363 e4364 w4365 => ?_))
                                    have f4366 := f4359.put' e4364 g0 rfl
                                    have f4367 := f4360.put' e4364 g0 rfl
                                    have f4368 := f4361.put' e4364 g0 rfl
                                    have k4369 : H4363 r0 2 = v4036 + 1 := wq_u_s e4364
                                    exact wp_return e16 c16_285 rfl ⟨rfl, w4365, f4366, rfl⟩
                                · exfalso
                                  omega
                            · refine wp_of e16 c16_209 (rw_aload_n (pc' := 210) (v := .ref r0) rfl rfl rfl ?_)
                              refine wp_of e16 c16_210 (rw_iload_n (pc' := 211) (z := (v4036 - (H4037 r0 4)) - (v3426 - (H3427 r0 4))) rfl rfl ?_)
                              refine wp_of e16 c16_211 (rw_iconst (pc' := 212) rfl ?_)
                              refine wp_of e16 c16_212 (rw_icmp_gt (p1 := 219) (p2 := 215) (by decide) rfl ⟨by omega, by omega⟩ ⟨by omega, by omega⟩ (fun c4370 => ?_) (fun c4370 => ?_))
                              · refine wp_of e16 c16_219 (rw_iconst (pc' := 220) rfl ?_)
                                refine wp_of e16 c16_220 (xp_I (pc' := 223) lf_2_41 w4038 g0 sh_4 (by decide) (by decide) ty_4_3 rfl rfl (by omega) (by omega) ⟨by omega, by omega⟩ rfl (fun H4371 e4372 w4373 => ?_))
                                have f4374 := f4042.put' e4372 g0 rfl
                                have f4375 := f4043.put' e4372 g0 rfl
                                have f4376 := f4039.put' e4372 g0 rfl
                                have k4377 : H4371 r0 3 = 5 := wq_u_s e4372
                                refine wp_of e16 c16_223 (rw_goto (p1 := 280) (by decide) ?_)
                                refine wp_of e16 c16_280 (rw_aload_n (pc' := 281) (v := .ref r0) rfl rfl rfl ?_)
                                refine wp_of e16 c16_281 (rw_iload_n (pc' := 282) (z := v4036) rfl rfl ?_)
                                refine wp_of e16 c16_282 (xp_I (pc' := 285) lf_2_23 w4373 g0 sh_4 (by decide) (by decide) ty_4_2 rfl rfl (by omega) (by omega) ⟨by omega, by omega⟩ rfl (fun H4378 e4379 w4380 => ?_))
                                have f4381 := f4374.put' e4379 g0 rfl
                                have f4382 := f4375.put' e4379 g0 rfl
                                have f4383 := f4376.put' e4379 g0 rfl
                                have k4384 : H4378 r0 2 = v4036 := wq_u_s e4379
                                exact wp_return e16 c16_285 rfl ⟨rfl, w4380, f4381, rfl⟩
                              · refine wp_of e16 c16_215 (rw_iconst (pc' := 216) rfl ?_)
                                refine wp_of e16 c16_216 (rw_goto (p1 := 220) (by decide) ?_)
                                refine wp_of e16 c16_220 (xp_I (pc' := 223) lf_2_41 w4038 g0 sh_4 (by decide) (by decide) ty_4_3 rfl rfl (by omega) (by omega) ⟨by omega, by omega⟩ rfl (fun H4385 e4386 w4387 => ?_))
                                have f4388 := f4042.put' e4386 g0 rfl
                                have f4389 := f4043.put' e4386 g0 rfl
                                have f4390 := f4039.put' e4386 g0 rfl
                                have k4391 : H4385 r0 3 = 2 := wq_u_s e4386
                                refine wp_of e16 c16_223 (rw_goto (p1 := 280) (by decide) ?_)
                                refine wp_of e16 c16_280 (rw_aload_n (pc' := 281) (v := .ref r0) rfl rfl rfl ?_)
                                refine wp_of e16 c16_281 (rw_iload_n (pc' := 282) (z := v4036) rfl rfl ?_)
                                refine wp_of e16 c16_282 (xp_I (pc' := 285) lf_2_23 w4387 g0 sh_4 (by decide) (by decide) ty_4_2 rfl rfl (by omega) (by omega) ⟨by omega, by omega⟩ rfl (fun H4392 e4393 w4394 => ?_))
                                have f4395 := f4388.put' e4393 g0 rfl
                                have f4396 := f4389.put' e4393 g0 rfl
                                have f4397 := f4390.put' e4393 g0 rfl
                                have k4398 : H4392 r0 2 = v4036 := wq_u_s e4393
                                exact wp_return e16 c16_285 rfl ⟨rfl, w4394, f4395, rfl⟩
                          · exfalso
                            omega
                        · refine wp_of e16 c16_136 (rw_aload_n (pc' := 137) (v := .ref r0) rfl rfl rfl ?_)
                          refine wp_of e16 c16_137 (xg_K (pc' := 140) lf_2_7 w4038 g0 sh_4 (by decide) (by decide) rfl q4310 rfl ?_)
                          refine wp_of e16 c16_140 (rw_iload_n (pc' := 141) (z := v4036) rfl rfl ?_)
                          refine wp_of e16 c16_141 (xa_B (by decide) (pc' := 142) w4038 grb sh_2 (by decide) (ty_2 _) (by omega) (by omega) rfl (fun b4399 b4400 => ?_))
                          refine wp_of e16 c16_142 (rw_bipush (pc' := 144) (z := 57) rfl (by decide) ?_)
                          refine wp_of e16 c16_144 (rw_icmp_gt (p1 := 174) (p2 := 147) (by decide) rfl ⟨by omega, by omega⟩ ⟨by omega, by omega⟩ (fun c4401 => ?_) (fun c4401 => ?_))
                          · refine wp_of e16 c16_174 (rw_iload_n (pc' := 175) (z := v4036) rfl rfl ?_)
                            refine wp_of e16 c16_175 (rw_aload_n (pc' := 176) (v := .ref r0) rfl rfl rfl ?_)
                            have k4402 : H4037 r0 4 = H3427 r0 4 := ((f4039 r0 4 _ g0 rfl).trans (wq_u_j e3977 rfl))
                            refine wp_of e16 c16_176 (xg_I (pc' := 179) lf_2_29 w4038 g0 sh_4 (by decide) (by decide) ty_4_4 rfl rfl (fun b4403 b4404 => ?_))
                            refine wp_of e16 c16_179 (rw_isub (pc' := 180) rfl ?_)
                            refine wp_of e16 c16_180 (rw_iload_n (pc' := 181) (z := v3426 - (H3427 r0 4)) rfl rfl ?_)
                            refine wp_of e16 c16_181 (rw_isub (pc' := 182) rfl ?_)
                            refine wp_of e16 c16_182 (rw_istore_n (pc' := 183) (z := (v4036 - (H4037 r0 4)) - (v3426 - (H3427 r0 4))) (L' := [(3, vI ((v4036 - (H4037 r0 4)) - (v3426 - (H3427 r0 4)))), (1, vI v4036), (2, vI (v3426 - (H3427 r0 4))), (0, .ref r0)]) rfl rfl rfl ?_)
                            refine wp_of e16 c16_183 (rw_iload_n (pc' := 184) (z := v3426 - (H3427 r0 4)) rfl rfl ?_)
                            refine wp_of e16 c16_184 (rw_if_le (p1 := 205) (p2 := 187) (by decide) rfl ⟨by omega, by omega⟩ (fun c4405 => ?_) (fun c4405 => ?_))
                            · refine wp_of e16 c16_205 (rw_iload_n (pc' := 206) (z := (v4036 - (H4037 r0 4)) - (v3426 - (H3427 r0 4))) rfl rfl ?_)
                              refine wp_of e16 c16_206 (rw_if_le (p1 := 226) (p2 := 209) (by decide) rfl ⟨by omega, by omega⟩ (fun c4406 => ?_) (fun c4406 => ?_))
                              · refine wp_of e16 c16_226 (rw_iload_n (pc' := 227) (z := v4036) rfl rfl ?_)
                                refine wp_of e16 c16_227 (rw_aload_n (pc' := 228) (v := .ref r0) rfl rfl rfl ?_)
                                refine wp_of e16 c16_228 (xg_I (pc' := 231) lf_2_19 w4038 g0 sh_4 (by decide) (by decide) ty_4_1 rfl rfl (fun b4407 b4408 => ?_))
                                refine wp_of e16 c16_231 (rw_icmp_ge (p1 := 275) (p2 := 234) (by decide) rfl ⟨by omega, by omega⟩ ⟨by omega, by omega⟩ (fun c4409 => ?_) (fun c4409 => ?_))
                                · refine wp_of e16 c16_275 (rw_aload_n (pc' := 276) (v := .ref r0) rfl rfl rfl ?_)
                                  refine wp_of e16 c16_276 (rw_iconst (pc' := 277) rfl ?_)
                                  refine wp_of e16 c16_277 (xp_I (pc' := 280) lf_2_41 w4038 g0 sh_4 (by decide) (by decide) ty_4_3 rfl rfl (by omega) (by omega) ⟨by omega, by omega⟩ rfl (fun H4410 e4411 w4412 => ?_))
                                  have f4413 := f4042.put' e4411 g0 rfl
                                  have f4414 := f4043.put' e4411 g0 rfl
                                  have f4415 := f4039.put' e4411 g0 rfl
                                  have k4416 : H4410 r0 3 = 0 := wq_u_s e4411
                                  refine wp_of e16 c16_280 (rw_aload_n (pc' := 281) (v := .ref r0) rfl rfl rfl ?_)
                                  refine wp_of e16 c16_281 (rw_iload_n (pc' := 282) (z := v4036) rfl rfl ?_)
                                  refine wp_of e16 c16_282 (xp_I (pc' := 285) lf_2_23 w4412 g0 sh_4 (by decide) (by decide) ty_4_2 rfl rfl (by omega) (by omega) ⟨by omega, by omega⟩ rfl (fun H4417 e4418 w4419 => ?_))
                                  have f4420 := f4413.put' e4418 g0 rfl
                                  have f4421 := f4414.put' e4418 g0 rfl
                                  have f4422 := f4415.put' e4418 g0 rfl
                                  have k4423 : H4417 r0 2 = v4036 := wq_u_s e4418
                                  exact wp_return e16 c16_285 rfl ⟨rfl, w4419, f4420, rfl⟩
                                · refine wp_of e16 c16_234 (rw_aload_n (pc' := 235) (v := .ref r0) rfl rfl rfl ?_)
                                  refine wp_of e16 c16_235 (rw_aload_n (pc' := 236) (v := .ref r0) rfl rfl rfl ?_)
                                  refine wp_of e16 c16_236 (xg_K (pc' := 239) lf_2_7 w4038 g0 sh_4 (by decide) (by decide) rfl q4310 rfl ?_)
                                  refine wp_of e16 c16_239 (rw_iload_n (pc' := 240) (z := v4036) rfl rfl ?_)
                                  refine wp_of e16 c16_240 (xa_B (by decide) (pc' := 241) w4038 grb sh_2 (by decide) (ty_2 _) (by omega) (by omega) rfl (fun b4424 b4425 => ?_))
                                  refine wp_of e16 c16_241 (rw_bipush (pc' := 243) (z := 59) rfl (by decide) ?_)
                                  refine wp_of e16 c16_243 (rw_icmp_ne (p1 := 250) (p2 := 246) (by decide) rfl ⟨by omega, by omega⟩ ⟨by omega, by omega⟩ (fun c4426 => ?_) (fun c4426 => ?_))
                                  · refine wp_of e16 c16_250 (rw_aload_n (pc' := 251) (v := .ref r0) rfl rfl rfl ?_)
                                    refine wp_of e16 c16_251 (xg_K (pc' := 254) lf_2_7 w4038 g0 sh_4 (by decide) (by decide) rfl q4310 rfl ?_)
                                    refine wp_of e16 c16_254 (rw_iload_n (pc' := 255) (z := v4036) rfl rfl ?_)
                                    refine wp_of e16 c16_255 (xa_B (by decide) (pc' := 256) w4038 grb sh_2 (by decide) (ty_2 _) (by omega) (by omega) rfl (fun b4427 b4428 => ?_))
                                    refine wp_of e16 c16_256 (rw_bipush (pc' := 258) (z := 44) rfl (by decide) ?_)
                                    refine wp_of e16 c16_258 (rw_icmp_ne (p1 := 265) (p2 := 261) (by decide) rfl ⟨by omega, by omega⟩ ⟨by omega, by omega⟩ (fun c4429 => ?_) (fun c4429 => ?_))
                                    · refine wp_of e16 c16_265 (rw_iconst (pc' := 266) rfl ?_)
                                      refine wp_of e16 c16_266 (xp_I (pc' := 269) lf_2_41 w4038 g0 sh_4 (by decide) (by decide) ty_4_3 rfl rfl (by omega) (by omega) ⟨by omega, by omega⟩ rfl (fun H4430 e4431 w4432 => ?_))
                                      have f4433 := f4042.put' e4431 g0 rfl
                                      have f4434 := f4043.put' e4431 g0 rfl
                                      have f4435 := f4039.put' e4431 g0 rfl
                                      have k4436 : H4430 r0 3 = 5 := wq_u_s e4431
                                      refine wp_of e16 c16_269 (rw_iinc (pc' := 272) (z := v4036) (L' := [(1, vI (v4036 + 1)), (3, vI ((v4036 - (H4037 r0 4)) - (v3426 - (H3427 r0 4)))), (2, vI (v3426 - (H3427 r0 4))), (0, .ref r0)]) rfl rfl rfl rfl ?_)
                                      refine wp_of e16 c16_272 (rw_goto (p1 := 280) (by decide) ?_)
                                      refine wp_of e16 c16_280 (rw_aload_n (pc' := 281) (v := .ref r0) rfl rfl rfl ?_)
                                      refine wp_of e16 c16_281 (rw_iload_n (pc' := 282) (z := v4036 + 1) rfl rfl ?_)
                                      refine wp_of e16 c16_282 (xp_I (pc' := 285) lf_2_23 w4432 g0 sh_4 (by decide) (by decide) ty_4_2 rfl rfl (by omega) (by omega) ⟨by omega, by omega⟩ rfl (fun H4437 e4438 w4439 => ?_))
                                      have f4440 := f4433.put' e4438 g0 rfl
                                      have f4441 := f4434.put' e4438 g0 rfl
                                      have f4442 := f4435.put' e4438 g0 rfl
                                      have k4443 : H4437 r0 2 = v4036 + 1 := wq_u_s e4438
                                      exact wp_return e16 c16_285 rfl ⟨rfl, w4439, f4440, rfl⟩
                                    · exfalso
                                      omega
                                  · refine wp_of e16 c16_246 (rw_iconst (pc' := 247) rfl ?_)
                                    refine wp_of e16 c16_247 (rw_goto (p1 := 266) (by decide) ?_)
                                    refine wp_of e16 c16_266 (xp_I (pc' := 269) lf_2_41 w4038 g0 sh_4 (by decide) (by decide) ty_4_3 rfl rfl (by omega) (by omega) ⟨by omega, by omega⟩ rfl (fun H4444 e4445 w4446 => ?_))
                                    have f4447 := f4042.put' e4445 g0 rfl
                                    have f4448 := f4043.put' e4445 g0 rfl
                                    have f4449 := f4039.put' e4445 g0 rfl
                                    have k4450 : H4444 r0 3 = 3 := wq_u_s e4445
                                    refine wp_of e16 c16_269 (rw_iinc (pc' := 272) (z := v4036) (L' := [(1, vI (v4036 + 1)), (3, vI ((v4036 - (H4037 r0 4)) - (v3426 - (H3427 r0 4)))), (2, vI (v3426 - (H3427 r0 4))), (0, .ref r0)]) rfl rfl rfl rfl ?_)
                                    refine wp_of e16 c16_272 (rw_goto (p1 := 280) (by decide) ?_)
                                    refine wp_of e16 c16_280 (rw_aload_n (pc' := 281) (v := .ref r0) rfl rfl rfl ?_)
                                    refine wp_of e16 c16_281 (rw_iload_n (pc' := 282) (z := v4036 + 1) rfl rfl ?_)
                                    refine wp_of e16 c16_282 (xp_I (pc' := 285) lf_2_23 w4446 g0 sh_4 (by decide) (by decide) ty_4_2 rfl rfl (by omega) (by omega) ⟨by omega, by omega⟩ rfl (fun H4451 e4452 w4453 => ?_))
                                    have f4454 := f4447.put' e4452 g0 rfl
                                    have f4455 := f4448.put' e4452 g0 rfl
                                    have f4456 := f4449.put' e4452 g0 rfl
                                    have k4457 : H4451 r0 2 = v4036 + 1 := wq_u_s e4452
                                    exact wp_return e16 c16_285 rfl ⟨rfl, w4453, f4454, rfl⟩
                              · refine wp_of e16 c16_209 (rw_aload_n (pc' := 210) (v := .ref r0) rfl rfl rfl ?_)
                                refine wp_of e16 c16_210 (rw_iload_n (pc' := 211) (z := (v4036 - (H4037 r0 4)) - (v3426 - (H3427 r0 4))) rfl rfl ?_)
                                refine wp_of e16 c16_211 (rw_iconst (pc' := 212) rfl ?_)
                                refine wp_of e16 c16_212 (rw_icmp_gt (p1 := 219) (p2 := 215) (by decide) rfl ⟨by omega, by omega⟩ ⟨by omega, by omega⟩ (fun c4458 => ?_) (fun c4458 => ?_))
                                · refine wp_of e16 c16_219 (rw_iconst (pc' := 220) rfl ?_)
                                  refine wp_of e16 c16_220 (xp_I (pc' := 223) lf_2_41 w4038 g0 sh_4 (by decide) (by decide) ty_4_3 rfl rfl (by omega) (by omega) ⟨by omega, by omega⟩ rfl (fun H4459 e4460 w4461 => ?_))
                                  have f4462 := f4042.put' e4460 g0 rfl
                                  have f4463 := f4043.put' e4460 g0 rfl
                                  have f4464 := f4039.put' e4460 g0 rfl
                                  have k4465 : H4459 r0 3 = 5 := wq_u_s e4460
                                  refine wp_of e16 c16_223 (rw_goto (p1 := 280) (by decide) ?_)
                                  refine wp_of e16 c16_280 (rw_aload_n (pc' := 281) (v := .ref r0) rfl rfl rfl ?_)
                                  refine wp_of e16 c16_281 (rw_iload_n (pc' := 282) (z := v4036) rfl rfl ?_)
                                  refine wp_of e16 c16_282 (xp_I (pc' := 285) lf_2_23 w4461 g0 sh_4 (by decide) (by decide) ty_4_2 rfl rfl (by omega) (by omega) ⟨by omega, by omega⟩ rfl (fun H4466 e4467 w4468 => ?_))
                                  have f4469 := f4462.put' e4467 g0 rfl
                                  have f4470 := f4463.put' e4467 g0 rfl
                                  have f4471 := f4464.put' e4467 g0 rfl
                                  have k4472 : H4466 r0 2 = v4036 := wq_u_s e4467
                                  exact wp_return e16 c16_285 rfl ⟨rfl, w4468, f4469, rfl⟩
                                · refine wp_of e16 c16_215 (rw_iconst (pc' := 216) rfl ?_)
                                  refine wp_of e16 c16_216 (rw_goto (p1 := 220) (by decide) ?_)
                                  refine wp_of e16 c16_220 (xp_I (pc' := 223) lf_2_41 w4038 g0 sh_4 (by decide) (by decide) ty_4_3 rfl rfl (by omega) (by omega) ⟨by omega, by omega⟩ rfl (fun H4473 e4474 w4475 => ?_))
                                  have f4476 := f4042.put' e4474 g0 rfl
                                  have f4477 := f4043.put' e4474 g0 rfl
                                  have f4478 := f4039.put' e4474 g0 rfl
                                  have k4479 : H4473 r0 3 = 2 := wq_u_s e4474
                                  refine wp_of e16 c16_223 (rw_goto (p1 := 280) (by decide) ?_)
                                  refine wp_of e16 c16_280 (rw_aload_n (pc' := 281) (v := .ref r0) rfl rfl rfl ?_)
                                  refine wp_of e16 c16_281 (rw_iload_n (pc' := 282) (z := v4036) rfl rfl ?_)
                                  refine wp_of e16 c16_282 (xp_I (pc' := 285) lf_2_23 w4475 g0 sh_4 (by decide) (by decide) ty_4_2 rfl rfl (by omega) (by omega) ⟨by omega, by omega⟩ rfl (fun H4480 e4481 w4482 => ?_))
                                  have f4483 := f4476.put' e4481 g0 rfl
                                  have f4484 := f4477.put' e4481 g0 rfl
                                  have f4485 := f4478.put' e4481 g0 rfl
                                  have k4486 : H4480 r0 2 = v4036 := wq_u_s e4481
                                  exact wp_return e16 c16_285 rfl ⟨rfl, w4482, f4483, rfl⟩
                            · exfalso
                              omega
                          · refine wp_of e16 c16_147 (rw_aload_n (pc' := 148) (v := .ref r0) rfl rfl rfl ?_)
                            refine wp_of e16 c16_148 (rw_aload_n (pc' := 149) (v := .ref r0) rfl rfl rfl ?_)
                            refine wp_of e16 c16_149 (xg_I (pc' := 152) lf_2_38 w4038 g0 sh_4 (by decide) (by decide) ty_4_5 rfl rfl (fun b4487 b4488 => ?_))
                            refine wp_of e16 c16_152 (rw_bipush (pc' := 154) (z := 10) rfl (by decide) ?_)
                            refine wp_of e16 c16_154 (rw_imulw (pc' := 155) rfl ?_)
                            obtain ⟨v4489, e4490⟩ : ∃ x : Int, x = wq_w ((H4037 r0 5) * 10) := ⟨_, rfl⟩
                            rw [← e4490]
                            have b4491 : -2147483648 ≤ v4489 ∧ v4489 ≤ 2147483647 := by
                              rw [e4490]
                              exact wI_w _
                            refine wp_of e16 c16_155 (rw_aload_n (pc' := 156) (v := .ref r0) rfl rfl rfl ?_)
                            refine wp_of e16 c16_156 (xg_K (pc' := 159) lf_2_7 w4038 g0 sh_4 (by decide) (by decide) rfl q4310 rfl ?_)
                            refine wp_of e16 c16_159 (rw_iload_n (pc' := 160) (z := v4036) rfl rfl ?_)
                            refine wp_of e16 c16_160 (xa_B (by decide) (pc' := 161) w4038 grb sh_2 (by decide) (ty_2 _) (by omega) (by omega) rfl (fun b4492 b4493 => ?_))
                            refine wp_of e16 c16_161 (rw_bipush (pc' := 163) (z := 48) rfl (by decide) ?_)
                            refine wp_of e16 c16_163 (rw_isub (pc' := 164) rfl ?_)
                            refine wp_of e16 c16_164 (rw_iaddw (pc' := 165) rfl ?_)
                            obtain ⟨v4494, e4495⟩ : ∃ x : Int, x = wq_w (v4489 + ((H4037 rb v4036.toNat) - 48)) := ⟨_, rfl⟩
                            rw [← e4495]
                            have b4496 : -2147483648 ≤ v4494 ∧ v4494 ≤ 2147483647 := by
                              rw [e4495]
                              exact wI_w _
                            refine wp_of e16 c16_165 (xp_I (pc' := 168) lf_2_38 w4038 g0 sh_4 (by decide) (by decide) ty_4_5 rfl rfl (by omega) (by omega) ⟨by omega, by omega⟩ rfl (fun H4497 e4498 w4499 => ?_))
                            have f4500 := f4042.put' e4498 g0 rfl
                            have f4501 := f4043.put' e4498 g0 rfl
                            have f4502 := f4039.put' e4498 g0 rfl
                            have k4503 : H4497 r0 5 = v4494 := wq_u_s e4498
                            refine wp_of e16 c16_168 (rw_iinc (pc' := 171) (z := v4036) (L' := [(1, vI (v4036 + 1)), (2, vI (v3426 - (H3427 r0 4))), (0, .ref r0)]) rfl rfl rfl rfl ?_)
                            refine wp_of e16 c16_171 (rw_goto (p1 := 113) (by decide) ?_)
                            exact wp_lc (ks := [1, 2, 0]) (wl_c rfl (wl_c rfl (wl_c rfl wl_n))) rfl (by decide) (ih4035 _ (by omega) (v4036 + 1) H4497 w4499 f4502 ⟨by omega, by omega⟩ rfl)
                exact wp_lc (ks := [2, 1, 0]) (wl_c rfl (wl_c rfl (wl_c rfl wl_n))) rfl (by decide) (lp4033 _ v3426 H3976 w3978 wfr.rf ⟨by omega, by omega⟩ rfl)
              · refine wp_of e16 c16_59 (rw_aload_n (pc' := 60) (v := .ref r0) rfl rfl rfl ?_)
                refine wp_of e16 c16_60 (xg_K (pc' := 63) lf_2_7 w3428 g0 sh_4 (by decide) (by decide) rfl q3969 rfl ?_)
                refine wp_of e16 c16_63 (rw_iload_n (pc' := 64) (z := v3426) rfl rfl ?_)
                refine wp_of e16 c16_64 (xa_B (by decide) (pc' := 65) w3428 grb sh_2 (by decide) (ty_2 _) (by omega) (by omega) rfl (fun b4504 b4505 => ?_))
                refine wp_of e16 c16_65 (rw_bipush (pc' := 67) (z := 122) rfl (by decide) ?_)
                refine wp_of e16 c16_67 (rw_icmp_gt (p1 := 101) (p2 := 70) (by decide) rfl ⟨by omega, by omega⟩ ⟨by omega, by omega⟩ (fun c4506 => ?_) (fun c4506 => ?_))
                · refine wp_of e16 c16_101 (rw_iload_n (pc' := 102) (z := v3426) rfl rfl ?_)
                  refine wp_of e16 c16_102 (rw_aload_n (pc' := 103) (v := .ref r0) rfl rfl rfl ?_)
                  have k4507 : H3427 r0 4 = H3366 r0 4 := ((f3429 r0 4 _ g0 rfl).trans (wq_u_j e3372 rfl))
                  refine wp_of e16 c16_103 (xg_I (pc' := 106) lf_2_29 w3428 g0 sh_4 (by decide) (by decide) ty_4_4 rfl rfl (fun b4508 b4509 => ?_))
                  refine wp_of e16 c16_106 (rw_isub (pc' := 107) rfl ?_)
                  refine wp_of e16 c16_107 (rw_istore_n (pc' := 108) (z := v3426 - (H3427 r0 4)) (L' := [(2, vI (v3426 - (H3427 r0 4))), (1, vI v3426), (0, .ref r0)]) rfl rfl rfl ?_)
                  refine wp_of e16 c16_108 (rw_aload_n (pc' := 109) (v := .ref r0) rfl rfl rfl ?_)
                  refine wp_of e16 c16_109 (rw_iconst (pc' := 110) rfl ?_)
                  refine wp_of e16 c16_110 (xp_I (pc' := 113) lf_2_38 w3428 g0 sh_4 (by decide) (by decide) ty_4_5 rfl rfl (by omega) (by omega) ⟨by omega, by omega⟩ rfl (fun H4510 e4511 w4512 => ?_))
                  have f4513 := f3432.put' e4511 g0 rfl
                  have f4514 := f3429.put' e4511 g0 rfl
                  have k4515 : H4510 r0 5 = 0 := wq_u_s e4511
                  have lp4567 : ∀ (n4568 : Nat) (v4570 : Int) (H4571 : wq_H), WT T H4571 → wfr [(4, 5)] T H4510 H4571 → (0 ≤ v4570 ∧ v4570 ≤ 900) → (900 - v4570).toNat = n4568 → wp kt 0 16 113 [(1, vI v4570), (2, vI (v3426 - (H3427 r0 4))), (0, .ref r0)] [] T H4571 (q_16 r0 rb T H) := by
                    intro n4568
                    induction n4568 using Nat.strongRecOn with
                    | _ n4568 ih4569 =>
                      intro v4570 H4571 w4572 f4573 b4574 m4575
                      have f4576 := f4513.tr f4573 rfl
                      have f4577 := f4514.tr f4573 rfl
                      refine wp_of e16 c16_113 (rw_iload_n (pc' := 114) (z := v4570) rfl rfl ?_)
                      refine wp_of e16 c16_114 (rw_aload_n (pc' := 115) (v := .ref r0) rfl rfl rfl ?_)
                      have k4578 : H4571 r0 1 = H3427 r0 1 := ((f4573 r0 1 _ g0 rfl).trans (wq_u_j e4511 rfl))
                      refine wp_of e16 c16_115 (xg_I (pc' := 118) lf_2_19 w4572 g0 sh_4 (by decide) (by decide) ty_4_1 rfl rfl (fun b4579 b4580 => ?_))
                      refine wp_of e16 c16_118 (rw_icmp_ge (p1 := 174) (p2 := 121) (by decide) rfl ⟨by omega, by omega⟩ ⟨by omega, by omega⟩ (fun c4581 => ?_) (fun c4581 => ?_))
                      · refine wp_of e16 c16_174 (rw_iload_n (pc' := 175) (z := v4570) rfl rfl ?_)
                        refine wp_of e16 c16_175 (rw_aload_n (pc' := 176) (v := .ref r0) rfl rfl rfl ?_)
                        have k4582 : H4571 r0 4 = H3427 r0 4 := ((f4573 r0 4 _ g0 rfl).trans (wq_u_j e4511 rfl))
                        refine wp_of e16 c16_176 (xg_I (pc' := 179) lf_2_29 w4572 g0 sh_4 (by decide) (by decide) ty_4_4 rfl rfl (fun b4583 b4584 => ?_))
                        refine wp_of e16 c16_179 (rw_isub (pc' := 180) rfl ?_)
                        refine wp_of e16 c16_180 (rw_iload_n (pc' := 181) (z := v3426 - (H3427 r0 4)) rfl rfl ?_)
                        refine wp_of e16 c16_181 (rw_isub (pc' := 182) rfl ?_)
                        refine wp_of e16 c16_182 (rw_istore_n (pc' := 183) (z := (v4570 - (H4571 r0 4)) - (v3426 - (H3427 r0 4))) (L' := [(3, vI ((v4570 - (H4571 r0 4)) - (v3426 - (H3427 r0 4)))), (1, vI v4570), (2, vI (v3426 - (H3427 r0 4))), (0, .ref r0)]) rfl rfl rfl ?_)
                        refine wp_of e16 c16_183 (rw_iload_n (pc' := 184) (z := v3426 - (H3427 r0 4)) rfl rfl ?_)
                        refine wp_of e16 c16_184 (rw_if_le (p1 := 205) (p2 := 187) (by decide) rfl ⟨by omega, by omega⟩ (fun c4585 => ?_) (fun c4585 => ?_))
                        · refine wp_of e16 c16_205 (rw_iload_n (pc' := 206) (z := (v4570 - (H4571 r0 4)) - (v3426 - (H3427 r0 4))) rfl rfl ?_)
                          refine wp_of e16 c16_206 (rw_if_le (p1 := 226) (p2 := 209) (by decide) rfl ⟨by omega, by omega⟩ (fun c4586 => ?_) (fun c4586 => ?_))
                          · refine wp_of e16 c16_226 (rw_iload_n (pc' := 227) (z := v4570) rfl rfl ?_)
                            refine wp_of e16 c16_227 (rw_aload_n (pc' := 228) (v := .ref r0) rfl rfl rfl ?_)
                            refine wp_of e16 c16_228 (xg_I (pc' := 231) lf_2_19 w4572 g0 sh_4 (by decide) (by decide) ty_4_1 rfl rfl (fun b4587 b4588 => ?_))
                            refine wp_of e16 c16_231 (rw_icmp_ge (p1 := 275) (p2 := 234) (by decide) rfl ⟨by omega, by omega⟩ ⟨by omega, by omega⟩ (fun c4589 => ?_) (fun c4589 => ?_))
                            · refine wp_of e16 c16_275 (rw_aload_n (pc' := 276) (v := .ref r0) rfl rfl rfl ?_)
                              refine wp_of e16 c16_276 (rw_iconst (pc' := 277) rfl ?_)
                              refine wp_of e16 c16_277 (xp_I (pc' := 280) lf_2_41 w4572 g0 sh_4 (by decide) (by decide) ty_4_3 rfl rfl (by omega) (by omega) ⟨by omega, by omega⟩ rfl (fun H4590 e4591 w4592 => ?_))
                              have f4593 := f4576.put' e4591 g0 rfl
                              have f4594 := f4577.put' e4591 g0 rfl
                              have f4595 := f4573.put' e4591 g0 rfl
                              have k4596 : H4590 r0 3 = 0 := wq_u_s e4591
                              refine wp_of e16 c16_280 (rw_aload_n (pc' := 281) (v := .ref r0) rfl rfl rfl ?_)
                              refine wp_of e16 c16_281 (rw_iload_n (pc' := 282) (z := v4570) rfl rfl ?_)
                              refine wp_of e16 c16_282 (xp_I (pc' := 285) lf_2_23 w4592 g0 sh_4 (by decide) (by decide) ty_4_2 rfl rfl (by omega) (by omega) ⟨by omega, by omega⟩ rfl (fun H4597 e4598 w4599 => ?_))
                              have f4600 := f4593.put' e4598 g0 rfl
                              have f4601 := f4594.put' e4598 g0 rfl
                              have f4602 := f4595.put' e4598 g0 rfl
                              have k4603 : H4597 r0 2 = v4570 := wq_u_s e4598
                              exact wp_return e16 c16_285 rfl ⟨rfl, w4599, f4600, rfl⟩
                            · refine wp_of e16 c16_234 (rw_aload_n (pc' := 235) (v := .ref r0) rfl rfl rfl ?_)
                              refine wp_of e16 c16_235 (rw_aload_n (pc' := 236) (v := .ref r0) rfl rfl rfl ?_)
                              have k4604 : H4571 r0 0 = H3427 r0 0 := ((f4573 r0 0 _ g0 rfl).trans (wq_u_j e4511 rfl))
                              have q4605 : H4571 r0 0 = (rb : Int) := k4604.trans q3969
                              refine wp_of e16 c16_236 (xg_K (pc' := 239) lf_2_7 w4572 g0 sh_4 (by decide) (by decide) rfl q4605 rfl ?_)
                              refine wp_of e16 c16_239 (rw_iload_n (pc' := 240) (z := v4570) rfl rfl ?_)
                              refine wp_of e16 c16_240 (xa_B (by decide) (pc' := 241) w4572 grb sh_2 (by decide) (ty_2 _) (by omega) (by omega) rfl (fun b4606 b4607 => ?_))
                              refine wp_of e16 c16_241 (rw_bipush (pc' := 243) (z := 59) rfl (by decide) ?_)
                              refine wp_of e16 c16_243 (rw_icmp_ne (p1 := 250) (p2 := 246) (by decide) rfl ⟨by omega, by omega⟩ ⟨by omega, by omega⟩ (fun c4608 => ?_) (fun c4608 => ?_))
                              · refine wp_of e16 c16_250 (rw_aload_n (pc' := 251) (v := .ref r0) rfl rfl rfl ?_)
                                refine wp_of e16 c16_251 (xg_K (pc' := 254) lf_2_7 w4572 g0 sh_4 (by decide) (by decide) rfl q4605 rfl ?_)
                                refine wp_of e16 c16_254 (rw_iload_n (pc' := 255) (z := v4570) rfl rfl ?_)
                                refine wp_of e16 c16_255 (xa_B (by decide) (pc' := 256) w4572 grb sh_2 (by decide) (ty_2 _) (by omega) (by omega) rfl (fun b4609 b4610 => ?_))
                                refine wp_of e16 c16_256 (rw_bipush (pc' := 258) (z := 44) rfl (by decide) ?_)
                                refine wp_of e16 c16_258 (rw_icmp_ne (p1 := 265) (p2 := 261) (by decide) rfl ⟨by omega, by omega⟩ ⟨by omega, by omega⟩ (fun c4611 => ?_) (fun c4611 => ?_))
                                · refine wp_of e16 c16_265 (rw_iconst (pc' := 266) rfl ?_)
                                  refine wp_of e16 c16_266 (xp_I (pc' := 269) lf_2_41 w4572 g0 sh_4 (by decide) (by decide) ty_4_3 rfl rfl (by omega) (by omega) ⟨by omega, by omega⟩ rfl (fun H4612 e4613 w4614 => ?_))
                                  have f4615 := f4576.put' e4613 g0 rfl
                                  have f4616 := f4577.put' e4613 g0 rfl
                                  have f4617 := f4573.put' e4613 g0 rfl
                                  have k4618 : H4612 r0 3 = 5 := wq_u_s e4613
                                  refine wp_of e16 c16_269 (rw_iinc (pc' := 272) (z := v4570) (L' := [(1, vI (v4570 + 1)), (3, vI ((v4570 - (H4571 r0 4)) - (v3426 - (H3427 r0 4)))), (2, vI (v3426 - (H3427 r0 4))), (0, .ref r0)]) rfl rfl rfl rfl ?_)
                                  refine wp_of e16 c16_272 (rw_goto (p1 := 280) (by decide) ?_)
                                  refine wp_of e16 c16_280 (rw_aload_n (pc' := 281) (v := .ref r0) rfl rfl rfl ?_)
                                  refine wp_of e16 c16_281 (rw_iload_n (pc' := 282) (z := v4570 + 1) rfl rfl ?_)
                                  refine wp_of e16 c16_282 (xp_I (pc' := 285) lf_2_23 w4614 g0 sh_4 (by decide) (by decide) ty_4_2 rfl rfl (by omega) (by omega) ⟨by omega, by omega⟩ rfl (fun H4619 e4620 w4621 => ?_))
                                  have f4622 := f4615.put' e4620 g0 rfl
                                  have f4623 := f4616.put' e4620 g0 rfl
                                  have f4624 := f4617.put' e4620 g0 rfl
                                  have k4625 : H4619 r0 2 = v4570 + 1 := wq_u_s e4620
                                  exact wp_return e16 c16_285 rfl ⟨rfl, w4621, f4622, rfl⟩
                                · refine wp_of e16 c16_261 (rw_iconst (pc' := 262) rfl ?_)
                                  refine wp_of e16 c16_262 (rw_goto (p1 := 266) (by decide) ?_)
                                  refine wp_of e16 c16_266 (xp_I (pc' := 269) lf_2_41 w4572 g0 sh_4 (by decide) (by decide) ty_4_3 rfl rfl (by omega) (by omega) ⟨by omega, by omega⟩ rfl (fun H4626 e4627 w4628 => ?_))
                                  have f4629 := f4576.put' e4627 g0 rfl
                                  have f4630 := f4577.put' e4627 g0 rfl
                                  have f4631 := f4573.put' e4627 g0 rfl
                                  have k4632 : H4626 r0 3 = 4 := wq_u_s e4627
                                  refine wp_of e16 c16_269 (rw_iinc (pc' := 272) (z := v4570) (L' := [(1, vI (v4570 + 1)), (3, vI ((v4570 - (H4571 r0 4)) - (v3426 - (H3427 r0 4)))), (2, vI (v3426 - (H3427 r0 4))), (0, .ref r0)]) rfl rfl rfl rfl ?_)
                                  refine wp_of e16 c16_272 (rw_goto (p1 := 280) (by decide) ?_)
                                  refine wp_of e16 c16_280 (rw_aload_n (pc' := 281) (v := .ref r0) rfl rfl rfl ?_)
                                  refine wp_of e16 c16_281 (rw_iload_n (pc' := 282) (z := v4570 + 1) rfl rfl ?_)
                                  refine wp_of e16 c16_282 (xp_I (pc' := 285) lf_2_23 w4628 g0 sh_4 (by decide) (by decide) ty_4_2 rfl rfl (by omega) (by omega) ⟨by omega, by omega⟩ rfl (fun H4633 e4634 w4635 => ?_))
                                  have f4636 := f4629.put' e4634 g0 rfl
                                  have f4637 := f4630.put' e4634 g0 rfl
                                  have f4638 := f4631.put' e4634 g0 rfl
                                  have k4639 : H4633 r0 2 = v4570 + 1 := wq_u_s e4634
                                  exact wp_return e16 c16_285 rfl ⟨rfl, w4635, f4636, rfl⟩
                              · refine wp_of e16 c16_246 (rw_iconst (pc' := 247) rfl ?_)
                                refine wp_of e16 c16_247 (rw_goto (p1 := 266) (by decide) ?_)
                                refine wp_of e16 c16_266 (xp_I (pc' := 269) lf_2_41 w4572 g0 sh_4 (by decide) (by decide) ty_4_3 rfl rfl (by omega) (by omega) ⟨by omega, by omega⟩ rfl (fun H4640 e4641 w4642 => ?_))
                                have f4643 := f4576.put' e4641 g0 rfl
                                have f4644 := f4577.put' e4641 g0 rfl
                                have f4645 := f4573.put' e4641 g0 rfl
                                have k4646 : H4640 r0 3 = 3 := wq_u_s e4641
                                refine wp_of e16 c16_269 (rw_iinc (pc' := 272) (z := v4570) (L' := [(1, vI (v4570 + 1)), (3, vI ((v4570 - (H4571 r0 4)) - (v3426 - (H3427 r0 4)))), (2, vI (v3426 - (H3427 r0 4))), (0, .ref r0)]) rfl rfl rfl rfl ?_)
                                refine wp_of e16 c16_272 (rw_goto (p1 := 280) (by decide) ?_)
                                refine wp_of e16 c16_280 (rw_aload_n (pc' := 281) (v := .ref r0) rfl rfl rfl ?_)
                                refine wp_of e16 c16_281 (rw_iload_n (pc' := 282) (z := v4570 + 1) rfl rfl ?_)
                                refine wp_of e16 c16_282 (xp_I (pc' := 285) lf_2_23 w4642 g0 sh_4 (by decide) (by decide) ty_4_2 rfl rfl (by omega) (by omega) ⟨by omega, by omega⟩ rfl (fun H4647 e4648 w4649 => ?_))
                                have f4650 := f4643.put' e4648 g0 rfl
                                have f4651 := f4644.put' e4648 g0 rfl
                                have f4652 := f4645.put' e4648 g0 rfl
                                have k4653 : H4647 r0 2 = v4570 + 1 := wq_u_s e4648
                                exact wp_return e16 c16_285 rfl ⟨rfl, w4649, f4650, rfl⟩
                          · refine wp_of e16 c16_209 (rw_aload_n (pc' := 210) (v := .ref r0) rfl rfl rfl ?_)
                            refine wp_of e16 c16_210 (rw_iload_n (pc' := 211) (z := (v4570 - (H4571 r0 4)) - (v3426 - (H3427 r0 4))) rfl rfl ?_)
                            refine wp_of e16 c16_211 (rw_iconst (pc' := 212) rfl ?_)
                            refine wp_of e16 c16_212 (rw_icmp_gt (p1 := 219) (p2 := 215) (by decide) rfl ⟨by omega, by omega⟩ ⟨by omega, by omega⟩ (fun c4654 => ?_) (fun c4654 => ?_))
                            · refine wp_of e16 c16_219 (rw_iconst (pc' := 220) rfl ?_)
                              refine wp_of e16 c16_220 (xp_I (pc' := 223) lf_2_41 w4572 g0 sh_4 (by decide) (by decide) ty_4_3 rfl rfl (by omega) (by omega) ⟨by omega, by omega⟩ rfl (fun H4655 e4656 w4657 => ?_))
                              have f4658 := f4576.put' e4656 g0 rfl
                              have f4659 := f4577.put' e4656 g0 rfl
                              have f4660 := f4573.put' e4656 g0 rfl
                              have k4661 : H4655 r0 3 = 5 := wq_u_s e4656
                              refine wp_of e16 c16_223 (rw_goto (p1 := 280) (by decide) ?_)
                              refine wp_of e16 c16_280 (rw_aload_n (pc' := 281) (v := .ref r0) rfl rfl rfl ?_)
                              refine wp_of e16 c16_281 (rw_iload_n (pc' := 282) (z := v4570) rfl rfl ?_)
                              refine wp_of e16 c16_282 (xp_I (pc' := 285) lf_2_23 w4657 g0 sh_4 (by decide) (by decide) ty_4_2 rfl rfl (by omega) (by omega) ⟨by omega, by omega⟩ rfl (fun H4662 e4663 w4664 => ?_))
                              have f4665 := f4658.put' e4663 g0 rfl
                              have f4666 := f4659.put' e4663 g0 rfl
                              have f4667 := f4660.put' e4663 g0 rfl
                              have k4668 : H4662 r0 2 = v4570 := wq_u_s e4663
                              exact wp_return e16 c16_285 rfl ⟨rfl, w4664, f4665, rfl⟩
                            · refine wp_of e16 c16_215 (rw_iconst (pc' := 216) rfl ?_)
                              refine wp_of e16 c16_216 (rw_goto (p1 := 220) (by decide) ?_)
                              refine wp_of e16 c16_220 (xp_I (pc' := 223) lf_2_41 w4572 g0 sh_4 (by decide) (by decide) ty_4_3 rfl rfl (by omega) (by omega) ⟨by omega, by omega⟩ rfl (fun H4669 e4670 w4671 => ?_))
                              have f4672 := f4576.put' e4670 g0 rfl
                              have f4673 := f4577.put' e4670 g0 rfl
                              have f4674 := f4573.put' e4670 g0 rfl
                              have k4675 : H4669 r0 3 = 2 := wq_u_s e4670
                              refine wp_of e16 c16_223 (rw_goto (p1 := 280) (by decide) ?_)
                              refine wp_of e16 c16_280 (rw_aload_n (pc' := 281) (v := .ref r0) rfl rfl rfl ?_)
                              refine wp_of e16 c16_281 (rw_iload_n (pc' := 282) (z := v4570) rfl rfl ?_)
                              refine wp_of e16 c16_282 (xp_I (pc' := 285) lf_2_23 w4671 g0 sh_4 (by decide) (by decide) ty_4_2 rfl rfl (by omega) (by omega) ⟨by omega, by omega⟩ rfl (fun H4676 e4677 w4678 => ?_))
                              have f4679 := f4672.put' e4677 g0 rfl
                              have f4680 := f4673.put' e4677 g0 rfl
                              have f4681 := f4674.put' e4677 g0 rfl
                              have k4682 : H4676 r0 2 = v4570 := wq_u_s e4677
                              exact wp_return e16 c16_285 rfl ⟨rfl, w4678, f4679, rfl⟩
                        · refine wp_of e16 c16_187 (rw_aload_n (pc' := 188) (v := .ref r0) rfl rfl rfl ?_)
                          refine wp_of e16 c16_188 (rw_iload_n (pc' := 189) (z := v3426 - (H3427 r0 4)) rfl rfl ?_)
                          refine wp_of e16 c16_189 (rw_bipush (pc' := 191) (z := 8) rfl (by decide) ?_)
                          refine wp_of e16 c16_191 (rw_icmp_gt (p1 := 198) (p2 := 194) (by decide) rfl ⟨by omega, by omega⟩ ⟨by omega, by omega⟩ (fun c4683 => ?_) (fun c4683 => ?_))
                          · refine wp_of e16 c16_198 (rw_iconst (pc' := 199) rfl ?_)
                            refine wp_of e16 c16_199 (xp_I (pc' := 202) lf_2_41 w4572 g0 sh_4 (by decide) (by decide) ty_4_3 rfl rfl (by omega) (by omega) ⟨by omega, by omega⟩ rfl (fun H4684 e4685 w4686 => ?_))
                            have f4687 := f4576.put' e4685 g0 rfl
                            have f4688 := f4577.put' e4685 g0 rfl
                            have f4689 := f4573.put' e4685 g0 rfl
                            have k4690 : H4684 r0 3 = 5 := wq_u_s e4685
                            refine wp_of e16 c16_202 (rw_goto (p1 := 280) (by decide) ?_)
                            refine wp_of e16 c16_280 (rw_aload_n (pc' := 281) (v := .ref r0) rfl rfl rfl ?_)
                            refine wp_of e16 c16_281 (rw_iload_n (pc' := 282) (z := v4570) rfl rfl ?_)
                            refine wp_of e16 c16_282 (xp_I (pc' := 285) lf_2_23 w4686 g0 sh_4 (by decide) (by decide) ty_4_2 rfl rfl (by omega) (by omega) ⟨by omega, by omega⟩ rfl (fun H4691 e4692 w4693 => ?_))
                            have f4694 := f4687.put' e4692 g0 rfl
                            have f4695 := f4688.put' e4692 g0 rfl
                            have f4696 := f4689.put' e4692 g0 rfl
                            have k4697 : H4691 r0 2 = v4570 := wq_u_s e4692
                            exact wp_return e16 c16_285 rfl ⟨rfl, w4693, f4694, rfl⟩
                          · refine wp_of e16 c16_194 (rw_iconst (pc' := 195) rfl ?_)
                            refine wp_of e16 c16_195 (rw_goto (p1 := 199) (by decide) ?_)
                            refine wp_of e16 c16_199 (xp_I (pc' := 202) lf_2_41 w4572 g0 sh_4 (by decide) (by decide) ty_4_3 rfl rfl (by omega) (by omega) ⟨by omega, by omega⟩ rfl (fun H4698 e4699 w4700 => ?_))
                            have f4701 := f4576.put' e4699 g0 rfl
                            have f4702 := f4577.put' e4699 g0 rfl
                            have f4703 := f4573.put' e4699 g0 rfl
                            have k4704 : H4698 r0 3 = 1 := wq_u_s e4699
                            refine wp_of e16 c16_202 (rw_goto (p1 := 280) (by decide) ?_)
                            refine wp_of e16 c16_280 (rw_aload_n (pc' := 281) (v := .ref r0) rfl rfl rfl ?_)
                            refine wp_of e16 c16_281 (rw_iload_n (pc' := 282) (z := v4570) rfl rfl ?_)
                            refine wp_of e16 c16_282 (xp_I (pc' := 285) lf_2_23 w4700 g0 sh_4 (by decide) (by decide) ty_4_2 rfl rfl (by omega) (by omega) ⟨by omega, by omega⟩ rfl (fun H4705 e4706 w4707 => ?_))
                            have f4708 := f4701.put' e4706 g0 rfl
                            have f4709 := f4702.put' e4706 g0 rfl
                            have f4710 := f4703.put' e4706 g0 rfl
                            have k4711 : H4705 r0 2 = v4570 := wq_u_s e4706
                            exact wp_return e16 c16_285 rfl ⟨rfl, w4707, f4708, rfl⟩
                      · refine wp_of e16 c16_121 (rw_iload_n (pc' := 122) (z := v3426 - (H3427 r0 4)) rfl rfl ?_)
                        refine wp_of e16 c16_122 (rw_if_ne (p1 := 174) (p2 := 125) (by decide) rfl ⟨by omega, by omega⟩ (fun c4712 => ?_) (fun c4712 => ?_))
                        · refine wp_of e16 c16_174 (rw_iload_n (pc' := 175) (z := v4570) rfl rfl ?_)
                          refine wp_of e16 c16_175 (rw_aload_n (pc' := 176) (v := .ref r0) rfl rfl rfl ?_)
                          have k4713 : H4571 r0 4 = H3427 r0 4 := ((f4573 r0 4 _ g0 rfl).trans (wq_u_j e4511 rfl))
                          refine wp_of e16 c16_176 (xg_I (pc' := 179) lf_2_29 w4572 g0 sh_4 (by decide) (by decide) ty_4_4 rfl rfl (fun b4714 b4715 => ?_))
                          refine wp_of e16 c16_179 (rw_isub (pc' := 180) rfl ?_)
                          refine wp_of e16 c16_180 (rw_iload_n (pc' := 181) (z := v3426 - (H3427 r0 4)) rfl rfl ?_)
                          refine wp_of e16 c16_181 (rw_isub (pc' := 182) rfl ?_)
                          refine wp_of e16 c16_182 (rw_istore_n (pc' := 183) (z := (v4570 - (H4571 r0 4)) - (v3426 - (H3427 r0 4))) (L' := [(3, vI ((v4570 - (H4571 r0 4)) - (v3426 - (H3427 r0 4)))), (1, vI v4570), (2, vI (v3426 - (H3427 r0 4))), (0, .ref r0)]) rfl rfl rfl ?_)
                          refine wp_of e16 c16_183 (rw_iload_n (pc' := 184) (z := v3426 - (H3427 r0 4)) rfl rfl ?_)
                          refine wp_of e16 c16_184 (rw_if_le (p1 := 205) (p2 := 187) (by decide) rfl ⟨by omega, by omega⟩ (fun c4716 => ?_) (fun c4716 => ?_))
                          · refine wp_of e16 c16_205 (rw_iload_n (pc' := 206) (z := (v4570 - (H4571 r0 4)) - (v3426 - (H3427 r0 4))) rfl rfl ?_)
                            refine wp_of e16 c16_206 (rw_if_le (p1 := 226) (p2 := 209) (by decide) rfl ⟨by omega, by omega⟩ (fun c4717 => ?_) (fun c4717 => ?_))
                            · refine wp_of e16 c16_226 (rw_iload_n (pc' := 227) (z := v4570) rfl rfl ?_)
                              refine wp_of e16 c16_227 (rw_aload_n (pc' := 228) (v := .ref r0) rfl rfl rfl ?_)
                              refine wp_of e16 c16_228 (xg_I (pc' := 231) lf_2_19 w4572 g0 sh_4 (by decide) (by decide) ty_4_1 rfl rfl (fun b4718 b4719 => ?_))
                              refine wp_of e16 c16_231 (rw_icmp_ge (p1 := 275) (p2 := 234) (by decide) rfl ⟨by omega, by omega⟩ ⟨by omega, by omega⟩ (fun c4720 => ?_) (fun c4720 => ?_))
                              · refine wp_of e16 c16_275 (rw_aload_n (pc' := 276) (v := .ref r0) rfl rfl rfl ?_)
                                refine wp_of e16 c16_276 (rw_iconst (pc' := 277) rfl ?_)
                                refine wp_of e16 c16_277 (xp_I (pc' := 280) lf_2_41 w4572 g0 sh_4 (by decide) (by decide) ty_4_3 rfl rfl (by omega) (by omega) ⟨by omega, by omega⟩ rfl (fun H4721 e4722 w4723 => ?_))
                                have f4724 := f4576.put' e4722 g0 rfl
                                have f4725 := f4577.put' e4722 g0 rfl
                                have f4726 := f4573.put' e4722 g0 rfl
                                have k4727 : H4721 r0 3 = 0 := wq_u_s e4722
                                refine wp_of e16 c16_280 (rw_aload_n (pc' := 281) (v := .ref r0) rfl rfl rfl ?_)
                                refine wp_of e16 c16_281 (rw_iload_n (pc' := 282) (z := v4570) rfl rfl ?_)
                                refine wp_of e16 c16_282 (xp_I (pc' := 285) lf_2_23 w4723 g0 sh_4 (by decide) (by decide) ty_4_2 rfl rfl (by omega) (by omega) ⟨by omega, by omega⟩ rfl (fun H4728 e4729 w4730 => ?_))
                                have f4731 := f4724.put' e4729 g0 rfl
                                have f4732 := f4725.put' e4729 g0 rfl
                                have f4733 := f4726.put' e4729 g0 rfl
                                have k4734 : H4728 r0 2 = v4570 := wq_u_s e4729
                                exact wp_return e16 c16_285 rfl ⟨rfl, w4730, f4731, rfl⟩
                              · refine wp_of e16 c16_234 (rw_aload_n (pc' := 235) (v := .ref r0) rfl rfl rfl ?_)
                                refine wp_of e16 c16_235 (rw_aload_n (pc' := 236) (v := .ref r0) rfl rfl rfl ?_)
                                have k4735 : H4571 r0 0 = H3427 r0 0 := ((f4573 r0 0 _ g0 rfl).trans (wq_u_j e4511 rfl))
                                have q4736 : H4571 r0 0 = (rb : Int) := k4735.trans q3969
                                refine wp_of e16 c16_236 (xg_K (pc' := 239) lf_2_7 w4572 g0 sh_4 (by decide) (by decide) rfl q4736 rfl ?_)
                                refine wp_of e16 c16_239 (rw_iload_n (pc' := 240) (z := v4570) rfl rfl ?_)
                                refine wp_of e16 c16_240 (xa_B (by decide) (pc' := 241) w4572 grb sh_2 (by decide) (ty_2 _) (by omega) (by omega) rfl (fun b4737 b4738 => ?_))
                                refine wp_of e16 c16_241 (rw_bipush (pc' := 243) (z := 59) rfl (by decide) ?_)
                                refine wp_of e16 c16_243 (rw_icmp_ne (p1 := 250) (p2 := 246) (by decide) rfl ⟨by omega, by omega⟩ ⟨by omega, by omega⟩ (fun c4739 => ?_) (fun c4739 => ?_))
                                · refine wp_of e16 c16_250 (rw_aload_n (pc' := 251) (v := .ref r0) rfl rfl rfl ?_)
                                  refine wp_of e16 c16_251 (xg_K (pc' := 254) lf_2_7 w4572 g0 sh_4 (by decide) (by decide) rfl q4736 rfl ?_)
                                  refine wp_of e16 c16_254 (rw_iload_n (pc' := 255) (z := v4570) rfl rfl ?_)
                                  refine wp_of e16 c16_255 (xa_B (by decide) (pc' := 256) w4572 grb sh_2 (by decide) (ty_2 _) (by omega) (by omega) rfl (fun b4740 b4741 => ?_))
                                  refine wp_of e16 c16_256 (rw_bipush (pc' := 258) (z := 44) rfl (by decide) ?_)
                                  refine wp_of e16 c16_258 (rw_icmp_ne (p1 := 265) (p2 := 261) (by decide) rfl ⟨by omega, by omega⟩ ⟨by omega, by omega⟩ (fun c4742 => ?_) (fun c4742 => ?_))
                                  · refine wp_of e16 c16_265 (rw_iconst (pc' := 266) rfl ?_)
                                    refine wp_of e16 c16_266 (xp_I (pc' := 269) lf_2_41 w4572 g0 sh_4 (by decide) (by decide) ty_4_3 rfl rfl (by omega) (by omega) ⟨by omega, by omega⟩ rfl (fun H4743 e4744 w4745 => ?_))
                                    have f4746 := f4576.put' e4744 g0 rfl
                                    have f4747 := f4577.put' e4744 g0 rfl
                                    have f4748 := f4573.put' e4744 g0 rfl
                                    have k4749 : H4743 r0 3 = 5 := wq_u_s e4744
                                    refine wp_of e16 c16_269 (rw_iinc (pc' := 272) (z := v4570) (L' := [(1, vI (v4570 + 1)), (3, vI ((v4570 - (H4571 r0 4)) - (v3426 - (H3427 r0 4)))), (2, vI (v3426 - (H3427 r0 4))), (0, .ref r0)]) rfl rfl rfl rfl ?_)
                                    refine wp_of e16 c16_272 (rw_goto (p1 := 280) (by decide) ?_)
                                    refine wp_of e16 c16_280 (rw_aload_n (pc' := 281) (v := .ref r0) rfl rfl rfl ?_)
                                    refine wp_of e16 c16_281 (rw_iload_n (pc' := 282) (z := v4570 + 1) rfl rfl ?_)
                                    refine wp_of e16 c16_282 (xp_I (pc' := 285) lf_2_23 w4745 g0 sh_4 (by decide) (by decide) ty_4_2 rfl rfl (by omega) (by omega) ⟨by omega, by omega⟩ rfl (fun H4750 e4751 w4752 => ?_))
                                    have f4753 := f4746.put' e4751 g0 rfl
                                    have f4754 := f4747.put' e4751 g0 rfl
                                    have f4755 := f4748.put' e4751 g0 rfl
                                    have k4756 : H4750 r0 2 = v4570 + 1 := wq_u_s e4751
                                    exact wp_return e16 c16_285 rfl ⟨rfl, w4752, f4753, rfl⟩
                                  · refine wp_of e16 c16_261 (rw_iconst (pc' := 262) rfl ?_)
                                    refine wp_of e16 c16_262 (rw_goto (p1 := 266) (by decide) ?_)
                                    refine wp_of e16 c16_266 (xp_I (pc' := 269) lf_2_41 w4572 g0 sh_4 (by decide) (by decide) ty_4_3 rfl rfl (by omega) (by omega) ⟨by omega, by omega⟩ rfl (fun H4757 e4758 w4759 => ?_))
                                    have f4760 := f4576.put' e4758 g0 rfl
                                    have f4761 := f4577.put' e4758 g0 rfl
                                    have f4762 := f4573.put' e4758 g0 rfl
                                    have k4763 : H4757 r0 3 = 4 := wq_u_s e4758
                                    refine wp_of e16 c16_269 (rw_iinc (pc' := 272) (z := v4570) (L' := [(1, vI (v4570 + 1)), (3, vI ((v4570 - (H4571 r0 4)) - (v3426 - (H3427 r0 4)))), (2, vI (v3426 - (H3427 r0 4))), (0, .ref r0)]) rfl rfl rfl rfl ?_)
                                    refine wp_of e16 c16_272 (rw_goto (p1 := 280) (by decide) ?_)
                                    refine wp_of e16 c16_280 (rw_aload_n (pc' := 281) (v := .ref r0) rfl rfl rfl ?_)
                                    refine wp_of e16 c16_281 (rw_iload_n (pc' := 282) (z := v4570 + 1) rfl rfl ?_)
                                    refine wp_of e16 c16_282 (xp_I (pc' := 285) lf_2_23 w4759 g0 sh_4 (by decide) (by decide) ty_4_2 rfl rfl (by omega) (by omega) ⟨by omega, by omega⟩ rfl (fun H4764 e4765 w4766 => ?_))
                                    have f4767 := f4760.put' e4765 g0 rfl
                                    have f4768 := f4761.put' e4765 g0 rfl
                                    have f4769 := f4762.put' e4765 g0 rfl
                                    have k4770 : H4764 r0 2 = v4570 + 1 := wq_u_s e4765
                                    exact wp_return e16 c16_285 rfl ⟨rfl, w4766, f4767, rfl⟩
                                · refine wp_of e16 c16_246 (rw_iconst (pc' := 247) rfl ?_)
                                  refine wp_of e16 c16_247 (rw_goto (p1 := 266) (by decide) ?_)
                                  refine wp_of e16 c16_266 (xp_I (pc' := 269) lf_2_41 w4572 g0 sh_4 (by decide) (by decide) ty_4_3 rfl rfl (by omega) (by omega) ⟨by omega, by omega⟩ rfl (fun H4771 e4772 w4773 => ?_))
                                  have f4774 := f4576.put' e4772 g0 rfl
                                  have f4775 := f4577.put' e4772 g0 rfl
                                  have f4776 := f4573.put' e4772 g0 rfl
                                  have k4777 : H4771 r0 3 = 3 := wq_u_s e4772
                                  refine wp_of e16 c16_269 (rw_iinc (pc' := 272) (z := v4570) (L' := [(1, vI (v4570 + 1)), (3, vI ((v4570 - (H4571 r0 4)) - (v3426 - (H3427 r0 4)))), (2, vI (v3426 - (H3427 r0 4))), (0, .ref r0)]) rfl rfl rfl rfl ?_)
                                  refine wp_of e16 c16_272 (rw_goto (p1 := 280) (by decide) ?_)
                                  refine wp_of e16 c16_280 (rw_aload_n (pc' := 281) (v := .ref r0) rfl rfl rfl ?_)
                                  refine wp_of e16 c16_281 (rw_iload_n (pc' := 282) (z := v4570 + 1) rfl rfl ?_)
                                  refine wp_of e16 c16_282 (xp_I (pc' := 285) lf_2_23 w4773 g0 sh_4 (by decide) (by decide) ty_4_2 rfl rfl (by omega) (by omega) ⟨by omega, by omega⟩ rfl (fun H4778 e4779 w4780 => ?_))
                                  have f4781 := f4774.put' e4779 g0 rfl
                                  have f4782 := f4775.put' e4779 g0 rfl
                                  have f4783 := f4776.put' e4779 g0 rfl
                                  have k4784 : H4778 r0 2 = v4570 + 1 := wq_u_s e4779
                                  exact wp_return e16 c16_285 rfl ⟨rfl, w4780, f4781, rfl⟩
                            · refine wp_of e16 c16_209 (rw_aload_n (pc' := 210) (v := .ref r0) rfl rfl rfl ?_)
                              refine wp_of e16 c16_210 (rw_iload_n (pc' := 211) (z := (v4570 - (H4571 r0 4)) - (v3426 - (H3427 r0 4))) rfl rfl ?_)
                              refine wp_of e16 c16_211 (rw_iconst (pc' := 212) rfl ?_)
                              refine wp_of e16 c16_212 (rw_icmp_gt (p1 := 219) (p2 := 215) (by decide) rfl ⟨by omega, by omega⟩ ⟨by omega, by omega⟩ (fun c4785 => ?_) (fun c4785 => ?_))
                              · refine wp_of e16 c16_219 (rw_iconst (pc' := 220) rfl ?_)
                                refine wp_of e16 c16_220 (xp_I (pc' := 223) lf_2_41 w4572 g0 sh_4 (by decide) (by decide) ty_4_3 rfl rfl (by omega) (by omega) ⟨by omega, by omega⟩ rfl (fun H4786 e4787 w4788 => ?_))
                                have f4789 := f4576.put' e4787 g0 rfl
                                have f4790 := f4577.put' e4787 g0 rfl
                                have f4791 := f4573.put' e4787 g0 rfl
                                have k4792 : H4786 r0 3 = 5 := wq_u_s e4787
                                refine wp_of e16 c16_223 (rw_goto (p1 := 280) (by decide) ?_)
                                refine wp_of e16 c16_280 (rw_aload_n (pc' := 281) (v := .ref r0) rfl rfl rfl ?_)
                                refine wp_of e16 c16_281 (rw_iload_n (pc' := 282) (z := v4570) rfl rfl ?_)
                                refine wp_of e16 c16_282 (xp_I (pc' := 285) lf_2_23 w4788 g0 sh_4 (by decide) (by decide) ty_4_2 rfl rfl (by omega) (by omega) ⟨by omega, by omega⟩ rfl (fun H4793 e4794 w4795 => ?_))
                                have f4796 := f4789.put' e4794 g0 rfl
                                have f4797 := f4790.put' e4794 g0 rfl
                                have f4798 := f4791.put' e4794 g0 rfl
                                have k4799 : H4793 r0 2 = v4570 := wq_u_s e4794
                                exact wp_return e16 c16_285 rfl ⟨rfl, w4795, f4796, rfl⟩
                              · refine wp_of e16 c16_215 (rw_iconst (pc' := 216) rfl ?_)
                                refine wp_of e16 c16_216 (rw_goto (p1 := 220) (by decide) ?_)
                                refine wp_of e16 c16_220 (xp_I (pc' := 223) lf_2_41 w4572 g0 sh_4 (by decide) (by decide) ty_4_3 rfl rfl (by omega) (by omega) ⟨by omega, by omega⟩ rfl (fun H4800 e4801 w4802 => ?_))
                                have f4803 := f4576.put' e4801 g0 rfl
                                have f4804 := f4577.put' e4801 g0 rfl
                                have f4805 := f4573.put' e4801 g0 rfl
                                have k4806 : H4800 r0 3 = 2 := wq_u_s e4801
                                refine wp_of e16 c16_223 (rw_goto (p1 := 280) (by decide) ?_)
                                refine wp_of e16 c16_280 (rw_aload_n (pc' := 281) (v := .ref r0) rfl rfl rfl ?_)
                                refine wp_of e16 c16_281 (rw_iload_n (pc' := 282) (z := v4570) rfl rfl ?_)
                                refine wp_of e16 c16_282 (xp_I (pc' := 285) lf_2_23 w4802 g0 sh_4 (by decide) (by decide) ty_4_2 rfl rfl (by omega) (by omega) ⟨by omega, by omega⟩ rfl (fun H4807 e4808 w4809 => ?_))
                                have f4810 := f4803.put' e4808 g0 rfl
                                have f4811 := f4804.put' e4808 g0 rfl
                                have f4812 := f4805.put' e4808 g0 rfl
                                have k4813 : H4807 r0 2 = v4570 := wq_u_s e4808
                                exact wp_return e16 c16_285 rfl ⟨rfl, w4809, f4810, rfl⟩
                          · refine wp_of e16 c16_187 (rw_aload_n (pc' := 188) (v := .ref r0) rfl rfl rfl ?_)
                            refine wp_of e16 c16_188 (rw_iload_n (pc' := 189) (z := v3426 - (H3427 r0 4)) rfl rfl ?_)
                            refine wp_of e16 c16_189 (rw_bipush (pc' := 191) (z := 8) rfl (by decide) ?_)
                            refine wp_of e16 c16_191 (rw_icmp_gt (p1 := 198) (p2 := 194) (by decide) rfl ⟨by omega, by omega⟩ ⟨by omega, by omega⟩ (fun c4814 => ?_) (fun c4814 => ?_))
                            · refine wp_of e16 c16_198 (rw_iconst (pc' := 199) rfl ?_)
                              refine wp_of e16 c16_199 (xp_I (pc' := 202) lf_2_41 w4572 g0 sh_4 (by decide) (by decide) ty_4_3 rfl rfl (by omega) (by omega) ⟨by omega, by omega⟩ rfl (fun H4815 e4816 w4817 => ?_))
                              have f4818 := f4576.put' e4816 g0 rfl
                              have f4819 := f4577.put' e4816 g0 rfl
                              have f4820 := f4573.put' e4816 g0 rfl
                              have k4821 : H4815 r0 3 = 5 := wq_u_s e4816
                              refine wp_of e16 c16_202 (rw_goto (p1 := 280) (by decide) ?_)
                              refine wp_of e16 c16_280 (rw_aload_n (pc' := 281) (v := .ref r0) rfl rfl rfl ?_)
                              refine wp_of e16 c16_281 (rw_iload_n (pc' := 282) (z := v4570) rfl rfl ?_)
                              refine wp_of e16 c16_282 (xp_I (pc' := 285) lf_2_23 w4817 g0 sh_4 (by decide) (by decide) ty_4_2 rfl rfl (by omega) (by omega) ⟨by omega, by omega⟩ rfl (fun H4822 e4823 w4824 => ?_))
                              have f4825 := f4818.put' e4823 g0 rfl
                              have f4826 := f4819.put' e4823 g0 rfl
                              have f4827 := f4820.put' e4823 g0 rfl
                              have k4828 : H4822 r0 2 = v4570 := wq_u_s e4823
                              exact wp_return e16 c16_285 rfl ⟨rfl, w4824, f4825, rfl⟩
                            · refine wp_of e16 c16_194 (rw_iconst (pc' := 195) rfl ?_)
                              refine wp_of e16 c16_195 (rw_goto (p1 := 199) (by decide) ?_)
                              refine wp_of e16 c16_199 (xp_I (pc' := 202) lf_2_41 w4572 g0 sh_4 (by decide) (by decide) ty_4_3 rfl rfl (by omega) (by omega) ⟨by omega, by omega⟩ rfl (fun H4829 e4830 w4831 => ?_))
                              have f4832 := f4576.put' e4830 g0 rfl
                              have f4833 := f4577.put' e4830 g0 rfl
                              have f4834 := f4573.put' e4830 g0 rfl
                              have k4835 : H4829 r0 3 = 1 := wq_u_s e4830
                              refine wp_of e16 c16_202 (rw_goto (p1 := 280) (by decide) ?_)
                              refine wp_of e16 c16_280 (rw_aload_n (pc' := 281) (v := .ref r0) rfl rfl rfl ?_)
                              refine wp_of e16 c16_281 (rw_iload_n (pc' := 282) (z := v4570) rfl rfl ?_)
                              refine wp_of e16 c16_282 (xp_I (pc' := 285) lf_2_23 w4831 g0 sh_4 (by decide) (by decide) ty_4_2 rfl rfl (by omega) (by omega) ⟨by omega, by omega⟩ rfl (fun H4836 e4837 w4838 => ?_))
                              have f4839 := f4832.put' e4837 g0 rfl
                              have f4840 := f4833.put' e4837 g0 rfl
                              have f4841 := f4834.put' e4837 g0 rfl
                              have k4842 : H4836 r0 2 = v4570 := wq_u_s e4837
                              exact wp_return e16 c16_285 rfl ⟨rfl, w4838, f4839, rfl⟩
                        · refine wp_of e16 c16_125 (rw_aload_n (pc' := 126) (v := .ref r0) rfl rfl rfl ?_)
                          have k4843 : H4571 r0 0 = H3427 r0 0 := ((f4573 r0 0 _ g0 rfl).trans (wq_u_j e4511 rfl))
                          have q4844 : H4571 r0 0 = (rb : Int) := k4843.trans q3969
                          refine wp_of e16 c16_126 (xg_K (pc' := 129) lf_2_7 w4572 g0 sh_4 (by decide) (by decide) rfl q4844 rfl ?_)
                          refine wp_of e16 c16_129 (rw_iload_n (pc' := 130) (z := v4570) rfl rfl ?_)
                          refine wp_of e16 c16_130 (xa_B (by decide) (pc' := 131) w4572 grb sh_2 (by decide) (ty_2 _) (by omega) (by omega) rfl (fun b4845 b4846 => ?_))
                          refine wp_of e16 c16_131 (rw_bipush (pc' := 133) (z := 48) rfl (by decide) ?_)
                          refine wp_of e16 c16_133 (rw_icmp_lt (p1 := 174) (p2 := 136) (by decide) rfl ⟨by omega, by omega⟩ ⟨by omega, by omega⟩ (fun c4847 => ?_) (fun c4847 => ?_))
                          · refine wp_of e16 c16_174 (rw_iload_n (pc' := 175) (z := v4570) rfl rfl ?_)
                            refine wp_of e16 c16_175 (rw_aload_n (pc' := 176) (v := .ref r0) rfl rfl rfl ?_)
                            have k4848 : H4571 r0 4 = H3427 r0 4 := ((f4573 r0 4 _ g0 rfl).trans (wq_u_j e4511 rfl))
                            refine wp_of e16 c16_176 (xg_I (pc' := 179) lf_2_29 w4572 g0 sh_4 (by decide) (by decide) ty_4_4 rfl rfl (fun b4849 b4850 => ?_))
                            refine wp_of e16 c16_179 (rw_isub (pc' := 180) rfl ?_)
                            refine wp_of e16 c16_180 (rw_iload_n (pc' := 181) (z := v3426 - (H3427 r0 4)) rfl rfl ?_)
                            refine wp_of e16 c16_181 (rw_isub (pc' := 182) rfl ?_)
                            refine wp_of e16 c16_182 (rw_istore_n (pc' := 183) (z := (v4570 - (H4571 r0 4)) - (v3426 - (H3427 r0 4))) (L' := [(3, vI ((v4570 - (H4571 r0 4)) - (v3426 - (H3427 r0 4)))), (1, vI v4570), (2, vI (v3426 - (H3427 r0 4))), (0, .ref r0)]) rfl rfl rfl ?_)
                            refine wp_of e16 c16_183 (rw_iload_n (pc' := 184) (z := v3426 - (H3427 r0 4)) rfl rfl ?_)
                            refine wp_of e16 c16_184 (rw_if_le (p1 := 205) (p2 := 187) (by decide) rfl ⟨by omega, by omega⟩ (fun c4851 => ?_) (fun c4851 => ?_))
                            · refine wp_of e16 c16_205 (rw_iload_n (pc' := 206) (z := (v4570 - (H4571 r0 4)) - (v3426 - (H3427 r0 4))) rfl rfl ?_)
                              refine wp_of e16 c16_206 (rw_if_le (p1 := 226) (p2 := 209) (by decide) rfl ⟨by omega, by omega⟩ (fun c4852 => ?_) (fun c4852 => ?_))
                              · refine wp_of e16 c16_226 (rw_iload_n (pc' := 227) (z := v4570) rfl rfl ?_)
                                refine wp_of e16 c16_227 (rw_aload_n (pc' := 228) (v := .ref r0) rfl rfl rfl ?_)
                                refine wp_of e16 c16_228 (xg_I (pc' := 231) lf_2_19 w4572 g0 sh_4 (by decide) (by decide) ty_4_1 rfl rfl (fun b4853 b4854 => ?_))
                                refine wp_of e16 c16_231 (rw_icmp_ge (p1 := 275) (p2 := 234) (by decide) rfl ⟨by omega, by omega⟩ ⟨by omega, by omega⟩ (fun c4855 => ?_) (fun c4855 => ?_))
                                · refine wp_of e16 c16_275 (rw_aload_n (pc' := 276) (v := .ref r0) rfl rfl rfl ?_)
                                  refine wp_of e16 c16_276 (rw_iconst (pc' := 277) rfl ?_)
                                  refine wp_of e16 c16_277 (xp_I (pc' := 280) lf_2_41 w4572 g0 sh_4 (by decide) (by decide) ty_4_3 rfl rfl (by omega) (by omega) ⟨by omega, by omega⟩ rfl (fun H4856 e4857 w4858 => ?_))
                                  have f4859 := f4576.put' e4857 g0 rfl
                                  have f4860 := f4577.put' e4857 g0 rfl
                                  have f4861 := f4573.put' e4857 g0 rfl
                                  have k4862 : H4856 r0 3 = 0 := wq_u_s e4857
                                  refine wp_of e16 c16_280 (rw_aload_n (pc' := 281) (v := .ref r0) rfl rfl rfl ?_)
                                  refine wp_of e16 c16_281 (rw_iload_n (pc' := 282) (z := v4570) rfl rfl ?_)
                                  refine wp_of e16 c16_282 (xp_I (pc' := 285) lf_2_23 w4858 g0 sh_4 (by decide) (by decide) ty_4_2 rfl rfl (by omega) (by omega) ⟨by omega, by omega⟩ rfl (fun H4863 e4864 w4865 => ?_))
                                  have f4866 := f4859.put' e4864 g0 rfl
                                  have f4867 := f4860.put' e4864 g0 rfl
                                  have f4868 := f4861.put' e4864 g0 rfl
                                  have k4869 : H4863 r0 2 = v4570 := wq_u_s e4864
                                  exact wp_return e16 c16_285 rfl ⟨rfl, w4865, f4866, rfl⟩
                                · refine wp_of e16 c16_234 (rw_aload_n (pc' := 235) (v := .ref r0) rfl rfl rfl ?_)
                                  refine wp_of e16 c16_235 (rw_aload_n (pc' := 236) (v := .ref r0) rfl rfl rfl ?_)
                                  refine wp_of e16 c16_236 (xg_K (pc' := 239) lf_2_7 w4572 g0 sh_4 (by decide) (by decide) rfl q4844 rfl ?_)
                                  refine wp_of e16 c16_239 (rw_iload_n (pc' := 240) (z := v4570) rfl rfl ?_)
                                  refine wp_of e16 c16_240 (xa_B (by decide) (pc' := 241) w4572 grb sh_2 (by decide) (ty_2 _) (by omega) (by omega) rfl (fun b4870 b4871 => ?_))
                                  refine wp_of e16 c16_241 (rw_bipush (pc' := 243) (z := 59) rfl (by decide) ?_)
                                  refine wp_of e16 c16_243 (rw_icmp_ne (p1 := 250) (p2 := 246) (by decide) rfl ⟨by omega, by omega⟩ ⟨by omega, by omega⟩ (fun c4872 => ?_) (fun c4872 => ?_))
                                  · refine wp_of e16 c16_250 (rw_aload_n (pc' := 251) (v := .ref r0) rfl rfl rfl ?_)
                                    refine wp_of e16 c16_251 (xg_K (pc' := 254) lf_2_7 w4572 g0 sh_4 (by decide) (by decide) rfl q4844 rfl ?_)
                                    refine wp_of e16 c16_254 (rw_iload_n (pc' := 255) (z := v4570) rfl rfl ?_)
                                    refine wp_of e16 c16_255 (xa_B (by decide) (pc' := 256) w4572 grb sh_2 (by decide) (ty_2 _) (by omega) (by omega) rfl (fun b4873 b4874 => ?_))
                                    refine wp_of e16 c16_256 (rw_bipush (pc' := 258) (z := 44) rfl (by decide) ?_)
                                    refine wp_of e16 c16_258 (rw_icmp_ne (p1 := 265) (p2 := 261) (by decide) rfl ⟨by omega, by omega⟩ ⟨by omega, by omega⟩ (fun c4875 => ?_) (fun c4875 => ?_))
                                    · refine wp_of e16 c16_265 (rw_iconst (pc' := 266) rfl ?_)
                                      refine wp_of e16 c16_266 (xp_I (pc' := 269) lf_2_41 w4572 g0 sh_4 (by decide) (by decide) ty_4_3 rfl rfl (by omega) (by omega) ⟨by omega, by omega⟩ rfl (fun H4876 e4877 w4878 => ?_))
                                      have f4879 := f4576.put' e4877 g0 rfl
                                      have f4880 := f4577.put' e4877 g0 rfl
                                      have f4881 := f4573.put' e4877 g0 rfl
                                      have k4882 : H4876 r0 3 = 5 := wq_u_s e4877
                                      refine wp_of e16 c16_269 (rw_iinc (pc' := 272) (z := v4570) (L' := [(1, vI (v4570 + 1)), (3, vI ((v4570 - (H4571 r0 4)) - (v3426 - (H3427 r0 4)))), (2, vI (v3426 - (H3427 r0 4))), (0, .ref r0)]) rfl rfl rfl rfl ?_)
                                      refine wp_of e16 c16_272 (rw_goto (p1 := 280) (by decide) ?_)
                                      refine wp_of e16 c16_280 (rw_aload_n (pc' := 281) (v := .ref r0) rfl rfl rfl ?_)
                                      refine wp_of e16 c16_281 (rw_iload_n (pc' := 282) (z := v4570 + 1) rfl rfl ?_)
                                      refine wp_of e16 c16_282 (xp_I (pc' := 285) lf_2_23 w4878 g0 sh_4 (by decide) (by decide) ty_4_2 rfl rfl (by omega) (by omega) ⟨by omega, by omega⟩ rfl (fun H4883 e4884 w4885 => ?_))
                                      have f4886 := f4879.put' e4884 g0 rfl
                                      have f4887 := f4880.put' e4884 g0 rfl
                                      have f4888 := f4881.put' e4884 g0 rfl
                                      have k4889 : H4883 r0 2 = v4570 + 1 := wq_u_s e4884
                                      exact wp_return e16 c16_285 rfl ⟨rfl, w4885, f4886, rfl⟩
                                    · refine wp_of e16 c16_261 (rw_iconst (pc' := 262) rfl ?_)
                                      refine wp_of e16 c16_262 (rw_goto (p1 := 266) (by decide) ?_)
                                      refine wp_of e16 c16_266 (xp_I (pc' := 269) lf_2_41 w4572 g0 sh_4 (by decide) (by decide) ty_4_3 rfl rfl (by omega) (by omega) ⟨by omega, by omega⟩ rfl (fun H4890 e4891 w4892 => ?_))
                                      have f4893 := f4576.put' e4891 g0 rfl
                                      have f4894 := f4577.put' e4891 g0 rfl
                                      have f4895 := f4573.put' e4891 g0 rfl
                                      have k4896 : H4890 r0 3 = 4 := wq_u_s e4891
                                      refine wp_of e16 c16_269 (rw_iinc (pc' := 272) (z := v4570) (L' := [(1, vI (v4570 + 1)), (3, vI ((v4570 - (H4571 r0 4)) - (v3426 - (H3427 r0 4)))), (2, vI (v3426 - (H3427 r0 4))), (0, .ref r0)]) rfl rfl rfl rfl ?_)
                                      refine wp_of e16 c16_272 (rw_goto (p1 := 280) (by decide) ?_)
                                      refine wp_of e16 c16_280 (rw_aload_n (pc' := 281) (v := .ref r0) rfl rfl rfl ?_)
                                      refine wp_of e16 c16_281 (rw_iload_n (pc' := 282) (z := v4570 + 1) rfl rfl ?_)
                                      refine wp_of e16 c16_282 (xp_I (pc' := 285) lf_2_23 w4892 g0 sh_4 (by decide) (by decide) ty_4_2 rfl rfl (by omega) (by omega) ⟨by omega, by omega⟩ rfl (fun H4897 e4898 w4899 => ?_))
                                      have f4900 := f4893.put' e4898 g0 rfl
                                      have f4901 := f4894.put' e4898 g0 rfl
                                      have f4902 := f4895.put' e4898 g0 rfl
                                      have k4903 : H4897 r0 2 = v4570 + 1 := wq_u_s e4898
                                      exact wp_return e16 c16_285 rfl ⟨rfl, w4899, f4900, rfl⟩
                                  · exfalso
                                    omega
                              · refine wp_of e16 c16_209 (rw_aload_n (pc' := 210) (v := .ref r0) rfl rfl rfl ?_)
                                refine wp_of e16 c16_210 (rw_iload_n (pc' := 211) (z := (v4570 - (H4571 r0 4)) - (v3426 - (H3427 r0 4))) rfl rfl ?_)
                                refine wp_of e16 c16_211 (rw_iconst (pc' := 212) rfl ?_)
                                refine wp_of e16 c16_212 (rw_icmp_gt (p1 := 219) (p2 := 215) (by decide) rfl ⟨by omega, by omega⟩ ⟨by omega, by omega⟩ (fun c4904 => ?_) (fun c4904 => ?_))
                                · refine wp_of e16 c16_219 (rw_iconst (pc' := 220) rfl ?_)
                                  refine wp_of e16 c16_220 (xp_I (pc' := 223) lf_2_41 w4572 g0 sh_4 (by decide) (by decide) ty_4_3 rfl rfl (by omega) (by omega) ⟨by omega, by omega⟩ rfl (fun H4905 e4906 w4907 => ?_))
                                  have f4908 := f4576.put' e4906 g0 rfl
                                  have f4909 := f4577.put' e4906 g0 rfl
                                  have f4910 := f4573.put' e4906 g0 rfl
                                  have k4911 : H4905 r0 3 = 5 := wq_u_s e4906
                                  refine wp_of e16 c16_223 (rw_goto (p1 := 280) (by decide) ?_)
                                  refine wp_of e16 c16_280 (rw_aload_n (pc' := 281) (v := .ref r0) rfl rfl rfl ?_)
                                  refine wp_of e16 c16_281 (rw_iload_n (pc' := 282) (z := v4570) rfl rfl ?_)
                                  refine wp_of e16 c16_282 (xp_I (pc' := 285) lf_2_23 w4907 g0 sh_4 (by decide) (by decide) ty_4_2 rfl rfl (by omega) (by omega) ⟨by omega, by omega⟩ rfl (fun H4912 e4913 w4914 => ?_))
                                  have f4915 := f4908.put' e4913 g0 rfl
                                  have f4916 := f4909.put' e4913 g0 rfl
                                  have f4917 := f4910.put' e4913 g0 rfl
                                  have k4918 : H4912 r0 2 = v4570 := wq_u_s e4913
                                  exact wp_return e16 c16_285 rfl ⟨rfl, w4914, f4915, rfl⟩
                                · refine wp_of e16 c16_215 (rw_iconst (pc' := 216) rfl ?_)
                                  refine wp_of e16 c16_216 (rw_goto (p1 := 220) (by decide) ?_)
                                  refine wp_of e16 c16_220 (xp_I (pc' := 223) lf_2_41 w4572 g0 sh_4 (by decide) (by decide) ty_4_3 rfl rfl (by omega) (by omega) ⟨by omega, by omega⟩ rfl (fun H4919 e4920 w4921 => ?_))
                                  have f4922 := f4576.put' e4920 g0 rfl
                                  have f4923 := f4577.put' e4920 g0 rfl
                                  have f4924 := f4573.put' e4920 g0 rfl
                                  have k4925 : H4919 r0 3 = 2 := wq_u_s e4920
                                  refine wp_of e16 c16_223 (rw_goto (p1 := 280) (by decide) ?_)
                                  refine wp_of e16 c16_280 (rw_aload_n (pc' := 281) (v := .ref r0) rfl rfl rfl ?_)
                                  refine wp_of e16 c16_281 (rw_iload_n (pc' := 282) (z := v4570) rfl rfl ?_)
                                  refine wp_of e16 c16_282 (xp_I (pc' := 285) lf_2_23 w4921 g0 sh_4 (by decide) (by decide) ty_4_2 rfl rfl (by omega) (by omega) ⟨by omega, by omega⟩ rfl (fun H4926 e4927 w4928 => ?_))
                                  have f4929 := f4922.put' e4927 g0 rfl
                                  have f4930 := f4923.put' e4927 g0 rfl
                                  have f4931 := f4924.put' e4927 g0 rfl
                                  have k4932 : H4926 r0 2 = v4570 := wq_u_s e4927
                                  exact wp_return e16 c16_285 rfl ⟨rfl, w4928, f4929, rfl⟩
                            · exfalso
                              omega
                          · refine wp_of e16 c16_136 (rw_aload_n (pc' := 137) (v := .ref r0) rfl rfl rfl ?_)
                            refine wp_of e16 c16_137 (xg_K (pc' := 140) lf_2_7 w4572 g0 sh_4 (by decide) (by decide) rfl q4844 rfl ?_)
                            refine wp_of e16 c16_140 (rw_iload_n (pc' := 141) (z := v4570) rfl rfl ?_)
                            refine wp_of e16 c16_141 (xa_B (by decide) (pc' := 142) w4572 grb sh_2 (by decide) (ty_2 _) (by omega) (by omega) rfl (fun b4933 b4934 => ?_))
                            refine wp_of e16 c16_142 (rw_bipush (pc' := 144) (z := 57) rfl (by decide) ?_)
                            refine wp_of e16 c16_144 (rw_icmp_gt (p1 := 174) (p2 := 147) (by decide) rfl ⟨by omega, by omega⟩ ⟨by omega, by omega⟩ (fun c4935 => ?_) (fun c4935 => ?_))
                            · refine wp_of e16 c16_174 (rw_iload_n (pc' := 175) (z := v4570) rfl rfl ?_)
                              refine wp_of e16 c16_175 (rw_aload_n (pc' := 176) (v := .ref r0) rfl rfl rfl ?_)
                              have k4936 : H4571 r0 4 = H3427 r0 4 := ((f4573 r0 4 _ g0 rfl).trans (wq_u_j e4511 rfl))
                              refine wp_of e16 c16_176 (xg_I (pc' := 179) lf_2_29 w4572 g0 sh_4 (by decide) (by decide) ty_4_4 rfl rfl (fun b4937 b4938 => ?_))
                              refine wp_of e16 c16_179 (rw_isub (pc' := 180) rfl ?_)
                              refine wp_of e16 c16_180 (rw_iload_n (pc' := 181) (z := v3426 - (H3427 r0 4)) rfl rfl ?_)
                              refine wp_of e16 c16_181 (rw_isub (pc' := 182) rfl ?_)
                              refine wp_of e16 c16_182 (rw_istore_n (pc' := 183) (z := (v4570 - (H4571 r0 4)) - (v3426 - (H3427 r0 4))) (L' := [(3, vI ((v4570 - (H4571 r0 4)) - (v3426 - (H3427 r0 4)))), (1, vI v4570), (2, vI (v3426 - (H3427 r0 4))), (0, .ref r0)]) rfl rfl rfl ?_)
                              refine wp_of e16 c16_183 (rw_iload_n (pc' := 184) (z := v3426 - (H3427 r0 4)) rfl rfl ?_)
                              refine wp_of e16 c16_184 (rw_if_le (p1 := 205) (p2 := 187) (by decide) rfl ⟨by omega, by omega⟩ (fun c4939 => ?_) (fun c4939 => ?_))
                              · refine wp_of e16 c16_205 (rw_iload_n (pc' := 206) (z := (v4570 - (H4571 r0 4)) - (v3426 - (H3427 r0 4))) rfl rfl ?_)
                                refine wp_of e16 c16_206 (rw_if_le (p1 := 226) (p2 := 209) (by decide) rfl ⟨by omega, by omega⟩ (fun c4940 => ?_) (fun c4940 => ?_))
                                · refine wp_of e16 c16_226 (rw_iload_n (pc' := 227) (z := v4570) rfl rfl ?_)
                                  refine wp_of e16 c16_227 (rw_aload_n (pc' := 228) (v := .ref r0) rfl rfl rfl ?_)
                                  refine wp_of e16 c16_228 (xg_I (pc' := 231) lf_2_19 w4572 g0 sh_4 (by decide) (by decide) ty_4_1 rfl rfl (fun b4941 b4942 => ?_))
                                  refine wp_of e16 c16_231 (rw_icmp_ge (p1 := 275) (p2 := 234) (by decide) rfl ⟨by omega, by omega⟩ ⟨by omega, by omega⟩ (fun c4943 => ?_) (fun c4943 => ?_))
                                  · refine wp_of e16 c16_275 (rw_aload_n (pc' := 276) (v := .ref r0) rfl rfl rfl ?_)
                                    refine wp_of e16 c16_276 (rw_iconst (pc' := 277) rfl ?_)
                                    refine wp_of e16 c16_277 (xp_I (pc' := 280) lf_2_41 w4572 g0 sh_4 (by decide) (by decide) ty_4_3 rfl rfl (by omega) (by omega) ⟨by omega, by omega⟩ rfl (fun H4944 e4945 w4946 => ?_))
                                    have f4947 := f4576.put' e4945 g0 rfl
                                    have f4948 := f4577.put' e4945 g0 rfl
                                    have f4949 := f4573.put' e4945 g0 rfl
                                    have k4950 : H4944 r0 3 = 0 := wq_u_s e4945
                                    refine wp_of e16 c16_280 (rw_aload_n (pc' := 281) (v := .ref r0) rfl rfl rfl ?_)
                                    refine wp_of e16 c16_281 (rw_iload_n (pc' := 282) (z := v4570) rfl rfl ?_)
                                    refine wp_of e16 c16_282 (xp_I (pc' := 285) lf_2_23 w4946 g0 sh_4 (by decide) (by decide) ty_4_2 rfl rfl (by omega) (by omega) ⟨by omega, by omega⟩ rfl (fun H4951 e4952 w4953 => ?_))
                                    have f4954 := f4947.put' e4952 g0 rfl
                                    have f4955 := f4948.put' e4952 g0 rfl
                                    have f4956 := f4949.put' e4952 g0 rfl
                                    have k4957 : H4951 r0 2 = v4570 := wq_u_s e4952
                                    exact wp_return e16 c16_285 rfl ⟨rfl, w4953, f4954, rfl⟩
                                  · refine wp_of e16 c16_234 (rw_aload_n (pc' := 235) (v := .ref r0) rfl rfl rfl ?_)
                                    refine wp_of e16 c16_235 (rw_aload_n (pc' := 236) (v := .ref r0) rfl rfl rfl ?_)
                                    refine wp_of e16 c16_236 (xg_K (pc' := 239) lf_2_7 w4572 g0 sh_4 (by decide) (by decide) rfl q4844 rfl ?_)
                                    refine wp_of e16 c16_239 (rw_iload_n (pc' := 240) (z := v4570) rfl rfl ?_)
                                    refine wp_of e16 c16_240 (xa_B (by decide) (pc' := 241) w4572 grb sh_2 (by decide) (ty_2 _) (by omega) (by omega) rfl (fun b4958 b4959 => ?_))
                                    refine wp_of e16 c16_241 (rw_bipush (pc' := 243) (z := 59) rfl (by decide) ?_)
                                    refine wp_of e16 c16_243 (rw_icmp_ne (p1 := 250) (p2 := 246) (by decide) rfl ⟨by omega, by omega⟩ ⟨by omega, by omega⟩ (fun c4960 => ?_) (fun c4960 => ?_))
                                    · refine wp_of e16 c16_250 (rw_aload_n (pc' := 251) (v := .ref r0) rfl rfl rfl ?_)
                                      refine wp_of e16 c16_251 (xg_K (pc' := 254) lf_2_7 w4572 g0 sh_4 (by decide) (by decide) rfl q4844 rfl ?_)
                                      refine wp_of e16 c16_254 (rw_iload_n (pc' := 255) (z := v4570) rfl rfl ?_)
                                      refine wp_of e16 c16_255 (xa_B (by decide) (pc' := 256) w4572 grb sh_2 (by decide) (ty_2 _) (by omega) (by omega) rfl (fun b4961 b4962 => ?_))
                                      refine wp_of e16 c16_256 (rw_bipush (pc' := 258) (z := 44) rfl (by decide) ?_)
                                      refine wp_of e16 c16_258 (rw_icmp_ne (p1 := 265) (p2 := 261) (by decide) rfl ⟨by omega, by omega⟩ ⟨by omega, by omega⟩ (fun c4963 => ?_) (fun c4963 => ?_))
                                      · refine wp_of e16 c16_265 (rw_iconst (pc' := 266) rfl ?_)
                                        refine wp_of e16 c16_266 (xp_I (pc' := 269) lf_2_41 w4572 g0 sh_4 (by decide) (by decide) ty_4_3 rfl rfl (by omega) (by omega) ⟨by omega, by omega⟩ rfl (fun H4964 e4965 w4966 => ?_))
                                        have f4967 := f4576.put' e4965 g0 rfl
                                        have f4968 := f4577.put' e4965 g0 rfl
                                        have f4969 := f4573.put' e4965 g0 rfl
                                        have k4970 : H4964 r0 3 = 5 := wq_u_s e4965
                                        refine wp_of e16 c16_269 (rw_iinc (pc' := 272) (z := v4570) (L' := [(1, vI (v4570 + 1)), (3, vI ((v4570 - (H4571 r0 4)) - (v3426 - (H3427 r0 4)))), (2, vI (v3426 - (H3427 r0 4))), (0, .ref r0)]) rfl rfl rfl rfl ?_)
                                        refine wp_of e16 c16_272 (rw_goto (p1 := 280) (by decide) ?_)
                                        refine wp_of e16 c16_280 (rw_aload_n (pc' := 281) (v := .ref r0) rfl rfl rfl ?_)
                                        refine wp_of e16 c16_281 (rw_iload_n (pc' := 282) (z := v4570 + 1) rfl rfl ?_)
                                        refine wp_of e16 c16_282 (xp_I (pc' := 285) lf_2_23 w4966 g0 sh_4 (by decide) (by decide) ty_4_2 rfl rfl (by omega) (by omega) ⟨by omega, by omega⟩ rfl (fun H4971 e4972 w4973 => ?_))
                                        have f4974 := f4967.put' e4972 g0 rfl
                                        have f4975 := f4968.put' e4972 g0 rfl
                                        have f4976 := f4969.put' e4972 g0 rfl
                                        have k4977 : H4971 r0 2 = v4570 + 1 := wq_u_s e4972
                                        exact wp_return e16 c16_285 rfl ⟨rfl, w4973, f4974, rfl⟩
                                      · exfalso
                                        omega
                                    · refine wp_of e16 c16_246 (rw_iconst (pc' := 247) rfl ?_)
                                      refine wp_of e16 c16_247 (rw_goto (p1 := 266) (by decide) ?_)
                                      refine wp_of e16 c16_266 (xp_I (pc' := 269) lf_2_41 w4572 g0 sh_4 (by decide) (by decide) ty_4_3 rfl rfl (by omega) (by omega) ⟨by omega, by omega⟩ rfl (fun H4978 e4979 w4980 => ?_))
                                      have f4981 := f4576.put' e4979 g0 rfl
                                      have f4982 := f4577.put' e4979 g0 rfl
                                      have f4983 := f4573.put' e4979 g0 rfl
                                      have k4984 : H4978 r0 3 = 3 := wq_u_s e4979
                                      refine wp_of e16 c16_269 (rw_iinc (pc' := 272) (z := v4570) (L' := [(1, vI (v4570 + 1)), (3, vI ((v4570 - (H4571 r0 4)) - (v3426 - (H3427 r0 4)))), (2, vI (v3426 - (H3427 r0 4))), (0, .ref r0)]) rfl rfl rfl rfl ?_)
                                      refine wp_of e16 c16_272 (rw_goto (p1 := 280) (by decide) ?_)
                                      refine wp_of e16 c16_280 (rw_aload_n (pc' := 281) (v := .ref r0) rfl rfl rfl ?_)
                                      refine wp_of e16 c16_281 (rw_iload_n (pc' := 282) (z := v4570 + 1) rfl rfl ?_)
                                      refine wp_of e16 c16_282 (xp_I (pc' := 285) lf_2_23 w4980 g0 sh_4 (by decide) (by decide) ty_4_2 rfl rfl (by omega) (by omega) ⟨by omega, by omega⟩ rfl (fun H4985 e4986 w4987 => ?_))
                                      have f4988 := f4981.put' e4986 g0 rfl
                                      have f4989 := f4982.put' e4986 g0 rfl
                                      have f4990 := f4983.put' e4986 g0 rfl
                                      have k4991 : H4985 r0 2 = v4570 + 1 := wq_u_s e4986
                                      exact wp_return e16 c16_285 rfl ⟨rfl, w4987, f4988, rfl⟩
                                · refine wp_of e16 c16_209 (rw_aload_n (pc' := 210) (v := .ref r0) rfl rfl rfl ?_)
                                  refine wp_of e16 c16_210 (rw_iload_n (pc' := 211) (z := (v4570 - (H4571 r0 4)) - (v3426 - (H3427 r0 4))) rfl rfl ?_)
                                  refine wp_of e16 c16_211 (rw_iconst (pc' := 212) rfl ?_)
                                  refine wp_of e16 c16_212 (rw_icmp_gt (p1 := 219) (p2 := 215) (by decide) rfl ⟨by omega, by omega⟩ ⟨by omega, by omega⟩ (fun c4992 => ?_) (fun c4992 => ?_))
                                  · refine wp_of e16 c16_219 (rw_iconst (pc' := 220) rfl ?_)
                                    refine wp_of e16 c16_220 (xp_I (pc' := 223) lf_2_41 w4572 g0 sh_4 (by decide) (by decide) ty_4_3 rfl rfl (by omega) (by omega) ⟨by omega, by omega⟩ rfl (fun H4993 e4994 w4995 => ?_))
                                    have f4996 := f4576.put' e4994 g0 rfl
                                    have f4997 := f4577.put' e4994 g0 rfl
                                    have f4998 := f4573.put' e4994 g0 rfl
                                    have k4999 : H4993 r0 3 = 5 := wq_u_s e4994
                                    refine wp_of e16 c16_223 (rw_goto (p1 := 280) (by decide) ?_)
                                    refine wp_of e16 c16_280 (rw_aload_n (pc' := 281) (v := .ref r0) rfl rfl rfl ?_)
                                    refine wp_of e16 c16_281 (rw_iload_n (pc' := 282) (z := v4570) rfl rfl ?_)
                                    refine wp_of e16 c16_282 (xp_I (pc' := 285) lf_2_23 w4995 g0 sh_4 (by decide) (by decide) ty_4_2 rfl rfl (by omega) (by omega) ⟨by omega, by omega⟩ rfl (fun H5000 e5001 w5002 => ?_))
                                    have f5003 := f4996.put' e5001 g0 rfl
                                    have f5004 := f4997.put' e5001 g0 rfl
                                    have f5005 := f4998.put' e5001 g0 rfl
                                    have k5006 : H5000 r0 2 = v4570 := wq_u_s e5001
                                    exact wp_return e16 c16_285 rfl ⟨rfl, w5002, f5003, rfl⟩
                                  · refine wp_of e16 c16_215 (rw_iconst (pc' := 216) rfl ?_)
                                    refine wp_of e16 c16_216 (rw_goto (p1 := 220) (by decide) ?_)
                                    refine wp_of e16 c16_220 (xp_I (pc' := 223) lf_2_41 w4572 g0 sh_4 (by decide) (by decide) ty_4_3 rfl rfl (by omega) (by omega) ⟨by omega, by omega⟩ rfl (fun H5007 e5008 w5009 => ?_))
                                    have f5010 := f4576.put' e5008 g0 rfl
                                    have f5011 := f4577.put' e5008 g0 rfl
                                    have f5012 := f4573.put' e5008 g0 rfl
                                    have k5013 : H5007 r0 3 = 2 := wq_u_s e5008
                                    refine wp_of e16 c16_223 (rw_goto (p1 := 280) (by decide) ?_)
                                    refine wp_of e16 c16_280 (rw_aload_n (pc' := 281) (v := .ref r0) rfl rfl rfl ?_)
                                    refine wp_of e16 c16_281 (rw_iload_n (pc' := 282) (z := v4570) rfl rfl ?_)
                                    refine wp_of e16 c16_282 (xp_I (pc' := 285) lf_2_23 w5009 g0 sh_4 (by decide) (by decide) ty_4_2 rfl rfl (by omega) (by omega) ⟨by omega, by omega⟩ rfl (fun H5014 e5015 w5016 => ?_))
                                    have f5017 := f5010.put' e5015 g0 rfl
                                    have f5018 := f5011.put' e5015 g0 rfl
                                    have f5019 := f5012.put' e5015 g0 rfl
                                    have k5020 : H5014 r0 2 = v4570 := wq_u_s e5015
                                    exact wp_return e16 c16_285 rfl ⟨rfl, w5016, f5017, rfl⟩
                              · exfalso
                                omega
                            · refine wp_of e16 c16_147 (rw_aload_n (pc' := 148) (v := .ref r0) rfl rfl rfl ?_)
                              refine wp_of e16 c16_148 (rw_aload_n (pc' := 149) (v := .ref r0) rfl rfl rfl ?_)
                              refine wp_of e16 c16_149 (xg_I (pc' := 152) lf_2_38 w4572 g0 sh_4 (by decide) (by decide) ty_4_5 rfl rfl (fun b5021 b5022 => ?_))
                              refine wp_of e16 c16_152 (rw_bipush (pc' := 154) (z := 10) rfl (by decide) ?_)
                              refine wp_of e16 c16_154 (rw_imulw (pc' := 155) rfl ?_)
                              obtain ⟨v5023, e5024⟩ : ∃ x : Int, x = wq_w ((H4571 r0 5) * 10) := ⟨_, rfl⟩
                              rw [← e5024]
                              have b5025 : -2147483648 ≤ v5023 ∧ v5023 ≤ 2147483647 := by
                                rw [e5024]
                                exact wI_w _
                              refine wp_of e16 c16_155 (rw_aload_n (pc' := 156) (v := .ref r0) rfl rfl rfl ?_)
                              refine wp_of e16 c16_156 (xg_K (pc' := 159) lf_2_7 w4572 g0 sh_4 (by decide) (by decide) rfl q4844 rfl ?_)
                              refine wp_of e16 c16_159 (rw_iload_n (pc' := 160) (z := v4570) rfl rfl ?_)
                              refine wp_of e16 c16_160 (xa_B (by decide) (pc' := 161) w4572 grb sh_2 (by decide) (ty_2 _) (by omega) (by omega) rfl (fun b5026 b5027 => ?_))
                              refine wp_of e16 c16_161 (rw_bipush (pc' := 163) (z := 48) rfl (by decide) ?_)
                              refine wp_of e16 c16_163 (rw_isub (pc' := 164) rfl ?_)
                              refine wp_of e16 c16_164 (rw_iaddw (pc' := 165) rfl ?_)
                              obtain ⟨v5028, e5029⟩ : ∃ x : Int, x = wq_w (v5023 + ((H4571 rb v4570.toNat) - 48)) := ⟨_, rfl⟩
                              rw [← e5029]
                              have b5030 : -2147483648 ≤ v5028 ∧ v5028 ≤ 2147483647 := by
                                rw [e5029]
                                exact wI_w _
                              refine wp_of e16 c16_165 (xp_I (pc' := 168) lf_2_38 w4572 g0 sh_4 (by decide) (by decide) ty_4_5 rfl rfl (by omega) (by omega) ⟨by omega, by omega⟩ rfl (fun H5031 e5032 w5033 => ?_))
                              have f5034 := f4576.put' e5032 g0 rfl
                              have f5035 := f4577.put' e5032 g0 rfl
                              have f5036 := f4573.put' e5032 g0 rfl
                              have k5037 : H5031 r0 5 = v5028 := wq_u_s e5032
                              refine wp_of e16 c16_168 (rw_iinc (pc' := 171) (z := v4570) (L' := [(1, vI (v4570 + 1)), (2, vI (v3426 - (H3427 r0 4))), (0, .ref r0)]) rfl rfl rfl rfl ?_)
                              refine wp_of e16 c16_171 (rw_goto (p1 := 113) (by decide) ?_)
                              exact wp_lc (ks := [1, 2, 0]) (wl_c rfl (wl_c rfl (wl_c rfl wl_n))) rfl (by decide) (ih4569 _ (by omega) (v4570 + 1) H5031 w5033 f5036 ⟨by omega, by omega⟩ rfl)
                  exact wp_lc (ks := [2, 1, 0]) (wl_c rfl (wl_c rfl (wl_c rfl wl_n))) rfl (by decide) (lp4567 _ v3426 H4510 w4512 wfr.rf ⟨by omega, by omega⟩ rfl)
                · refine wp_of e16 c16_70 (rw_aload_n (pc' := 71) (v := .ref r0) rfl rfl rfl ?_)
                  refine wp_of e16 c16_71 (rw_aload_n (pc' := 72) (v := .ref r0) rfl rfl rfl ?_)
                  refine wp_of e16 c16_72 (xg_L (pc' := 75) lf_2_32 w3428 g0 sh_4 (by decide) (by decide) ty_4_6 rfl rfl (fun b5038 b5039 => ?_))
                  refine wp_of e16 c16_75 (rw_ldc2 (pc' := 78) (z := 32) rfl rfl rfl ?_)
                  refine wp_of e16 c16_78 (rw_lmulw (pc' := 79) rfl ?_)
                  obtain ⟨v5040, e5041⟩ : ∃ x : Int, x = wl_w ((H3427 r0 6) * 32) := ⟨_, rfl⟩
                  rw [← e5041]
                  have b5042 : -9223372036854775808 ≤ v5040 ∧ v5040 ≤ 9223372036854775807 := by
                    rw [e5041]
                    exact wL_w _
                  refine wp_of e16 c16_79 (rw_aload_n (pc' := 80) (v := .ref r0) rfl rfl rfl ?_)
                  refine wp_of e16 c16_80 (xg_K (pc' := 83) lf_2_7 w3428 g0 sh_4 (by decide) (by decide) rfl q3969 rfl ?_)
                  refine wp_of e16 c16_83 (rw_iload_n (pc' := 84) (z := v3426) rfl rfl ?_)
                  refine wp_of e16 c16_84 (xa_B (by decide) (pc' := 85) w3428 grb sh_2 (by decide) (ty_2 _) (by omega) (by omega) rfl (fun b5043 b5044 => ?_))
                  refine wp_of e16 c16_85 (rw_bipush (pc' := 87) (z := 97) rfl (by decide) ?_)
                  refine wp_of e16 c16_87 (rw_isub (pc' := 88) rfl ?_)
                  refine wp_of e16 c16_88 (rw_iconst (pc' := 89) rfl ?_)
                  refine wp_of e16 c16_89 (rw_iadd (pc' := 90) rfl ?_)
                  refine wp_of e16 c16_90 (rw_i2l (pc' := 91) rfl ⟨by omega, by omega⟩ ?_)
                  refine wp_of e16 c16_91 (rw_laddw (pc' := 92) rfl ?_)
                  obtain ⟨v5045, e5046⟩ : ∃ x : Int, x = wl_w (v5040 + (((H3427 rb v3426.toNat) - 97) + 1)) := ⟨_, rfl⟩
                  rw [← e5046]
                  have b5047 : -9223372036854775808 ≤ v5045 ∧ v5045 ≤ 9223372036854775807 := by
                    rw [e5046]
                    exact wL_w _
                  refine wp_of e16 c16_92 (xp_L (pc' := 95) lf_2_32 w3428 g0 sh_4 (by decide) (by decide) ty_4_6 rfl rfl (by omega) (by omega) ⟨by omega, by omega⟩ rfl (fun H5048 e5049 w5050 => ?_))
                  have f5051 := f3432.put' e5049 g0 rfl
                  have f5052 := f3429.put' e5049 g0 rfl
                  have k5053 : H5048 r0 6 = v5045 := wq_u_s e5049
                  refine wp_of e16 c16_95 (rw_iinc (pc' := 98) (z := v3426) (L' := [(1, vI (v3426 + 1)), (0, .ref r0)]) rfl rfl rfl rfl ?_)
                  refine wp_of e16 c16_98 (rw_goto (p1 := 40) (by decide) ?_)
                  exact wp_lc (ks := [1, 0]) (wl_c rfl (wl_c rfl wl_n)) rfl (by decide) (ih3425 _ (by omega) (v3426 + 1) H5048 w5050 f5052 ⟨by omega, by omega⟩ rfl)
        exact wp_lc (ks := [1, 0]) (wl_c rfl (wl_c rfl wl_n)) rfl (by decide) (lp3423 _ v3358 H3371 w3373 wfr.rf ⟨by omega, by omega⟩ rfl)
      · refine wp_of e16 c16_13 (rw_aload_n (pc' := 14) (v := .ref r0) rfl rfl rfl ?_)
        refine wp_of e16 c16_14 (xg_K (pc' := 17) lf_2_7 hW g0 sh_4 (by decide) (by decide) rfl qrb rfl ?_)
        refine wp_of e16 c16_17 (rw_iload_n (pc' := 18) (z := v3358) rfl rfl ?_)
        refine wp_of e16 c16_18 (xa_B (by decide) (pc' := 19) hW grb sh_2 (by decide) (ty_2 _) (by omega) (by omega) rfl (fun b5054 b5055 => ?_))
        refine wp_of e16 c16_19 (rw_bipush (pc' := 21) (z := 32) rfl (by decide) ?_)
        refine wp_of e16 c16_21 (rw_icmp_ne (p1 := 30) (p2 := 24) (by decide) rfl ⟨by omega, by omega⟩ ⟨by omega, by omega⟩ (fun c5056 => ?_) (fun c5056 => ?_))
        · refine wp_of e16 c16_30 (rw_aload_n (pc' := 31) (v := .ref r0) rfl rfl rfl ?_)
          refine wp_of e16 c16_31 (rw_iload_n (pc' := 32) (z := v3358) rfl rfl ?_)
          refine wp_of e16 c16_32 (xp_I (pc' := 35) lf_2_29 hW g0 sh_4 (by decide) (by decide) ty_4_4 rfl rfl (by omega) (by omega) ⟨by omega, by omega⟩ rfl (fun H5057 e5058 w5059 => ?_))
          have f5060 := f0.put' e5058 g0 rfl
          have k5061 : H5057 r0 4 = v3358 := wq_u_s e5058
          refine wp_of e16 c16_35 (rw_aload_n (pc' := 36) (v := .ref r0) rfl rfl rfl ?_)
          refine wp_of e16 c16_36 (rw_lconst (pc' := 37) (z := 0) rfl rfl ?_)
          refine wp_of e16 c16_37 (xp_L (pc' := 40) lf_2_32 w5059 g0 sh_4 (by decide) (by decide) ty_4_6 rfl rfl (by omega) (by omega) ⟨by omega, by omega⟩ rfl (fun H5062 e5063 w5064 => ?_))
          have f5065 := f5060.put' e5063 g0 rfl
          have k5066 : H5062 r0 6 = 0 := wq_u_s e5063
          have lp5114 : ∀ (n5115 : Nat) (v5117 : Int) (H5118 : wq_H), WT T H5118 → wfr [(4, 6)] T H5062 H5118 → (0 ≤ v5117 ∧ v5117 ≤ 900) → (900 - v5117).toNat = n5115 → wp kt 0 16 40 [(1, vI v5117), (0, .ref r0)] [] T H5118 (q_16 r0 rb T H) := by
            intro n5115
            induction n5115 using Nat.strongRecOn with
            | _ n5115 ih5116 =>
              intro v5117 H5118 w5119 f5120 b5121 m5122
              have f5123 := f5065.tr f5120 rfl
              refine wp_of e16 c16_40 (rw_iload_n (pc' := 41) (z := v5117) rfl rfl ?_)
              refine wp_of e16 c16_41 (rw_aload_n (pc' := 42) (v := .ref r0) rfl rfl rfl ?_)
              have k5124 : H5118 r0 1 = H r0 1 := ((f5120 r0 1 _ g0 rfl).trans ((wq_u_j e5063 rfl).trans (wq_u_j e5058 rfl)))
              refine wp_of e16 c16_42 (xg_I (pc' := 45) lf_2_19 w5119 g0 sh_4 (by decide) (by decide) ty_4_1 rfl rfl (fun b5125 b5126 => ?_))
              refine wp_of e16 c16_45 (rw_icmp_ge (p1 := 101) (p2 := 48) (by decide) rfl ⟨by omega, by omega⟩ ⟨by omega, by omega⟩ (fun c5127 => ?_) (fun c5127 => ?_))
              · refine wp_of e16 c16_101 (rw_iload_n (pc' := 102) (z := v5117) rfl rfl ?_)
                refine wp_of e16 c16_102 (rw_aload_n (pc' := 103) (v := .ref r0) rfl rfl rfl ?_)
                have k5128 : H5118 r0 4 = H5057 r0 4 := ((f5120 r0 4 _ g0 rfl).trans (wq_u_j e5063 rfl))
                refine wp_of e16 c16_103 (xg_I (pc' := 106) lf_2_29 w5119 g0 sh_4 (by decide) (by decide) ty_4_4 rfl rfl (fun b5129 b5130 => ?_))
                refine wp_of e16 c16_106 (rw_isub (pc' := 107) rfl ?_)
                refine wp_of e16 c16_107 (rw_istore_n (pc' := 108) (z := v5117 - (H5118 r0 4)) (L' := [(2, vI (v5117 - (H5118 r0 4))), (1, vI v5117), (0, .ref r0)]) rfl rfl rfl ?_)
                refine wp_of e16 c16_108 (rw_aload_n (pc' := 109) (v := .ref r0) rfl rfl rfl ?_)
                refine wp_of e16 c16_109 (rw_iconst (pc' := 110) rfl ?_)
                refine wp_of e16 c16_110 (xp_I (pc' := 113) lf_2_38 w5119 g0 sh_4 (by decide) (by decide) ty_4_5 rfl rfl (by omega) (by omega) ⟨by omega, by omega⟩ rfl (fun H5131 e5132 w5133 => ?_))
                have f5134 := f5123.put' e5132 g0 rfl
                have f5135 := f5120.put' e5132 g0 rfl
                have k5136 : H5131 r0 5 = 0 := wq_u_s e5132
                have lp5188 : ∀ (n5189 : Nat) (v5191 : Int) (H5192 : wq_H), WT T H5192 → wfr [(4, 5)] T H5131 H5192 → (1 ≤ v5191 ∧ v5191 ≤ 900) → (900 - v5191).toNat = n5189 → wp kt 0 16 113 [(1, vI v5191), (2, vI (v5117 - (H5118 r0 4))), (0, .ref r0)] [] T H5192 (q_16 r0 rb T H) := by
                  intro n5189
                  induction n5189 using Nat.strongRecOn with
                  | _ n5189 ih5190 =>
                    intro v5191 H5192 w5193 f5194 b5195 m5196
                    have f5197 := f5134.tr f5194 rfl
                    have f5198 := f5135.tr f5194 rfl
                    refine wp_of e16 c16_113 (rw_iload_n (pc' := 114) (z := v5191) rfl rfl ?_)
                    refine wp_of e16 c16_114 (rw_aload_n (pc' := 115) (v := .ref r0) rfl rfl rfl ?_)
                    have k5199 : H5192 r0 1 = H5118 r0 1 := ((f5194 r0 1 _ g0 rfl).trans (wq_u_j e5132 rfl))
                    refine wp_of e16 c16_115 (xg_I (pc' := 118) lf_2_19 w5193 g0 sh_4 (by decide) (by decide) ty_4_1 rfl rfl (fun b5200 b5201 => ?_))
                    refine wp_of e16 c16_118 (rw_icmp_ge (p1 := 174) (p2 := 121) (by decide) rfl ⟨by omega, by omega⟩ ⟨by omega, by omega⟩ (fun c5202 => ?_) (fun c5202 => ?_))
                    · refine wp_of e16 c16_174 (rw_iload_n (pc' := 175) (z := v5191) rfl rfl ?_)
                      refine wp_of e16 c16_175 (rw_aload_n (pc' := 176) (v := .ref r0) rfl rfl rfl ?_)
                      have k5203 : H5192 r0 4 = H5118 r0 4 := ((f5194 r0 4 _ g0 rfl).trans (wq_u_j e5132 rfl))
                      refine wp_of e16 c16_176 (xg_I (pc' := 179) lf_2_29 w5193 g0 sh_4 (by decide) (by decide) ty_4_4 rfl rfl (fun b5204 b5205 => ?_))
                      refine wp_of e16 c16_179 (rw_isub (pc' := 180) rfl ?_)
                      refine wp_of e16 c16_180 (rw_iload_n (pc' := 181) (z := v5117 - (H5118 r0 4)) rfl rfl ?_)
                      refine wp_of e16 c16_181 (rw_isub (pc' := 182) rfl ?_)
                      refine wp_of e16 c16_182 (rw_istore_n (pc' := 183) (z := (v5191 - (H5192 r0 4)) - (v5117 - (H5118 r0 4))) (L' := [(3, vI ((v5191 - (H5192 r0 4)) - (v5117 - (H5118 r0 4)))), (1, vI v5191), (2, vI (v5117 - (H5118 r0 4))), (0, .ref r0)]) rfl rfl rfl ?_)
                      refine wp_of e16 c16_183 (rw_iload_n (pc' := 184) (z := v5117 - (H5118 r0 4)) rfl rfl ?_)
                      refine wp_of e16 c16_184 (rw_if_le (p1 := 205) (p2 := 187) (by decide) rfl ⟨by omega, by omega⟩ (fun c5206 => ?_) (fun c5206 => ?_))
                      · refine wp_of e16 c16_205 (rw_iload_n (pc' := 206) (z := (v5191 - (H5192 r0 4)) - (v5117 - (H5118 r0 4))) rfl rfl ?_)
                        refine wp_of e16 c16_206 (rw_if_le (p1 := 226) (p2 := 209) (by decide) rfl ⟨by omega, by omega⟩ (fun c5207 => ?_) (fun c5207 => ?_))
                        · refine wp_of e16 c16_226 (rw_iload_n (pc' := 227) (z := v5191) rfl rfl ?_)
                          refine wp_of e16 c16_227 (rw_aload_n (pc' := 228) (v := .ref r0) rfl rfl rfl ?_)
                          refine wp_of e16 c16_228 (xg_I (pc' := 231) lf_2_19 w5193 g0 sh_4 (by decide) (by decide) ty_4_1 rfl rfl (fun b5208 b5209 => ?_))
                          refine wp_of e16 c16_231 (rw_icmp_ge (p1 := 275) (p2 := 234) (by decide) rfl ⟨by omega, by omega⟩ ⟨by omega, by omega⟩ (fun c5210 => ?_) (fun c5210 => ?_))
                          · refine wp_of e16 c16_275 (rw_aload_n (pc' := 276) (v := .ref r0) rfl rfl rfl ?_)
                            refine wp_of e16 c16_276 (rw_iconst (pc' := 277) rfl ?_)
                            refine wp_of e16 c16_277 (xp_I (pc' := 280) lf_2_41 w5193 g0 sh_4 (by decide) (by decide) ty_4_3 rfl rfl (by omega) (by omega) ⟨by omega, by omega⟩ rfl (fun H5211 e5212 w5213 => ?_))
                            have f5214 := f5197.put' e5212 g0 rfl
                            have f5215 := f5198.put' e5212 g0 rfl
                            have f5216 := f5194.put' e5212 g0 rfl
                            have k5217 : H5211 r0 3 = 0 := wq_u_s e5212
                            refine wp_of e16 c16_280 (rw_aload_n (pc' := 281) (v := .ref r0) rfl rfl rfl ?_)
                            refine wp_of e16 c16_281 (rw_iload_n (pc' := 282) (z := v5191) rfl rfl ?_)
                            refine wp_of e16 c16_282 (xp_I (pc' := 285) lf_2_23 w5213 g0 sh_4 (by decide) (by decide) ty_4_2 rfl rfl (by omega) (by omega) ⟨by omega, by omega⟩ rfl (fun H5218 e5219 w5220 => ?_))
                            have f5221 := f5214.put' e5219 g0 rfl
                            have f5222 := f5215.put' e5219 g0 rfl
                            have f5223 := f5216.put' e5219 g0 rfl
                            have k5224 : H5218 r0 2 = v5191 := wq_u_s e5219
                            exact wp_return e16 c16_285 rfl ⟨rfl, w5220, f5221, rfl⟩
                          · refine wp_of e16 c16_234 (rw_aload_n (pc' := 235) (v := .ref r0) rfl rfl rfl ?_)
                            refine wp_of e16 c16_235 (rw_aload_n (pc' := 236) (v := .ref r0) rfl rfl rfl ?_)
                            have k5225 : H5192 r0 0 = H r0 0 := ((f5194 r0 0 _ g0 rfl).trans ((wq_u_j e5132 rfl).trans ((f5120 r0 0 _ g0 rfl).trans ((wq_u_j e5063 rfl).trans (wq_u_j e5058 rfl)))))
                            have q5226 : H5192 r0 0 = (rb : Int) := k5225.trans qrb
                            refine wp_of e16 c16_236 (xg_K (pc' := 239) lf_2_7 w5193 g0 sh_4 (by decide) (by decide) rfl q5226 rfl ?_)
                            refine wp_of e16 c16_239 (rw_iload_n (pc' := 240) (z := v5191) rfl rfl ?_)
                            refine wp_of e16 c16_240 (xa_B (by decide) (pc' := 241) w5193 grb sh_2 (by decide) (ty_2 _) (by omega) (by omega) rfl (fun b5227 b5228 => ?_))
                            refine wp_of e16 c16_241 (rw_bipush (pc' := 243) (z := 59) rfl (by decide) ?_)
                            refine wp_of e16 c16_243 (rw_icmp_ne (p1 := 250) (p2 := 246) (by decide) rfl ⟨by omega, by omega⟩ ⟨by omega, by omega⟩ (fun c5229 => ?_) (fun c5229 => ?_))
                            · refine wp_of e16 c16_250 (rw_aload_n (pc' := 251) (v := .ref r0) rfl rfl rfl ?_)
                              refine wp_of e16 c16_251 (xg_K (pc' := 254) lf_2_7 w5193 g0 sh_4 (by decide) (by decide) rfl q5226 rfl ?_)
                              refine wp_of e16 c16_254 (rw_iload_n (pc' := 255) (z := v5191) rfl rfl ?_)
                              refine wp_of e16 c16_255 (xa_B (by decide) (pc' := 256) w5193 grb sh_2 (by decide) (ty_2 _) (by omega) (by omega) rfl (fun b5230 b5231 => ?_))
                              refine wp_of e16 c16_256 (rw_bipush (pc' := 258) (z := 44) rfl (by decide) ?_)
                              refine wp_of e16 c16_258 (rw_icmp_ne (p1 := 265) (p2 := 261) (by decide) rfl ⟨by omega, by omega⟩ ⟨by omega, by omega⟩ (fun c5232 => ?_) (fun c5232 => ?_))
                              · refine wp_of e16 c16_265 (rw_iconst (pc' := 266) rfl ?_)
                                refine wp_of e16 c16_266 (xp_I (pc' := 269) lf_2_41 w5193 g0 sh_4 (by decide) (by decide) ty_4_3 rfl rfl (by omega) (by omega) ⟨by omega, by omega⟩ rfl (fun H5233 e5234 w5235 => ?_))
                                have f5236 := f5197.put' e5234 g0 rfl
                                have f5237 := f5198.put' e5234 g0 rfl
                                have f5238 := f5194.put' e5234 g0 rfl
                                have k5239 : H5233 r0 3 = 5 := wq_u_s e5234
                                refine wp_of e16 c16_269 (rw_iinc (pc' := 272) (z := v5191) (L' := [(1, vI (v5191 + 1)), (3, vI ((v5191 - (H5192 r0 4)) - (v5117 - (H5118 r0 4)))), (2, vI (v5117 - (H5118 r0 4))), (0, .ref r0)]) rfl rfl rfl rfl ?_)
                                refine wp_of e16 c16_272 (rw_goto (p1 := 280) (by decide) ?_)
                                refine wp_of e16 c16_280 (rw_aload_n (pc' := 281) (v := .ref r0) rfl rfl rfl ?_)
                                refine wp_of e16 c16_281 (rw_iload_n (pc' := 282) (z := v5191 + 1) rfl rfl ?_)
                                refine wp_of e16 c16_282 (xp_I (pc' := 285) lf_2_23 w5235 g0 sh_4 (by decide) (by decide) ty_4_2 rfl rfl (by omega) (by omega) ⟨by omega, by omega⟩ rfl (fun H5240 e5241 w5242 => ?_))
                                have f5243 := f5236.put' e5241 g0 rfl
                                have f5244 := f5237.put' e5241 g0 rfl
                                have f5245 := f5238.put' e5241 g0 rfl
                                have k5246 : H5240 r0 2 = v5191 + 1 := wq_u_s e5241
                                exact wp_return e16 c16_285 rfl ⟨rfl, w5242, f5243, rfl⟩
                              · refine wp_of e16 c16_261 (rw_iconst (pc' := 262) rfl ?_)
                                refine wp_of e16 c16_262 (rw_goto (p1 := 266) (by decide) ?_)
                                refine wp_of e16 c16_266 (xp_I (pc' := 269) lf_2_41 w5193 g0 sh_4 (by decide) (by decide) ty_4_3 rfl rfl (by omega) (by omega) ⟨by omega, by omega⟩ rfl (fun H5247 e5248 w5249 => ?_))
                                have f5250 := f5197.put' e5248 g0 rfl
                                have f5251 := f5198.put' e5248 g0 rfl
                                have f5252 := f5194.put' e5248 g0 rfl
                                have k5253 : H5247 r0 3 = 4 := wq_u_s e5248
                                refine wp_of e16 c16_269 (rw_iinc (pc' := 272) (z := v5191) (L' := [(1, vI (v5191 + 1)), (3, vI ((v5191 - (H5192 r0 4)) - (v5117 - (H5118 r0 4)))), (2, vI (v5117 - (H5118 r0 4))), (0, .ref r0)]) rfl rfl rfl rfl ?_)
                                refine wp_of e16 c16_272 (rw_goto (p1 := 280) (by decide) ?_)
                                refine wp_of e16 c16_280 (rw_aload_n (pc' := 281) (v := .ref r0) rfl rfl rfl ?_)
                                refine wp_of e16 c16_281 (rw_iload_n (pc' := 282) (z := v5191 + 1) rfl rfl ?_)
                                refine wp_of e16 c16_282 (xp_I (pc' := 285) lf_2_23 w5249 g0 sh_4 (by decide) (by decide) ty_4_2 rfl rfl (by omega) (by omega) ⟨by omega, by omega⟩ rfl (fun H5254 e5255 w5256 => ?_))
                                have f5257 := f5250.put' e5255 g0 rfl
                                have f5258 := f5251.put' e5255 g0 rfl
                                have f5259 := f5252.put' e5255 g0 rfl
                                have k5260 : H5254 r0 2 = v5191 + 1 := wq_u_s e5255
                                exact wp_return e16 c16_285 rfl ⟨rfl, w5256, f5257, rfl⟩
                            · refine wp_of e16 c16_246 (rw_iconst (pc' := 247) rfl ?_)
                              refine wp_of e16 c16_247 (rw_goto (p1 := 266) (by decide) ?_)
                              refine wp_of e16 c16_266 (xp_I (pc' := 269) lf_2_41 w5193 g0 sh_4 (by decide) (by decide) ty_4_3 rfl rfl (by omega) (by omega) ⟨by omega, by omega⟩ rfl (fun H5261 e5262 w5263 => ?_))
                              have f5264 := f5197.put' e5262 g0 rfl
                              have f5265 := f5198.put' e5262 g0 rfl
                              have f5266 := f5194.put' e5262 g0 rfl
                              have k5267 : H5261 r0 3 = 3 := wq_u_s e5262
                              refine wp_of e16 c16_269 (rw_iinc (pc' := 272) (z := v5191) (L' := [(1, vI (v5191 + 1)), (3, vI ((v5191 - (H5192 r0 4)) - (v5117 - (H5118 r0 4)))), (2, vI (v5117 - (H5118 r0 4))), (0, .ref r0)]) rfl rfl rfl rfl ?_)
                              refine wp_of e16 c16_272 (rw_goto (p1 := 280) (by decide) ?_)
                              refine wp_of e16 c16_280 (rw_aload_n (pc' := 281) (v := .ref r0) rfl rfl rfl ?_)
                              refine wp_of e16 c16_281 (rw_iload_n (pc' := 282) (z := v5191 + 1) rfl rfl ?_)
                              refine wp_of e16 c16_282 (xp_I (pc' := 285) lf_2_23 w5263 g0 sh_4 (by decide) (by decide) ty_4_2 rfl rfl (by omega) (by omega) ⟨by omega, by omega⟩ rfl (fun H5268 e5269 w5270 => ?_))
                              have f5271 := f5264.put' e5269 g0 rfl
                              have f5272 := f5265.put' e5269 g0 rfl
                              have f5273 := f5266.put' e5269 g0 rfl
                              have k5274 : H5268 r0 2 = v5191 + 1 := wq_u_s e5269
                              exact wp_return e16 c16_285 rfl ⟨rfl, w5270, f5271, rfl⟩
                        · refine wp_of e16 c16_209 (rw_aload_n (pc' := 210) (v := .ref r0) rfl rfl rfl ?_)
                          refine wp_of e16 c16_210 (rw_iload_n (pc' := 211) (z := (v5191 - (H5192 r0 4)) - (v5117 - (H5118 r0 4))) rfl rfl ?_)
                          refine wp_of e16 c16_211 (rw_iconst (pc' := 212) rfl ?_)
                          refine wp_of e16 c16_212 (rw_icmp_gt (p1 := 219) (p2 := 215) (by decide) rfl ⟨by omega, by omega⟩ ⟨by omega, by omega⟩ (fun c5275 => ?_) (fun c5275 => ?_))
                          · refine wp_of e16 c16_219 (rw_iconst (pc' := 220) rfl ?_)
                            refine wp_of e16 c16_220 (xp_I (pc' := 223) lf_2_41 w5193 g0 sh_4 (by decide) (by decide) ty_4_3 rfl rfl (by omega) (by omega) ⟨by omega, by omega⟩ rfl (fun H5276 e5277 w5278 => ?_))
                            have f5279 := f5197.put' e5277 g0 rfl
                            have f5280 := f5198.put' e5277 g0 rfl
                            have f5281 := f5194.put' e5277 g0 rfl
                            have k5282 : H5276 r0 3 = 5 := wq_u_s e5277
                            refine wp_of e16 c16_223 (rw_goto (p1 := 280) (by decide) ?_)
                            refine wp_of e16 c16_280 (rw_aload_n (pc' := 281) (v := .ref r0) rfl rfl rfl ?_)
                            refine wp_of e16 c16_281 (rw_iload_n (pc' := 282) (z := v5191) rfl rfl ?_)
                            refine wp_of e16 c16_282 (xp_I (pc' := 285) lf_2_23 w5278 g0 sh_4 (by decide) (by decide) ty_4_2 rfl rfl (by omega) (by omega) ⟨by omega, by omega⟩ rfl (fun H5283 e5284 w5285 => ?_))
                            have f5286 := f5279.put' e5284 g0 rfl
                            have f5287 := f5280.put' e5284 g0 rfl
                            have f5288 := f5281.put' e5284 g0 rfl
                            have k5289 : H5283 r0 2 = v5191 := wq_u_s e5284
                            exact wp_return e16 c16_285 rfl ⟨rfl, w5285, f5286, rfl⟩
                          · refine wp_of e16 c16_215 (rw_iconst (pc' := 216) rfl ?_)
                            refine wp_of e16 c16_216 (rw_goto (p1 := 220) (by decide) ?_)
                            refine wp_of e16 c16_220 (xp_I (pc' := 223) lf_2_41 w5193 g0 sh_4 (by decide) (by decide) ty_4_3 rfl rfl (by omega) (by omega) ⟨by omega, by omega⟩ rfl (fun H5290 e5291 w5292 => ?_))
                            have f5293 := f5197.put' e5291 g0 rfl
                            have f5294 := f5198.put' e5291 g0 rfl
                            have f5295 := f5194.put' e5291 g0 rfl
                            have k5296 : H5290 r0 3 = 2 := wq_u_s e5291
                            refine wp_of e16 c16_223 (rw_goto (p1 := 280) (by decide) ?_)
                            refine wp_of e16 c16_280 (rw_aload_n (pc' := 281) (v := .ref r0) rfl rfl rfl ?_)
                            refine wp_of e16 c16_281 (rw_iload_n (pc' := 282) (z := v5191) rfl rfl ?_)
                            refine wp_of e16 c16_282 (xp_I (pc' := 285) lf_2_23 w5292 g0 sh_4 (by decide) (by decide) ty_4_2 rfl rfl (by omega) (by omega) ⟨by omega, by omega⟩ rfl (fun H5297 e5298 w5299 => ?_))
                            have f5300 := f5293.put' e5298 g0 rfl
                            have f5301 := f5294.put' e5298 g0 rfl
                            have f5302 := f5295.put' e5298 g0 rfl
                            have k5303 : H5297 r0 2 = v5191 := wq_u_s e5298
                            exact wp_return e16 c16_285 rfl ⟨rfl, w5299, f5300, rfl⟩
                      · refine wp_of e16 c16_187 (rw_aload_n (pc' := 188) (v := .ref r0) rfl rfl rfl ?_)
                        refine wp_of e16 c16_188 (rw_iload_n (pc' := 189) (z := v5117 - (H5118 r0 4)) rfl rfl ?_)
                        refine wp_of e16 c16_189 (rw_bipush (pc' := 191) (z := 8) rfl (by decide) ?_)
                        refine wp_of e16 c16_191 (rw_icmp_gt (p1 := 198) (p2 := 194) (by decide) rfl ⟨by omega, by omega⟩ ⟨by omega, by omega⟩ (fun c5304 => ?_) (fun c5304 => ?_))
                        · refine wp_of e16 c16_198 (rw_iconst (pc' := 199) rfl ?_)
                          refine wp_of e16 c16_199 (xp_I (pc' := 202) lf_2_41 w5193 g0 sh_4 (by decide) (by decide) ty_4_3 rfl rfl (by omega) (by omega) ⟨by omega, by omega⟩ rfl (fun H5305 e5306 w5307 => ?_))
                          have f5308 := f5197.put' e5306 g0 rfl
                          have f5309 := f5198.put' e5306 g0 rfl
                          have f5310 := f5194.put' e5306 g0 rfl
                          have k5311 : H5305 r0 3 = 5 := wq_u_s e5306
                          refine wp_of e16 c16_202 (rw_goto (p1 := 280) (by decide) ?_)
                          refine wp_of e16 c16_280 (rw_aload_n (pc' := 281) (v := .ref r0) rfl rfl rfl ?_)
                          refine wp_of e16 c16_281 (rw_iload_n (pc' := 282) (z := v5191) rfl rfl ?_)
                          refine wp_of e16 c16_282 (xp_I (pc' := 285) lf_2_23 w5307 g0 sh_4 (by decide) (by decide) ty_4_2 rfl rfl (by omega) (by omega) ⟨by omega, by omega⟩ rfl (fun H5312 e5313 w5314 => ?_))
                          have f5315 := f5308.put' e5313 g0 rfl
                          have f5316 := f5309.put' e5313 g0 rfl
                          have f5317 := f5310.put' e5313 g0 rfl
                          have k5318 : H5312 r0 2 = v5191 := wq_u_s e5313
                          exact wp_return e16 c16_285 rfl ⟨rfl, w5314, f5315, rfl⟩
                        · refine wp_of e16 c16_194 (rw_iconst (pc' := 195) rfl ?_)
                          refine wp_of e16 c16_195 (rw_goto (p1 := 199) (by decide) ?_)
                          refine wp_of e16 c16_199 (xp_I (pc' := 202) lf_2_41 w5193 g0 sh_4 (by decide) (by decide) ty_4_3 rfl rfl (by omega) (by omega) ⟨by omega, by omega⟩ rfl (fun H5319 e5320 w5321 => ?_))
                          have f5322 := f5197.put' e5320 g0 rfl
                          have f5323 := f5198.put' e5320 g0 rfl
                          have f5324 := f5194.put' e5320 g0 rfl
                          have k5325 : H5319 r0 3 = 1 := wq_u_s e5320
                          refine wp_of e16 c16_202 (rw_goto (p1 := 280) (by decide) ?_)
                          refine wp_of e16 c16_280 (rw_aload_n (pc' := 281) (v := .ref r0) rfl rfl rfl ?_)
                          refine wp_of e16 c16_281 (rw_iload_n (pc' := 282) (z := v5191) rfl rfl ?_)
                          refine wp_of e16 c16_282 (xp_I (pc' := 285) lf_2_23 w5321 g0 sh_4 (by decide) (by decide) ty_4_2 rfl rfl (by omega) (by omega) ⟨by omega, by omega⟩ rfl (fun H5326 e5327 w5328 => ?_))
                          have f5329 := f5322.put' e5327 g0 rfl
                          have f5330 := f5323.put' e5327 g0 rfl
                          have f5331 := f5324.put' e5327 g0 rfl
                          have k5332 : H5326 r0 2 = v5191 := wq_u_s e5327
                          exact wp_return e16 c16_285 rfl ⟨rfl, w5328, f5329, rfl⟩
                    · refine wp_of e16 c16_121 (rw_iload_n (pc' := 122) (z := v5117 - (H5118 r0 4)) rfl rfl ?_)
                      refine wp_of e16 c16_122 (rw_if_ne (p1 := 174) (p2 := 125) (by decide) rfl ⟨by omega, by omega⟩ (fun c5333 => ?_) (fun c5333 => ?_))
                      · refine wp_of e16 c16_174 (rw_iload_n (pc' := 175) (z := v5191) rfl rfl ?_)
                        refine wp_of e16 c16_175 (rw_aload_n (pc' := 176) (v := .ref r0) rfl rfl rfl ?_)
                        have k5334 : H5192 r0 4 = H5118 r0 4 := ((f5194 r0 4 _ g0 rfl).trans (wq_u_j e5132 rfl))
                        refine wp_of e16 c16_176 (xg_I (pc' := 179) lf_2_29 w5193 g0 sh_4 (by decide) (by decide) ty_4_4 rfl rfl (fun b5335 b5336 => ?_))
                        refine wp_of e16 c16_179 (rw_isub (pc' := 180) rfl ?_)
                        refine wp_of e16 c16_180 (rw_iload_n (pc' := 181) (z := v5117 - (H5118 r0 4)) rfl rfl ?_)
                        refine wp_of e16 c16_181 (rw_isub (pc' := 182) rfl ?_)
                        refine wp_of e16 c16_182 (rw_istore_n (pc' := 183) (z := (v5191 - (H5192 r0 4)) - (v5117 - (H5118 r0 4))) (L' := [(3, vI ((v5191 - (H5192 r0 4)) - (v5117 - (H5118 r0 4)))), (1, vI v5191), (2, vI (v5117 - (H5118 r0 4))), (0, .ref r0)]) rfl rfl rfl ?_)
                        refine wp_of e16 c16_183 (rw_iload_n (pc' := 184) (z := v5117 - (H5118 r0 4)) rfl rfl ?_)
                        refine wp_of e16 c16_184 (rw_if_le (p1 := 205) (p2 := 187) (by decide) rfl ⟨by omega, by omega⟩ (fun c5337 => ?_) (fun c5337 => ?_))
                        · refine wp_of e16 c16_205 (rw_iload_n (pc' := 206) (z := (v5191 - (H5192 r0 4)) - (v5117 - (H5118 r0 4))) rfl rfl ?_)
                          refine wp_of e16 c16_206 (rw_if_le (p1 := 226) (p2 := 209) (by decide) rfl ⟨by omega, by omega⟩ (fun c5338 => ?_) (fun c5338 => ?_))
                          · refine wp_of e16 c16_226 (rw_iload_n (pc' := 227) (z := v5191) rfl rfl ?_)
                            refine wp_of e16 c16_227 (rw_aload_n (pc' := 228) (v := .ref r0) rfl rfl rfl ?_)
                            refine wp_of e16 c16_228 (xg_I (pc' := 231) lf_2_19 w5193 g0 sh_4 (by decide) (by decide) ty_4_1 rfl rfl (fun b5339 b5340 => ?_))
                            refine wp_of e16 c16_231 (rw_icmp_ge (p1 := 275) (p2 := 234) (by decide) rfl ⟨by omega, by omega⟩ ⟨by omega, by omega⟩ (fun c5341 => ?_) (fun c5341 => ?_))
                            · refine wp_of e16 c16_275 (rw_aload_n (pc' := 276) (v := .ref r0) rfl rfl rfl ?_)
                              refine wp_of e16 c16_276 (rw_iconst (pc' := 277) rfl ?_)
                              refine wp_of e16 c16_277 (xp_I (pc' := 280) lf_2_41 w5193 g0 sh_4 (by decide) (by decide) ty_4_3 rfl rfl (by omega) (by omega) ⟨by omega, by omega⟩ rfl (fun H5342 e5343 w5344 => ?_))
                              have f5345 := f5197.put' e5343 g0 rfl
                              have f5346 := f5198.put' e5343 g0 rfl
                              have f5347 := f5194.put' e5343 g0 rfl
                              have k5348 : H5342 r0 3 = 0 := wq_u_s e5343
                              refine wp_of e16 c16_280 (rw_aload_n (pc' := 281) (v := .ref r0) rfl rfl rfl ?_)
                              refine wp_of e16 c16_281 (rw_iload_n (pc' := 282) (z := v5191) rfl rfl ?_)
                              refine wp_of e16 c16_282 (xp_I (pc' := 285) lf_2_23 w5344 g0 sh_4 (by decide) (by decide) ty_4_2 rfl rfl (by omega) (by omega) ⟨by omega, by omega⟩ rfl (fun H5349 e5350 w5351 => ?_))
                              have f5352 := f5345.put' e5350 g0 rfl
                              have f5353 := f5346.put' e5350 g0 rfl
                              have f5354 := f5347.put' e5350 g0 rfl
                              have k5355 : H5349 r0 2 = v5191 := wq_u_s e5350
                              exact wp_return e16 c16_285 rfl ⟨rfl, w5351, f5352, rfl⟩
                            · refine wp_of e16 c16_234 (rw_aload_n (pc' := 235) (v := .ref r0) rfl rfl rfl ?_)
                              refine wp_of e16 c16_235 (rw_aload_n (pc' := 236) (v := .ref r0) rfl rfl rfl ?_)
                              have k5356 : H5192 r0 0 = H r0 0 := ((f5194 r0 0 _ g0 rfl).trans ((wq_u_j e5132 rfl).trans ((f5120 r0 0 _ g0 rfl).trans ((wq_u_j e5063 rfl).trans (wq_u_j e5058 rfl)))))
                              have q5357 : H5192 r0 0 = (rb : Int) := k5356.trans qrb
                              refine wp_of e16 c16_236 (xg_K (pc' := 239) lf_2_7 w5193 g0 sh_4 (by decide) (by decide) rfl q5357 rfl ?_)
                              refine wp_of e16 c16_239 (rw_iload_n (pc' := 240) (z := v5191) rfl rfl ?_)
                              refine wp_of e16 c16_240 (xa_B (by decide) (pc' := 241) w5193 grb sh_2 (by decide) (ty_2 _) (by omega) (by omega) rfl (fun b5358 b5359 => ?_))
                              refine wp_of e16 c16_241 (rw_bipush (pc' := 243) (z := 59) rfl (by decide) ?_)
                              refine wp_of e16 c16_243 (rw_icmp_ne (p1 := 250) (p2 := 246) (by decide) rfl ⟨by omega, by omega⟩ ⟨by omega, by omega⟩ (fun c5360 => ?_) (fun c5360 => ?_))
                              · refine wp_of e16 c16_250 (rw_aload_n (pc' := 251) (v := .ref r0) rfl rfl rfl ?_)
                                refine wp_of e16 c16_251 (xg_K (pc' := 254) lf_2_7 w5193 g0 sh_4 (by decide) (by decide) rfl q5357 rfl ?_)
                                refine wp_of e16 c16_254 (rw_iload_n (pc' := 255) (z := v5191) rfl rfl ?_)
                                refine wp_of e16 c16_255 (xa_B (by decide) (pc' := 256) w5193 grb sh_2 (by decide) (ty_2 _) (by omega) (by omega) rfl (fun b5361 b5362 => ?_))
                                refine wp_of e16 c16_256 (rw_bipush (pc' := 258) (z := 44) rfl (by decide) ?_)
                                refine wp_of e16 c16_258 (rw_icmp_ne (p1 := 265) (p2 := 261) (by decide) rfl ⟨by omega, by omega⟩ ⟨by omega, by omega⟩ (fun c5363 => ?_) (fun c5363 => ?_))
                                · refine wp_of e16 c16_265 (rw_iconst (pc' := 266) rfl ?_)
                                  refine wp_of e16 c16_266 (xp_I (pc' := 269) lf_2_41 w5193 g0 sh_4 (by decide) (by decide) ty_4_3 rfl rfl (by omega) (by omega) ⟨by omega, by omega⟩ rfl (fun H5364 e5365 w5366 => ?_))
                                  have f5367 := f5197.put' e5365 g0 rfl
                                  have f5368 := f5198.put' e5365 g0 rfl
                                  have f5369 := f5194.put' e5365 g0 rfl
                                  have k5370 : H5364 r0 3 = 5 := wq_u_s e5365
                                  refine wp_of e16 c16_269 (rw_iinc (pc' := 272) (z := v5191) (L' := [(1, vI (v5191 + 1)), (3, vI ((v5191 - (H5192 r0 4)) - (v5117 - (H5118 r0 4)))), (2, vI (v5117 - (H5118 r0 4))), (0, .ref r0)]) rfl rfl rfl rfl ?_)
                                  refine wp_of e16 c16_272 (rw_goto (p1 := 280) (by decide) ?_)
                                  refine wp_of e16 c16_280 (rw_aload_n (pc' := 281) (v := .ref r0) rfl rfl rfl ?_)
                                  refine wp_of e16 c16_281 (rw_iload_n (pc' := 282) (z := v5191 + 1) rfl rfl ?_)
                                  refine wp_of e16 c16_282 (xp_I (pc' := 285) lf_2_23 w5366 g0 sh_4 (by decide) (by decide) ty_4_2 rfl rfl (by omega) (by omega) ⟨by omega, by omega⟩ rfl (fun H5371 e5372 w5373 => ?_))
                                  have f5374 := f5367.put' e5372 g0 rfl
                                  have f5375 := f5368.put' e5372 g0 rfl
                                  have f5376 := f5369.put' e5372 g0 rfl
                                  have k5377 : H5371 r0 2 = v5191 + 1 := wq_u_s e5372
                                  exact wp_return e16 c16_285 rfl ⟨rfl, w5373, f5374, rfl⟩
                                · refine wp_of e16 c16_261 (rw_iconst (pc' := 262) rfl ?_)
                                  refine wp_of e16 c16_262 (rw_goto (p1 := 266) (by decide) ?_)
                                  refine wp_of e16 c16_266 (xp_I (pc' := 269) lf_2_41 w5193 g0 sh_4 (by decide) (by decide) ty_4_3 rfl rfl (by omega) (by omega) ⟨by omega, by omega⟩ rfl (fun H5378 e5379 w5380 => ?_))
                                  have f5381 := f5197.put' e5379 g0 rfl
                                  have f5382 := f5198.put' e5379 g0 rfl
                                  have f5383 := f5194.put' e5379 g0 rfl
                                  have k5384 : H5378 r0 3 = 4 := wq_u_s e5379
                                  refine wp_of e16 c16_269 (rw_iinc (pc' := 272) (z := v5191) (L' := [(1, vI (v5191 + 1)), (3, vI ((v5191 - (H5192 r0 4)) - (v5117 - (H5118 r0 4)))), (2, vI (v5117 - (H5118 r0 4))), (0, .ref r0)]) rfl rfl rfl rfl ?_)
                                  refine wp_of e16 c16_272 (rw_goto (p1 := 280) (by decide) ?_)
                                  refine wp_of e16 c16_280 (rw_aload_n (pc' := 281) (v := .ref r0) rfl rfl rfl ?_)
                                  refine wp_of e16 c16_281 (rw_iload_n (pc' := 282) (z := v5191 + 1) rfl rfl ?_)
                                  refine wp_of e16 c16_282 (xp_I (pc' := 285) lf_2_23 w5380 g0 sh_4 (by decide) (by decide) ty_4_2 rfl rfl (by omega) (by omega) ⟨by omega, by omega⟩ rfl (fun H5385 e5386 w5387 => ?_))
                                  have f5388 := f5381.put' e5386 g0 rfl
                                  have f5389 := f5382.put' e5386 g0 rfl
                                  have f5390 := f5383.put' e5386 g0 rfl
                                  have k5391 : H5385 r0 2 = v5191 + 1 := wq_u_s e5386
                                  exact wp_return e16 c16_285 rfl ⟨rfl, w5387, f5388, rfl⟩
                              · refine wp_of e16 c16_246 (rw_iconst (pc' := 247) rfl ?_)
                                refine wp_of e16 c16_247 (rw_goto (p1 := 266) (by decide) ?_)
                                refine wp_of e16 c16_266 (xp_I (pc' := 269) lf_2_41 w5193 g0 sh_4 (by decide) (by decide) ty_4_3 rfl rfl (by omega) (by omega) ⟨by omega, by omega⟩ rfl (fun H5392 e5393 w5394 => ?_))
                                have f5395 := f5197.put' e5393 g0 rfl
                                have f5396 := f5198.put' e5393 g0 rfl
                                have f5397 := f5194.put' e5393 g0 rfl
                                have k5398 : H5392 r0 3 = 3 := wq_u_s e5393
                                refine wp_of e16 c16_269 (rw_iinc (pc' := 272) (z := v5191) (L' := [(1, vI (v5191 + 1)), (3, vI ((v5191 - (H5192 r0 4)) - (v5117 - (H5118 r0 4)))), (2, vI (v5117 - (H5118 r0 4))), (0, .ref r0)]) rfl rfl rfl rfl ?_)
                                refine wp_of e16 c16_272 (rw_goto (p1 := 280) (by decide) ?_)
                                refine wp_of e16 c16_280 (rw_aload_n (pc' := 281) (v := .ref r0) rfl rfl rfl ?_)
                                refine wp_of e16 c16_281 (rw_iload_n (pc' := 282) (z := v5191 + 1) rfl rfl ?_)
                                refine wp_of e16 c16_282 (xp_I (pc' := 285) lf_2_23 w5394 g0 sh_4 (by decide) (by decide) ty_4_2 rfl rfl (by omega) (by omega) ⟨by omega, by omega⟩ rfl (fun H5399 e5400 w5401 => ?_))
                                have f5402 := f5395.put' e5400 g0 rfl
                                have f5403 := f5396.put' e5400 g0 rfl
                                have f5404 := f5397.put' e5400 g0 rfl
                                have k5405 : H5399 r0 2 = v5191 + 1 := wq_u_s e5400
                                exact wp_return e16 c16_285 rfl ⟨rfl, w5401, f5402, rfl⟩
                          · refine wp_of e16 c16_209 (rw_aload_n (pc' := 210) (v := .ref r0) rfl rfl rfl ?_)
                            refine wp_of e16 c16_210 (rw_iload_n (pc' := 211) (z := (v5191 - (H5192 r0 4)) - (v5117 - (H5118 r0 4))) rfl rfl ?_)
                            refine wp_of e16 c16_211 (rw_iconst (pc' := 212) rfl ?_)
                            refine wp_of e16 c16_212 (rw_icmp_gt (p1 := 219) (p2 := 215) (by decide) rfl ⟨by omega, by omega⟩ ⟨by omega, by omega⟩ (fun c5406 => ?_) (fun c5406 => ?_))
                            · refine wp_of e16 c16_219 (rw_iconst (pc' := 220) rfl ?_)
                              refine wp_of e16 c16_220 (xp_I (pc' := 223) lf_2_41 w5193 g0 sh_4 (by decide) (by decide) ty_4_3 rfl rfl (by omega) (by omega) ⟨by omega, by omega⟩ rfl (fun H5407 e5408 w5409 => ?_))
                              have f5410 := f5197.put' e5408 g0 rfl
                              have f5411 := f5198.put' e5408 g0 rfl
                              have f5412 := f5194.put' e5408 g0 rfl
                              have k5413 : H5407 r0 3 = 5 := wq_u_s e5408
                              refine wp_of e16 c16_223 (rw_goto (p1 := 280) (by decide) ?_)
                              refine wp_of e16 c16_280 (rw_aload_n (pc' := 281) (v := .ref r0) rfl rfl rfl ?_)
                              refine wp_of e16 c16_281 (rw_iload_n (pc' := 282) (z := v5191) rfl rfl ?_)
                              refine wp_of e16 c16_282 (xp_I (pc' := 285) lf_2_23 w5409 g0 sh_4 (by decide) (by decide) ty_4_2 rfl rfl (by omega) (by omega) ⟨by omega, by omega⟩ rfl (fun H5414 e5415 w5416 => ?_))
                              have f5417 := f5410.put' e5415 g0 rfl
                              have f5418 := f5411.put' e5415 g0 rfl
                              have f5419 := f5412.put' e5415 g0 rfl
                              have k5420 : H5414 r0 2 = v5191 := wq_u_s e5415
                              exact wp_return e16 c16_285 rfl ⟨rfl, w5416, f5417, rfl⟩
                            · refine wp_of e16 c16_215 (rw_iconst (pc' := 216) rfl ?_)
                              refine wp_of e16 c16_216 (rw_goto (p1 := 220) (by decide) ?_)
                              refine wp_of e16 c16_220 (xp_I (pc' := 223) lf_2_41 w5193 g0 sh_4 (by decide) (by decide) ty_4_3 rfl rfl (by omega) (by omega) ⟨by omega, by omega⟩ rfl (fun H5421 e5422 w5423 => ?_))
                              have f5424 := f5197.put' e5422 g0 rfl
                              have f5425 := f5198.put' e5422 g0 rfl
                              have f5426 := f5194.put' e5422 g0 rfl
                              have k5427 : H5421 r0 3 = 2 := wq_u_s e5422
                              refine wp_of e16 c16_223 (rw_goto (p1 := 280) (by decide) ?_)
                              refine wp_of e16 c16_280 (rw_aload_n (pc' := 281) (v := .ref r0) rfl rfl rfl ?_)
                              refine wp_of e16 c16_281 (rw_iload_n (pc' := 282) (z := v5191) rfl rfl ?_)
                              refine wp_of e16 c16_282 (xp_I (pc' := 285) lf_2_23 w5423 g0 sh_4 (by decide) (by decide) ty_4_2 rfl rfl (by omega) (by omega) ⟨by omega, by omega⟩ rfl (fun H5428 e5429 w5430 => ?_))
                              have f5431 := f5424.put' e5429 g0 rfl
                              have f5432 := f5425.put' e5429 g0 rfl
                              have f5433 := f5426.put' e5429 g0 rfl
                              have k5434 : H5428 r0 2 = v5191 := wq_u_s e5429
                              exact wp_return e16 c16_285 rfl ⟨rfl, w5430, f5431, rfl⟩
                        · refine wp_of e16 c16_187 (rw_aload_n (pc' := 188) (v := .ref r0) rfl rfl rfl ?_)
                          refine wp_of e16 c16_188 (rw_iload_n (pc' := 189) (z := v5117 - (H5118 r0 4)) rfl rfl ?_)
                          refine wp_of e16 c16_189 (rw_bipush (pc' := 191) (z := 8) rfl (by decide) ?_)
                          refine wp_of e16 c16_191 (rw_icmp_gt (p1 := 198) (p2 := 194) (by decide) rfl ⟨by omega, by omega⟩ ⟨by omega, by omega⟩ (fun c5435 => ?_) (fun c5435 => ?_))
                          · refine wp_of e16 c16_198 (rw_iconst (pc' := 199) rfl ?_)
                            refine wp_of e16 c16_199 (xp_I (pc' := 202) lf_2_41 w5193 g0 sh_4 (by decide) (by decide) ty_4_3 rfl rfl (by omega) (by omega) ⟨by omega, by omega⟩ rfl (fun H5436 e5437 w5438 => ?_))
                            have f5439 := f5197.put' e5437 g0 rfl
                            have f5440 := f5198.put' e5437 g0 rfl
                            have f5441 := f5194.put' e5437 g0 rfl
                            have k5442 : H5436 r0 3 = 5 := wq_u_s e5437
                            refine wp_of e16 c16_202 (rw_goto (p1 := 280) (by decide) ?_)
                            refine wp_of e16 c16_280 (rw_aload_n (pc' := 281) (v := .ref r0) rfl rfl rfl ?_)
                            refine wp_of e16 c16_281 (rw_iload_n (pc' := 282) (z := v5191) rfl rfl ?_)
                            refine wp_of e16 c16_282 (xp_I (pc' := 285) lf_2_23 w5438 g0 sh_4 (by decide) (by decide) ty_4_2 rfl rfl (by omega) (by omega) ⟨by omega, by omega⟩ rfl (fun H5443 e5444 w5445 => ?_))
                            have f5446 := f5439.put' e5444 g0 rfl
                            have f5447 := f5440.put' e5444 g0 rfl
                            have f5448 := f5441.put' e5444 g0 rfl
                            have k5449 : H5443 r0 2 = v5191 := wq_u_s e5444
                            exact wp_return e16 c16_285 rfl ⟨rfl, w5445, f5446, rfl⟩
                          · refine wp_of e16 c16_194 (rw_iconst (pc' := 195) rfl ?_)
                            refine wp_of e16 c16_195 (rw_goto (p1 := 199) (by decide) ?_)
                            refine wp_of e16 c16_199 (xp_I (pc' := 202) lf_2_41 w5193 g0 sh_4 (by decide) (by decide) ty_4_3 rfl rfl (by omega) (by omega) ⟨by omega, by omega⟩ rfl (fun H5450 e5451 w5452 => ?_))
                            have f5453 := f5197.put' e5451 g0 rfl
                            have f5454 := f5198.put' e5451 g0 rfl
                            have f5455 := f5194.put' e5451 g0 rfl
                            have k5456 : H5450 r0 3 = 1 := wq_u_s e5451
                            refine wp_of e16 c16_202 (rw_goto (p1 := 280) (by decide) ?_)
                            refine wp_of e16 c16_280 (rw_aload_n (pc' := 281) (v := .ref r0) rfl rfl rfl ?_)
                            refine wp_of e16 c16_281 (rw_iload_n (pc' := 282) (z := v5191) rfl rfl ?_)
                            refine wp_of e16 c16_282 (xp_I (pc' := 285) lf_2_23 w5452 g0 sh_4 (by decide) (by decide) ty_4_2 rfl rfl (by omega) (by omega) ⟨by omega, by omega⟩ rfl (fun H5457 e5458 w5459 => ?_))
                            have f5460 := f5453.put' e5458 g0 rfl
                            have f5461 := f5454.put' e5458 g0 rfl
                            have f5462 := f5455.put' e5458 g0 rfl
                            have k5463 : H5457 r0 2 = v5191 := wq_u_s e5458
                            exact wp_return e16 c16_285 rfl ⟨rfl, w5459, f5460, rfl⟩
                      · refine wp_of e16 c16_125 (rw_aload_n (pc' := 126) (v := .ref r0) rfl rfl rfl ?_)
                        have k5464 : H5192 r0 0 = H r0 0 := ((f5194 r0 0 _ g0 rfl).trans ((wq_u_j e5132 rfl).trans ((f5120 r0 0 _ g0 rfl).trans ((wq_u_j e5063 rfl).trans (wq_u_j e5058 rfl)))))
                        have q5465 : H5192 r0 0 = (rb : Int) := k5464.trans qrb
                        refine wp_of e16 c16_126 (xg_K (pc' := 129) lf_2_7 w5193 g0 sh_4 (by decide) (by decide) rfl q5465 rfl ?_)
                        refine wp_of e16 c16_129 (rw_iload_n (pc' := 130) (z := v5191) rfl rfl ?_)
                        refine wp_of e16 c16_130 (xa_B (by decide) (pc' := 131) w5193 grb sh_2 (by decide) (ty_2 _) (by omega) (by omega) rfl (fun b5466 b5467 => ?_))
                        refine wp_of e16 c16_131 (rw_bipush (pc' := 133) (z := 48) rfl (by decide) ?_)
                        refine wp_of e16 c16_133 (rw_icmp_lt (p1 := 174) (p2 := 136) (by decide) rfl ⟨by omega, by omega⟩ ⟨by omega, by omega⟩ (fun c5468 => ?_) (fun c5468 => ?_))
                        · refine wp_of e16 c16_174 (rw_iload_n (pc' := 175) (z := v5191) rfl rfl ?_)
                          refine wp_of e16 c16_175 (rw_aload_n (pc' := 176) (v := .ref r0) rfl rfl rfl ?_)
                          have k5469 : H5192 r0 4 = H5118 r0 4 := ((f5194 r0 4 _ g0 rfl).trans (wq_u_j e5132 rfl))
                          refine wp_of e16 c16_176 (xg_I (pc' := 179) lf_2_29 w5193 g0 sh_4 (by decide) (by decide) ty_4_4 rfl rfl (fun b5470 b5471 => ?_))
                          refine wp_of e16 c16_179 (rw_isub (pc' := 180) rfl ?_)
                          refine wp_of e16 c16_180 (rw_iload_n (pc' := 181) (z := v5117 - (H5118 r0 4)) rfl rfl ?_)
                          refine wp_of e16 c16_181 (rw_isub (pc' := 182) rfl ?_)
                          refine wp_of e16 c16_182 (rw_istore_n (pc' := 183) (z := (v5191 - (H5192 r0 4)) - (v5117 - (H5118 r0 4))) (L' := [(3, vI ((v5191 - (H5192 r0 4)) - (v5117 - (H5118 r0 4)))), (1, vI v5191), (2, vI (v5117 - (H5118 r0 4))), (0, .ref r0)]) rfl rfl rfl ?_)
                          refine wp_of e16 c16_183 (rw_iload_n (pc' := 184) (z := v5117 - (H5118 r0 4)) rfl rfl ?_)
                          refine wp_of e16 c16_184 (rw_if_le (p1 := 205) (p2 := 187) (by decide) rfl ⟨by omega, by omega⟩ (fun c5472 => ?_) (fun c5472 => ?_))
                          · refine wp_of e16 c16_205 (rw_iload_n (pc' := 206) (z := (v5191 - (H5192 r0 4)) - (v5117 - (H5118 r0 4))) rfl rfl ?_)
                            refine wp_of e16 c16_206 (rw_if_le (p1 := 226) (p2 := 209) (by decide) rfl ⟨by omega, by omega⟩ (fun c5473 => ?_) (fun c5473 => ?_))
                            · refine wp_of e16 c16_226 (rw_iload_n (pc' := 227) (z := v5191) rfl rfl ?_)
                              refine wp_of e16 c16_227 (rw_aload_n (pc' := 228) (v := .ref r0) rfl rfl rfl ?_)
                              refine wp_of e16 c16_228 (xg_I (pc' := 231) lf_2_19 w5193 g0 sh_4 (by decide) (by decide) ty_4_1 rfl rfl (fun b5474 b5475 => ?_))
                              refine wp_of e16 c16_231 (rw_icmp_ge (p1 := 275) (p2 := 234) (by decide) rfl ⟨by omega, by omega⟩ ⟨by omega, by omega⟩ (fun c5476 => ?_) (fun c5476 => ?_))
                              · refine wp_of e16 c16_275 (rw_aload_n (pc' := 276) (v := .ref r0) rfl rfl rfl ?_)
                                refine wp_of e16 c16_276 (rw_iconst (pc' := 277) rfl ?_)
                                refine wp_of e16 c16_277 (xp_I (pc' := 280) lf_2_41 w5193 g0 sh_4 (by decide) (by decide) ty_4_3 rfl rfl (by omega) (by omega) ⟨by omega, by omega⟩ rfl (fun H5477 e5478 w5479 => ?_))
                                have f5480 := f5197.put' e5478 g0 rfl
                                have f5481 := f5198.put' e5478 g0 rfl
                                have f5482 := f5194.put' e5478 g0 rfl
                                have k5483 : H5477 r0 3 = 0 := wq_u_s e5478
                                refine wp_of e16 c16_280 (rw_aload_n (pc' := 281) (v := .ref r0) rfl rfl rfl ?_)
                                refine wp_of e16 c16_281 (rw_iload_n (pc' := 282) (z := v5191) rfl rfl ?_)
                                refine wp_of e16 c16_282 (xp_I (pc' := 285) lf_2_23 w5479 g0 sh_4 (by decide) (by decide) ty_4_2 rfl rfl (by omega) (by omega) ⟨by omega, by omega⟩ rfl (fun H5484 e5485 w5486 => ?_))
                                have f5487 := f5480.put' e5485 g0 rfl
                                have f5488 := f5481.put' e5485 g0 rfl
                                have f5489 := f5482.put' e5485 g0 rfl
                                have k5490 : H5484 r0 2 = v5191 := wq_u_s e5485
                                exact wp_return e16 c16_285 rfl ⟨rfl, w5486, f5487, rfl⟩
                              · refine wp_of e16 c16_234 (rw_aload_n (pc' := 235) (v := .ref r0) rfl rfl rfl ?_)
                                refine wp_of e16 c16_235 (rw_aload_n (pc' := 236) (v := .ref r0) rfl rfl rfl ?_)
                                refine wp_of e16 c16_236 (xg_K (pc' := 239) lf_2_7 w5193 g0 sh_4 (by decide) (by decide) rfl q5465 rfl ?_)
                                refine wp_of e16 c16_239 (rw_iload_n (pc' := 240) (z := v5191) rfl rfl ?_)
                                refine wp_of e16 c16_240 (xa_B (by decide) (pc' := 241) w5193 grb sh_2 (by decide) (ty_2 _) (by omega) (by omega) rfl (fun b5491 b5492 => ?_))
                                refine wp_of e16 c16_241 (rw_bipush (pc' := 243) (z := 59) rfl (by decide) ?_)
                                refine wp_of e16 c16_243 (rw_icmp_ne (p1 := 250) (p2 := 246) (by decide) rfl ⟨by omega, by omega⟩ ⟨by omega, by omega⟩ (fun c5493 => ?_) (fun c5493 => ?_))
                                · refine wp_of e16 c16_250 (rw_aload_n (pc' := 251) (v := .ref r0) rfl rfl rfl ?_)
                                  refine wp_of e16 c16_251 (xg_K (pc' := 254) lf_2_7 w5193 g0 sh_4 (by decide) (by decide) rfl q5465 rfl ?_)
                                  refine wp_of e16 c16_254 (rw_iload_n (pc' := 255) (z := v5191) rfl rfl ?_)
                                  refine wp_of e16 c16_255 (xa_B (by decide) (pc' := 256) w5193 grb sh_2 (by decide) (ty_2 _) (by omega) (by omega) rfl (fun b5494 b5495 => ?_))
                                  refine wp_of e16 c16_256 (rw_bipush (pc' := 258) (z := 44) rfl (by decide) ?_)
                                  refine wp_of e16 c16_258 (rw_icmp_ne (p1 := 265) (p2 := 261) (by decide) rfl ⟨by omega, by omega⟩ ⟨by omega, by omega⟩ (fun c5496 => ?_) (fun c5496 => ?_))
                                  · refine wp_of e16 c16_265 (rw_iconst (pc' := 266) rfl ?_)
                                    refine wp_of e16 c16_266 (xp_I (pc' := 269) lf_2_41 w5193 g0 sh_4 (by decide) (by decide) ty_4_3 rfl rfl (by omega) (by omega) ⟨by omega, by omega⟩ rfl (fun H5497 e5498 w5499 => ?_))
                                    have f5500 := f5197.put' e5498 g0 rfl
                                    have f5501 := f5198.put' e5498 g0 rfl
                                    have f5502 := f5194.put' e5498 g0 rfl
                                    have k5503 : H5497 r0 3 = 5 := wq_u_s e5498
                                    refine wp_of e16 c16_269 (rw_iinc (pc' := 272) (z := v5191) (L' := [(1, vI (v5191 + 1)), (3, vI ((v5191 - (H5192 r0 4)) - (v5117 - (H5118 r0 4)))), (2, vI (v5117 - (H5118 r0 4))), (0, .ref r0)]) rfl rfl rfl rfl ?_)
                                    refine wp_of e16 c16_272 (rw_goto (p1 := 280) (by decide) ?_)
                                    refine wp_of e16 c16_280 (rw_aload_n (pc' := 281) (v := .ref r0) rfl rfl rfl ?_)
                                    refine wp_of e16 c16_281 (rw_iload_n (pc' := 282) (z := v5191 + 1) rfl rfl ?_)
                                    refine wp_of e16 c16_282 (xp_I (pc' := 285) lf_2_23 w5499 g0 sh_4 (by decide) (by decide) ty_4_2 rfl rfl (by omega) (by omega) ⟨by omega, by omega⟩ rfl (fun H5504 e5505 w5506 => ?_))
                                    have f5507 := f5500.put' e5505 g0 rfl
                                    have f5508 := f5501.put' e5505 g0 rfl
                                    have f5509 := f5502.put' e5505 g0 rfl
                                    have k5510 : H5504 r0 2 = v5191 + 1 := wq_u_s e5505
                                    exact wp_return e16 c16_285 rfl ⟨rfl, w5506, f5507, rfl⟩
                                  · refine wp_of e16 c16_261 (rw_iconst (pc' := 262) rfl ?_)
                                    refine wp_of e16 c16_262 (rw_goto (p1 := 266) (by decide) ?_)
                                    refine wp_of e16 c16_266 (xp_I (pc' := 269) lf_2_41 w5193 g0 sh_4 (by decide) (by decide) ty_4_3 rfl rfl (by omega) (by omega) ⟨by omega, by omega⟩ rfl (fun H5511 e5512 w5513 => ?_))
                                    have f5514 := f5197.put' e5512 g0 rfl
                                    have f5515 := f5198.put' e5512 g0 rfl
                                    have f5516 := f5194.put' e5512 g0 rfl
                                    have k5517 : H5511 r0 3 = 4 := wq_u_s e5512
                                    refine wp_of e16 c16_269 (rw_iinc (pc' := 272) (z := v5191) (L' := [(1, vI (v5191 + 1)), (3, vI ((v5191 - (H5192 r0 4)) - (v5117 - (H5118 r0 4)))), (2, vI (v5117 - (H5118 r0 4))), (0, .ref r0)]) rfl rfl rfl rfl ?_)
                                    refine wp_of e16 c16_272 (rw_goto (p1 := 280) (by decide) ?_)
                                    refine wp_of e16 c16_280 (rw_aload_n (pc' := 281) (v := .ref r0) rfl rfl rfl ?_)
                                    refine wp_of e16 c16_281 (rw_iload_n (pc' := 282) (z := v5191 + 1) rfl rfl ?_)
                                    refine wp_of e16 c16_282 (xp_I (pc' := 285) lf_2_23 w5513 g0 sh_4 (by decide) (by decide) ty_4_2 rfl rfl (by omega) (by omega) ⟨by omega, by omega⟩ rfl (fun H5518 e5519 w5520 => ?_))
                                    have f5521 := f5514.put' e5519 g0 rfl
                                    have f5522 := f5515.put' e5519 g0 rfl
                                    have f5523 := f5516.put' e5519 g0 rfl
                                    have k5524 : H5518 r0 2 = v5191 + 1 := wq_u_s e5519
                                    exact wp_return e16 c16_285 rfl ⟨rfl, w5520, f5521, rfl⟩
                                · exfalso
                                  omega
                            · refine wp_of e16 c16_209 (rw_aload_n (pc' := 210) (v := .ref r0) rfl rfl rfl ?_)
                              refine wp_of e16 c16_210 (rw_iload_n (pc' := 211) (z := (v5191 - (H5192 r0 4)) - (v5117 - (H5118 r0 4))) rfl rfl ?_)
                              refine wp_of e16 c16_211 (rw_iconst (pc' := 212) rfl ?_)
                              refine wp_of e16 c16_212 (rw_icmp_gt (p1 := 219) (p2 := 215) (by decide) rfl ⟨by omega, by omega⟩ ⟨by omega, by omega⟩ (fun c5525 => ?_) (fun c5525 => ?_))
                              · refine wp_of e16 c16_219 (rw_iconst (pc' := 220) rfl ?_)
                                refine wp_of e16 c16_220 (xp_I (pc' := 223) lf_2_41 w5193 g0 sh_4 (by decide) (by decide) ty_4_3 rfl rfl (by omega) (by omega) ⟨by omega, by omega⟩ rfl (fun H5526 e5527 w5528 => ?_))
                                have f5529 := f5197.put' e5527 g0 rfl
                                have f5530 := f5198.put' e5527 g0 rfl
                                have f5531 := f5194.put' e5527 g0 rfl
                                have k5532 : H5526 r0 3 = 5 := wq_u_s e5527
                                refine wp_of e16 c16_223 (rw_goto (p1 := 280) (by decide) ?_)
                                refine wp_of e16 c16_280 (rw_aload_n (pc' := 281) (v := .ref r0) rfl rfl rfl ?_)
                                refine wp_of e16 c16_281 (rw_iload_n (pc' := 282) (z := v5191) rfl rfl ?_)
                                refine wp_of e16 c16_282 (xp_I (pc' := 285) lf_2_23 w5528 g0 sh_4 (by decide) (by decide) ty_4_2 rfl rfl (by omega) (by omega) ⟨by omega, by omega⟩ rfl (fun H5533 e5534 w5535 => ?_))
                                have f5536 := f5529.put' e5534 g0 rfl
                                have f5537 := f5530.put' e5534 g0 rfl
                                have f5538 := f5531.put' e5534 g0 rfl
                                have k5539 : H5533 r0 2 = v5191 := wq_u_s e5534
                                exact wp_return e16 c16_285 rfl ⟨rfl, w5535, f5536, rfl⟩
                              · refine wp_of e16 c16_215 (rw_iconst (pc' := 216) rfl ?_)
                                refine wp_of e16 c16_216 (rw_goto (p1 := 220) (by decide) ?_)
                                refine wp_of e16 c16_220 (xp_I (pc' := 223) lf_2_41 w5193 g0 sh_4 (by decide) (by decide) ty_4_3 rfl rfl (by omega) (by omega) ⟨by omega, by omega⟩ rfl (fun H5540 e5541 w5542 => ?_))
                                have f5543 := f5197.put' e5541 g0 rfl
                                have f5544 := f5198.put' e5541 g0 rfl
                                have f5545 := f5194.put' e5541 g0 rfl
                                have k5546 : H5540 r0 3 = 2 := wq_u_s e5541
                                refine wp_of e16 c16_223 (rw_goto (p1 := 280) (by decide) ?_)
                                refine wp_of e16 c16_280 (rw_aload_n (pc' := 281) (v := .ref r0) rfl rfl rfl ?_)
                                refine wp_of e16 c16_281 (rw_iload_n (pc' := 282) (z := v5191) rfl rfl ?_)
                                refine wp_of e16 c16_282 (xp_I (pc' := 285) lf_2_23 w5542 g0 sh_4 (by decide) (by decide) ty_4_2 rfl rfl (by omega) (by omega) ⟨by omega, by omega⟩ rfl (fun H5547 e5548 w5549 => ?_))
                                have f5550 := f5543.put' e5548 g0 rfl
                                have f5551 := f5544.put' e5548 g0 rfl
                                have f5552 := f5545.put' e5548 g0 rfl
                                have k5553 : H5547 r0 2 = v5191 := wq_u_s e5548
                                exact wp_return e16 c16_285 rfl ⟨rfl, w5549, f5550, rfl⟩
                          · exfalso
                            omega
                        · refine wp_of e16 c16_136 (rw_aload_n (pc' := 137) (v := .ref r0) rfl rfl rfl ?_)
                          refine wp_of e16 c16_137 (xg_K (pc' := 140) lf_2_7 w5193 g0 sh_4 (by decide) (by decide) rfl q5465 rfl ?_)
                          refine wp_of e16 c16_140 (rw_iload_n (pc' := 141) (z := v5191) rfl rfl ?_)
                          refine wp_of e16 c16_141 (xa_B (by decide) (pc' := 142) w5193 grb sh_2 (by decide) (ty_2 _) (by omega) (by omega) rfl (fun b5554 b5555 => ?_))
                          refine wp_of e16 c16_142 (rw_bipush (pc' := 144) (z := 57) rfl (by decide) ?_)
                          refine wp_of e16 c16_144 (rw_icmp_gt (p1 := 174) (p2 := 147) (by decide) rfl ⟨by omega, by omega⟩ ⟨by omega, by omega⟩ (fun c5556 => ?_) (fun c5556 => ?_))
                          · refine wp_of e16 c16_174 (rw_iload_n (pc' := 175) (z := v5191) rfl rfl ?_)
                            refine wp_of e16 c16_175 (rw_aload_n (pc' := 176) (v := .ref r0) rfl rfl rfl ?_)
                            have k5557 : H5192 r0 4 = H5118 r0 4 := ((f5194 r0 4 _ g0 rfl).trans (wq_u_j e5132 rfl))
                            refine wp_of e16 c16_176 (xg_I (pc' := 179) lf_2_29 w5193 g0 sh_4 (by decide) (by decide) ty_4_4 rfl rfl (fun b5558 b5559 => ?_))
                            refine wp_of e16 c16_179 (rw_isub (pc' := 180) rfl ?_)
                            refine wp_of e16 c16_180 (rw_iload_n (pc' := 181) (z := v5117 - (H5118 r0 4)) rfl rfl ?_)
                            refine wp_of e16 c16_181 (rw_isub (pc' := 182) rfl ?_)
                            refine wp_of e16 c16_182 (rw_istore_n (pc' := 183) (z := (v5191 - (H5192 r0 4)) - (v5117 - (H5118 r0 4))) (L' := [(3, vI ((v5191 - (H5192 r0 4)) - (v5117 - (H5118 r0 4)))), (1, vI v5191), (2, vI (v5117 - (H5118 r0 4))), (0, .ref r0)]) rfl rfl rfl ?_)
                            refine wp_of e16 c16_183 (rw_iload_n (pc' := 184) (z := v5117 - (H5118 r0 4)) rfl rfl ?_)
                            refine wp_of e16 c16_184 (rw_if_le (p1 := 205) (p2 := 187) (by decide) rfl ⟨by omega, by omega⟩ (fun c5560 => ?_) (fun c5560 => ?_))
                            · refine wp_of e16 c16_205 (rw_iload_n (pc' := 206) (z := (v5191 - (H5192 r0 4)) - (v5117 - (H5118 r0 4))) rfl rfl ?_)
                              refine wp_of e16 c16_206 (rw_if_le (p1 := 226) (p2 := 209) (by decide) rfl ⟨by omega, by omega⟩ (fun c5561 => ?_) (fun c5561 => ?_))
                              · refine wp_of e16 c16_226 (rw_iload_n (pc' := 227) (z := v5191) rfl rfl ?_)
                                refine wp_of e16 c16_227 (rw_aload_n (pc' := 228) (v := .ref r0) rfl rfl rfl ?_)
                                refine wp_of e16 c16_228 (xg_I (pc' := 231) lf_2_19 w5193 g0 sh_4 (by decide) (by decide) ty_4_1 rfl rfl (fun b5562 b5563 => ?_))
                                refine wp_of e16 c16_231 (rw_icmp_ge (p1 := 275) (p2 := 234) (by decide) rfl ⟨by omega, by omega⟩ ⟨by omega, by omega⟩ (fun c5564 => ?_) (fun c5564 => ?_))
                                · refine wp_of e16 c16_275 (rw_aload_n (pc' := 276) (v := .ref r0) rfl rfl rfl ?_)
                                  refine wp_of e16 c16_276 (rw_iconst (pc' := 277) rfl ?_)
                                  refine wp_of e16 c16_277 (xp_I (pc' := 280) lf_2_41 w5193 g0 sh_4 (by decide) (by decide) ty_4_3 rfl rfl (by omega) (by omega) ⟨by omega, by omega⟩ rfl (fun H5565 e5566 w5567 => ?_))
                                  have f5568 := f5197.put' e5566 g0 rfl
                                  have f5569 := f5198.put' e5566 g0 rfl
                                  have f5570 := f5194.put' e5566 g0 rfl
                                  have k5571 : H5565 r0 3 = 0 := wq_u_s e5566
                                  refine wp_of e16 c16_280 (rw_aload_n (pc' := 281) (v := .ref r0) rfl rfl rfl ?_)
                                  refine wp_of e16 c16_281 (rw_iload_n (pc' := 282) (z := v5191) rfl rfl ?_)
                                  refine wp_of e16 c16_282 (xp_I (pc' := 285) lf_2_23 w5567 g0 sh_4 (by decide) (by decide) ty_4_2 rfl rfl (by omega) (by omega) ⟨by omega, by omega⟩ rfl (fun H5572 e5573 w5574 => ?_))
                                  have f5575 := f5568.put' e5573 g0 rfl
                                  have f5576 := f5569.put' e5573 g0 rfl
                                  have f5577 := f5570.put' e5573 g0 rfl
                                  have k5578 : H5572 r0 2 = v5191 := wq_u_s e5573
                                  exact wp_return e16 c16_285 rfl ⟨rfl, w5574, f5575, rfl⟩
                                · refine wp_of e16 c16_234 (rw_aload_n (pc' := 235) (v := .ref r0) rfl rfl rfl ?_)
                                  refine wp_of e16 c16_235 (rw_aload_n (pc' := 236) (v := .ref r0) rfl rfl rfl ?_)
                                  refine wp_of e16 c16_236 (xg_K (pc' := 239) lf_2_7 w5193 g0 sh_4 (by decide) (by decide) rfl q5465 rfl ?_)
                                  refine wp_of e16 c16_239 (rw_iload_n (pc' := 240) (z := v5191) rfl rfl ?_)
                                  refine wp_of e16 c16_240 (xa_B (by decide) (pc' := 241) w5193 grb sh_2 (by decide) (ty_2 _) (by omega) (by omega) rfl (fun b5579 b5580 => ?_))
                                  refine wp_of e16 c16_241 (rw_bipush (pc' := 243) (z := 59) rfl (by decide) ?_)
                                  refine wp_of e16 c16_243 (rw_icmp_ne (p1 := 250) (p2 := 246) (by decide) rfl ⟨by omega, by omega⟩ ⟨by omega, by omega⟩ (fun c5581 => ?_) (fun c5581 => ?_))
                                  · refine wp_of e16 c16_250 (rw_aload_n (pc' := 251) (v := .ref r0) rfl rfl rfl ?_)
                                    refine wp_of e16 c16_251 (xg_K (pc' := 254) lf_2_7 w5193 g0 sh_4 (by decide) (by decide) rfl q5465 rfl ?_)
                                    refine wp_of e16 c16_254 (rw_iload_n (pc' := 255) (z := v5191) rfl rfl ?_)
                                    refine wp_of e16 c16_255 (xa_B (by decide) (pc' := 256) w5193 grb sh_2 (by decide) (ty_2 _) (by omega) (by omega) rfl (fun b5582 b5583 => ?_))
                                    refine wp_of e16 c16_256 (rw_bipush (pc' := 258) (z := 44) rfl (by decide) ?_)
                                    refine wp_of e16 c16_258 (rw_icmp_ne (p1 := 265) (p2 := 261) (by decide) rfl ⟨by omega, by omega⟩ ⟨by omega, by omega⟩ (fun c5584 => ?_) (fun c5584 => ?_))
                                    · refine wp_of e16 c16_265 (rw_iconst (pc' := 266) rfl ?_)
                                      refine wp_of e16 c16_266 (xp_I (pc' := 269) lf_2_41 w5193 g0 sh_4 (by decide) (by decide) ty_4_3 rfl rfl (by omega) (by omega) ⟨by omega, by omega⟩ rfl (fun H5585 e5586 w5587 => ?_))
                                      have f5588 := f5197.put' e5586 g0 rfl
                                      have f5589 := f5198.put' e5586 g0 rfl
                                      have f5590 := f5194.put' e5586 g0 rfl
                                      have k5591 : H5585 r0 3 = 5 := wq_u_s e5586
                                      refine wp_of e16 c16_269 (rw_iinc (pc' := 272) (z := v5191) (L' := [(1, vI (v5191 + 1)), (3, vI ((v5191 - (H5192 r0 4)) - (v5117 - (H5118 r0 4)))), (2, vI (v5117 - (H5118 r0 4))), (0, .ref r0)]) rfl rfl rfl rfl ?_)
                                      refine wp_of e16 c16_272 (rw_goto (p1 := 280) (by decide) ?_)
                                      refine wp_of e16 c16_280 (rw_aload_n (pc' := 281) (v := .ref r0) rfl rfl rfl ?_)
                                      refine wp_of e16 c16_281 (rw_iload_n (pc' := 282) (z := v5191 + 1) rfl rfl ?_)
                                      refine wp_of e16 c16_282 (xp_I (pc' := 285) lf_2_23 w5587 g0 sh_4 (by decide) (by decide) ty_4_2 rfl rfl (by omega) (by omega) ⟨by omega, by omega⟩ rfl (fun H5592 e5593 w5594 => ?_))
                                      have f5595 := f5588.put' e5593 g0 rfl
                                      have f5596 := f5589.put' e5593 g0 rfl
                                      have f5597 := f5590.put' e5593 g0 rfl
                                      have k5598 : H5592 r0 2 = v5191 + 1 := wq_u_s e5593
                                      exact wp_return e16 c16_285 rfl ⟨rfl, w5594, f5595, rfl⟩
                                    · exfalso
                                      omega
                                  · refine wp_of e16 c16_246 (rw_iconst (pc' := 247) rfl ?_)
                                    refine wp_of e16 c16_247 (rw_goto (p1 := 266) (by decide) ?_)
                                    refine wp_of e16 c16_266 (xp_I (pc' := 269) lf_2_41 w5193 g0 sh_4 (by decide) (by decide) ty_4_3 rfl rfl (by omega) (by omega) ⟨by omega, by omega⟩ rfl (fun H5599 e5600 w5601 => ?_))
                                    have f5602 := f5197.put' e5600 g0 rfl
                                    have f5603 := f5198.put' e5600 g0 rfl
                                    have f5604 := f5194.put' e5600 g0 rfl
                                    have k5605 : H5599 r0 3 = 3 := wq_u_s e5600
                                    refine wp_of e16 c16_269 (rw_iinc (pc' := 272) (z := v5191) (L' := [(1, vI (v5191 + 1)), (3, vI ((v5191 - (H5192 r0 4)) - (v5117 - (H5118 r0 4)))), (2, vI (v5117 - (H5118 r0 4))), (0, .ref r0)]) rfl rfl rfl rfl ?_)
                                    refine wp_of e16 c16_272 (rw_goto (p1 := 280) (by decide) ?_)
                                    refine wp_of e16 c16_280 (rw_aload_n (pc' := 281) (v := .ref r0) rfl rfl rfl ?_)
                                    refine wp_of e16 c16_281 (rw_iload_n (pc' := 282) (z := v5191 + 1) rfl rfl ?_)
                                    refine wp_of e16 c16_282 (xp_I (pc' := 285) lf_2_23 w5601 g0 sh_4 (by decide) (by decide) ty_4_2 rfl rfl (by omega) (by omega) ⟨by omega, by omega⟩ rfl (fun H5606 e5607 w5608 => ?_))
                                    have f5609 := f5602.put' e5607 g0 rfl
                                    have f5610 := f5603.put' e5607 g0 rfl
                                    have f5611 := f5604.put' e5607 g0 rfl
                                    have k5612 : H5606 r0 2 = v5191 + 1 := wq_u_s e5607
                                    exact wp_return e16 c16_285 rfl ⟨rfl, w5608, f5609, rfl⟩
                              · refine wp_of e16 c16_209 (rw_aload_n (pc' := 210) (v := .ref r0) rfl rfl rfl ?_)
                                refine wp_of e16 c16_210 (rw_iload_n (pc' := 211) (z := (v5191 - (H5192 r0 4)) - (v5117 - (H5118 r0 4))) rfl rfl ?_)
                                refine wp_of e16 c16_211 (rw_iconst (pc' := 212) rfl ?_)
                                refine wp_of e16 c16_212 (rw_icmp_gt (p1 := 219) (p2 := 215) (by decide) rfl ⟨by omega, by omega⟩ ⟨by omega, by omega⟩ (fun c5613 => ?_) (fun c5613 => ?_))
                                · refine wp_of e16 c16_219 (rw_iconst (pc' := 220) rfl ?_)
                                  refine wp_of e16 c16_220 (xp_I (pc' := 223) lf_2_41 w5193 g0 sh_4 (by decide) (by decide) ty_4_3 rfl rfl (by omega) (by omega) ⟨by omega, by omega⟩ rfl (fun H5614 e5615 w5616 => ?_))
                                  have f5617 := f5197.put' e5615 g0 rfl
                                  have f5618 := f5198.put' e5615 g0 rfl
                                  have f5619 := f5194.put' e5615 g0 rfl
                                  have k5620 : H5614 r0 3 = 5 := wq_u_s e5615
                                  refine wp_of e16 c16_223 (rw_goto (p1 := 280) (by decide) ?_)
                                  refine wp_of e16 c16_280 (rw_aload_n (pc' := 281) (v := .ref r0) rfl rfl rfl ?_)
                                  refine wp_of e16 c16_281 (rw_iload_n (pc' := 282) (z := v5191) rfl rfl ?_)
                                  refine wp_of e16 c16_282 (xp_I (pc' := 285) lf_2_23 w5616 g0 sh_4 (by decide) (by decide) ty_4_2 rfl rfl (by omega) (by omega) ⟨by omega, by omega⟩ rfl (fun H5621 e5622 w5623 => ?_))
                                  have f5624 := f5617.put' e5622 g0 rfl
                                  have f5625 := f5618.put' e5622 g0 rfl
                                  have f5626 := f5619.put' e5622 g0 rfl
                                  have k5627 : H5621 r0 2 = v5191 := wq_u_s e5622
                                  exact wp_return e16 c16_285 rfl ⟨rfl, w5623, f5624, rfl⟩
                                · refine wp_of e16 c16_215 (rw_iconst (pc' := 216) rfl ?_)
                                  refine wp_of e16 c16_216 (rw_goto (p1 := 220) (by decide) ?_)
                                  refine wp_of e16 c16_220 (xp_I (pc' := 223) lf_2_41 w5193 g0 sh_4 (by decide) (by decide) ty_4_3 rfl rfl (by omega) (by omega) ⟨by omega, by omega⟩ rfl (fun H5628 e5629 w5630 => ?_))
                                  have f5631 := f5197.put' e5629 g0 rfl
                                  have f5632 := f5198.put' e5629 g0 rfl
                                  have f5633 := f5194.put' e5629 g0 rfl
                                  have k5634 : H5628 r0 3 = 2 := wq_u_s e5629
                                  refine wp_of e16 c16_223 (rw_goto (p1 := 280) (by decide) ?_)
                                  refine wp_of e16 c16_280 (rw_aload_n (pc' := 281) (v := .ref r0) rfl rfl rfl ?_)
                                  refine wp_of e16 c16_281 (rw_iload_n (pc' := 282) (z := v5191) rfl rfl ?_)
                                  refine wp_of e16 c16_282 (xp_I (pc' := 285) lf_2_23 w5630 g0 sh_4 (by decide) (by decide) ty_4_2 rfl rfl (by omega) (by omega) ⟨by omega, by omega⟩ rfl (fun H5635 e5636 w5637 => ?_))
                                  have f5638 := f5631.put' e5636 g0 rfl
                                  have f5639 := f5632.put' e5636 g0 rfl
                                  have f5640 := f5633.put' e5636 g0 rfl
                                  have k5641 : H5635 r0 2 = v5191 := wq_u_s e5636
                                  exact wp_return e16 c16_285 rfl ⟨rfl, w5637, f5638, rfl⟩
                            · exfalso
                              omega
                          · refine wp_of e16 c16_147 (rw_aload_n (pc' := 148) (v := .ref r0) rfl rfl rfl ?_)
                            refine wp_of e16 c16_148 (rw_aload_n (pc' := 149) (v := .ref r0) rfl rfl rfl ?_)
                            refine wp_of e16 c16_149 (xg_I (pc' := 152) lf_2_38 w5193 g0 sh_4 (by decide) (by decide) ty_4_5 rfl rfl (fun b5642 b5643 => ?_))
                            refine wp_of e16 c16_152 (rw_bipush (pc' := 154) (z := 10) rfl (by decide) ?_)
                            refine wp_of e16 c16_154 (rw_imulw (pc' := 155) rfl ?_)
                            obtain ⟨v5644, e5645⟩ : ∃ x : Int, x = wq_w ((H5192 r0 5) * 10) := ⟨_, rfl⟩
                            rw [← e5645]
                            have b5646 : -2147483648 ≤ v5644 ∧ v5644 ≤ 2147483647 := by
                              rw [e5645]
                              exact wI_w _
                            refine wp_of e16 c16_155 (rw_aload_n (pc' := 156) (v := .ref r0) rfl rfl rfl ?_)
                            refine wp_of e16 c16_156 (xg_K (pc' := 159) lf_2_7 w5193 g0 sh_4 (by decide) (by decide) rfl q5465 rfl ?_)
                            refine wp_of e16 c16_159 (rw_iload_n (pc' := 160) (z := v5191) rfl rfl ?_)
                            refine wp_of e16 c16_160 (xa_B (by decide) (pc' := 161) w5193 grb sh_2 (by decide) (ty_2 _) (by omega) (by omega) rfl (fun b5647 b5648 => ?_))
                            refine wp_of e16 c16_161 (rw_bipush (pc' := 163) (z := 48) rfl (by decide) ?_)
                            refine wp_of e16 c16_163 (rw_isub (pc' := 164) rfl ?_)
                            refine wp_of e16 c16_164 (rw_iaddw (pc' := 165) rfl ?_)
                            obtain ⟨v5649, e5650⟩ : ∃ x : Int, x = wq_w (v5644 + ((H5192 rb v5191.toNat) - 48)) := ⟨_, rfl⟩
                            rw [← e5650]
                            have b5651 : -2147483648 ≤ v5649 ∧ v5649 ≤ 2147483647 := by
                              rw [e5650]
                              exact wI_w _
                            refine wp_of e16 c16_165 (xp_I (pc' := 168) lf_2_38 w5193 g0 sh_4 (by decide) (by decide) ty_4_5 rfl rfl (by omega) (by omega) ⟨by omega, by omega⟩ rfl (fun H5652 e5653 w5654 => ?_))
                            have f5655 := f5197.put' e5653 g0 rfl
                            have f5656 := f5198.put' e5653 g0 rfl
                            have f5657 := f5194.put' e5653 g0 rfl
                            have k5658 : H5652 r0 5 = v5649 := wq_u_s e5653
                            refine wp_of e16 c16_168 (rw_iinc (pc' := 171) (z := v5191) (L' := [(1, vI (v5191 + 1)), (2, vI (v5117 - (H5118 r0 4))), (0, .ref r0)]) rfl rfl rfl rfl ?_)
                            refine wp_of e16 c16_171 (rw_goto (p1 := 113) (by decide) ?_)
                            exact wp_lc (ks := [1, 2, 0]) (wl_c rfl (wl_c rfl (wl_c rfl wl_n))) rfl (by decide) (ih5190 _ (by omega) (v5191 + 1) H5652 w5654 f5657 ⟨by omega, by omega⟩ rfl)
                exact wp_lc (ks := [2, 1, 0]) (wl_c rfl (wl_c rfl (wl_c rfl wl_n))) rfl (by decide) (lp5188 _ v5117 H5131 w5133 wfr.rf ⟨by omega, by omega⟩ rfl)
              · refine wp_of e16 c16_48 (rw_aload_n (pc' := 49) (v := .ref r0) rfl rfl rfl ?_)
                have k5659 : H5118 r0 0 = H r0 0 := ((f5120 r0 0 _ g0 rfl).trans ((wq_u_j e5063 rfl).trans (wq_u_j e5058 rfl)))
                have q5660 : H5118 r0 0 = (rb : Int) := k5659.trans qrb
                refine wp_of e16 c16_49 (xg_K (pc' := 52) lf_2_7 w5119 g0 sh_4 (by decide) (by decide) rfl q5660 rfl ?_)
                refine wp_of e16 c16_52 (rw_iload_n (pc' := 53) (z := v5117) rfl rfl ?_)
                refine wp_of e16 c16_53 (xa_B (by decide) (pc' := 54) w5119 grb sh_2 (by decide) (ty_2 _) (by omega) (by omega) rfl (fun b5661 b5662 => ?_))
                refine wp_of e16 c16_54 (rw_bipush (pc' := 56) (z := 97) rfl (by decide) ?_)
                refine wp_of e16 c16_56 (rw_icmp_lt (p1 := 101) (p2 := 59) (by decide) rfl ⟨by omega, by omega⟩ ⟨by omega, by omega⟩ (fun c5663 => ?_) (fun c5663 => ?_))
                · refine wp_of e16 c16_101 (rw_iload_n (pc' := 102) (z := v5117) rfl rfl ?_)
                  refine wp_of e16 c16_102 (rw_aload_n (pc' := 103) (v := .ref r0) rfl rfl rfl ?_)
                  have k5664 : H5118 r0 4 = H5057 r0 4 := ((f5120 r0 4 _ g0 rfl).trans (wq_u_j e5063 rfl))
                  refine wp_of e16 c16_103 (xg_I (pc' := 106) lf_2_29 w5119 g0 sh_4 (by decide) (by decide) ty_4_4 rfl rfl (fun b5665 b5666 => ?_))
                  refine wp_of e16 c16_106 (rw_isub (pc' := 107) rfl ?_)
                  refine wp_of e16 c16_107 (rw_istore_n (pc' := 108) (z := v5117 - (H5118 r0 4)) (L' := [(2, vI (v5117 - (H5118 r0 4))), (1, vI v5117), (0, .ref r0)]) rfl rfl rfl ?_)
                  refine wp_of e16 c16_108 (rw_aload_n (pc' := 109) (v := .ref r0) rfl rfl rfl ?_)
                  refine wp_of e16 c16_109 (rw_iconst (pc' := 110) rfl ?_)
                  refine wp_of e16 c16_110 (xp_I (pc' := 113) lf_2_38 w5119 g0 sh_4 (by decide) (by decide) ty_4_5 rfl rfl (by omega) (by omega) ⟨by omega, by omega⟩ rfl (fun H5667 e5668 w5669 => ?_))
                  have f5670 := f5123.put' e5668 g0 rfl
                  have f5671 := f5120.put' e5668 g0 rfl
                  have k5672 : H5667 r0 5 = 0 := wq_u_s e5668
                  have lp5724 : ∀ (n5725 : Nat) (v5727 : Int) (H5728 : wq_H), WT T H5728 → wfr [(4, 5)] T H5667 H5728 → (0 ≤ v5727 ∧ v5727 ≤ 900) → (900 - v5727).toNat = n5725 → wp kt 0 16 113 [(1, vI v5727), (2, vI (v5117 - (H5118 r0 4))), (0, .ref r0)] [] T H5728 (q_16 r0 rb T H) := by
                    intro n5725
                    induction n5725 using Nat.strongRecOn with
                    | _ n5725 ih5726 =>
                      intro v5727 H5728 w5729 f5730 b5731 m5732
                      have f5733 := f5670.tr f5730 rfl
                      have f5734 := f5671.tr f5730 rfl
                      refine wp_of e16 c16_113 (rw_iload_n (pc' := 114) (z := v5727) rfl rfl ?_)
                      refine wp_of e16 c16_114 (rw_aload_n (pc' := 115) (v := .ref r0) rfl rfl rfl ?_)
                      have k5735 : H5728 r0 1 = H5118 r0 1 := ((f5730 r0 1 _ g0 rfl).trans (wq_u_j e5668 rfl))
                      refine wp_of e16 c16_115 (xg_I (pc' := 118) lf_2_19 w5729 g0 sh_4 (by decide) (by decide) ty_4_1 rfl rfl (fun b5736 b5737 => ?_))
                      refine wp_of e16 c16_118 (rw_icmp_ge (p1 := 174) (p2 := 121) (by decide) rfl ⟨by omega, by omega⟩ ⟨by omega, by omega⟩ (fun c5738 => ?_) (fun c5738 => ?_))
                      · refine wp_of e16 c16_174 (rw_iload_n (pc' := 175) (z := v5727) rfl rfl ?_)
                        refine wp_of e16 c16_175 (rw_aload_n (pc' := 176) (v := .ref r0) rfl rfl rfl ?_)
                        have k5739 : H5728 r0 4 = H5118 r0 4 := ((f5730 r0 4 _ g0 rfl).trans (wq_u_j e5668 rfl))
                        refine wp_of e16 c16_176 (xg_I (pc' := 179) lf_2_29 w5729 g0 sh_4 (by decide) (by decide) ty_4_4 rfl rfl (fun b5740 b5741 => ?_))
                        refine wp_of e16 c16_179 (rw_isub (pc' := 180) rfl ?_)
                        refine wp_of e16 c16_180 (rw_iload_n (pc' := 181) (z := v5117 - (H5118 r0 4)) rfl rfl ?_)
                        refine wp_of e16 c16_181 (rw_isub (pc' := 182) rfl ?_)
                        refine wp_of e16 c16_182 (rw_istore_n (pc' := 183) (z := (v5727 - (H5728 r0 4)) - (v5117 - (H5118 r0 4))) (L' := [(3, vI ((v5727 - (H5728 r0 4)) - (v5117 - (H5118 r0 4)))), (1, vI v5727), (2, vI (v5117 - (H5118 r0 4))), (0, .ref r0)]) rfl rfl rfl ?_)
                        refine wp_of e16 c16_183 (rw_iload_n (pc' := 184) (z := v5117 - (H5118 r0 4)) rfl rfl ?_)
                        refine wp_of e16 c16_184 (rw_if_le (p1 := 205) (p2 := 187) (by decide) rfl ⟨by omega, by omega⟩ (fun c5742 => ?_) (fun c5742 => ?_))
                        · refine wp_of e16 c16_205 (rw_iload_n (pc' := 206) (z := (v5727 - (H5728 r0 4)) - (v5117 - (H5118 r0 4))) rfl rfl ?_)
                          refine wp_of e16 c16_206 (rw_if_le (p1 := 226) (p2 := 209) (by decide) rfl ⟨by omega, by omega⟩ (fun c5743 => ?_) (fun c5743 => ?_))
                          · refine wp_of e16 c16_226 (rw_iload_n (pc' := 227) (z := v5727) rfl rfl ?_)
                            refine wp_of e16 c16_227 (rw_aload_n (pc' := 228) (v := .ref r0) rfl rfl rfl ?_)
                            refine wp_of e16 c16_228 (xg_I (pc' := 231) lf_2_19 w5729 g0 sh_4 (by decide) (by decide) ty_4_1 rfl rfl (fun b5744 b5745 => ?_))
                            refine wp_of e16 c16_231 (rw_icmp_ge (p1 := 275) (p2 := 234) (by decide) rfl ⟨by omega, by omega⟩ ⟨by omega, by omega⟩ (fun c5746 => ?_) (fun c5746 => ?_))
                            · refine wp_of e16 c16_275 (rw_aload_n (pc' := 276) (v := .ref r0) rfl rfl rfl ?_)
                              refine wp_of e16 c16_276 (rw_iconst (pc' := 277) rfl ?_)
                              refine wp_of e16 c16_277 (xp_I (pc' := 280) lf_2_41 w5729 g0 sh_4 (by decide) (by decide) ty_4_3 rfl rfl (by omega) (by omega) ⟨by omega, by omega⟩ rfl (fun H5747 e5748 w5749 => ?_))
                              have f5750 := f5733.put' e5748 g0 rfl
                              have f5751 := f5734.put' e5748 g0 rfl
                              have f5752 := f5730.put' e5748 g0 rfl
                              have k5753 : H5747 r0 3 = 0 := wq_u_s e5748
                              refine wp_of e16 c16_280 (rw_aload_n (pc' := 281) (v := .ref r0) rfl rfl rfl ?_)
                              refine wp_of e16 c16_281 (rw_iload_n (pc' := 282) (z := v5727) rfl rfl ?_)
                              refine wp_of e16 c16_282 (xp_I (pc' := 285) lf_2_23 w5749 g0 sh_4 (by decide) (by decide) ty_4_2 rfl rfl (by omega) (by omega) ⟨by omega, by omega⟩ rfl (fun H5754 e5755 w5756 => ?_))
                              have f5757 := f5750.put' e5755 g0 rfl
                              have f5758 := f5751.put' e5755 g0 rfl
                              have f5759 := f5752.put' e5755 g0 rfl
                              have k5760 : H5754 r0 2 = v5727 := wq_u_s e5755
                              exact wp_return e16 c16_285 rfl ⟨rfl, w5756, f5757, rfl⟩
                            · refine wp_of e16 c16_234 (rw_aload_n (pc' := 235) (v := .ref r0) rfl rfl rfl ?_)
                              refine wp_of e16 c16_235 (rw_aload_n (pc' := 236) (v := .ref r0) rfl rfl rfl ?_)
                              have k5761 : H5728 r0 0 = H5118 r0 0 := ((f5730 r0 0 _ g0 rfl).trans (wq_u_j e5668 rfl))
                              have q5762 : H5728 r0 0 = (rb : Int) := k5761.trans q5660
                              refine wp_of e16 c16_236 (xg_K (pc' := 239) lf_2_7 w5729 g0 sh_4 (by decide) (by decide) rfl q5762 rfl ?_)
                              refine wp_of e16 c16_239 (rw_iload_n (pc' := 240) (z := v5727) rfl rfl ?_)
                              refine wp_of e16 c16_240 (xa_B (by decide) (pc' := 241) w5729 grb sh_2 (by decide) (ty_2 _) (by omega) (by omega) rfl (fun b5763 b5764 => ?_))
                              refine wp_of e16 c16_241 (rw_bipush (pc' := 243) (z := 59) rfl (by decide) ?_)
                              refine wp_of e16 c16_243 (rw_icmp_ne (p1 := 250) (p2 := 246) (by decide) rfl ⟨by omega, by omega⟩ ⟨by omega, by omega⟩ (fun c5765 => ?_) (fun c5765 => ?_))
                              · refine wp_of e16 c16_250 (rw_aload_n (pc' := 251) (v := .ref r0) rfl rfl rfl ?_)
                                refine wp_of e16 c16_251 (xg_K (pc' := 254) lf_2_7 w5729 g0 sh_4 (by decide) (by decide) rfl q5762 rfl ?_)
                                refine wp_of e16 c16_254 (rw_iload_n (pc' := 255) (z := v5727) rfl rfl ?_)
                                refine wp_of e16 c16_255 (xa_B (by decide) (pc' := 256) w5729 grb sh_2 (by decide) (ty_2 _) (by omega) (by omega) rfl (fun b5766 b5767 => ?_))
                                refine wp_of e16 c16_256 (rw_bipush (pc' := 258) (z := 44) rfl (by decide) ?_)
                                refine wp_of e16 c16_258 (rw_icmp_ne (p1 := 265) (p2 := 261) (by decide) rfl ⟨by omega, by omega⟩ ⟨by omega, by omega⟩ (fun c5768 => ?_) (fun c5768 => ?_))
                                · refine wp_of e16 c16_265 (rw_iconst (pc' := 266) rfl ?_)
                                  refine wp_of e16 c16_266 (xp_I (pc' := 269) lf_2_41 w5729 g0 sh_4 (by decide) (by decide) ty_4_3 rfl rfl (by omega) (by omega) ⟨by omega, by omega⟩ rfl (fun H5769 e5770 w5771 => ?_))
                                  have f5772 := f5733.put' e5770 g0 rfl
                                  have f5773 := f5734.put' e5770 g0 rfl
                                  have f5774 := f5730.put' e5770 g0 rfl
                                  have k5775 : H5769 r0 3 = 5 := wq_u_s e5770
                                  refine wp_of e16 c16_269 (rw_iinc (pc' := 272) (z := v5727) (L' := [(1, vI (v5727 + 1)), (3, vI ((v5727 - (H5728 r0 4)) - (v5117 - (H5118 r0 4)))), (2, vI (v5117 - (H5118 r0 4))), (0, .ref r0)]) rfl rfl rfl rfl ?_)
                                  refine wp_of e16 c16_272 (rw_goto (p1 := 280) (by decide) ?_)
                                  refine wp_of e16 c16_280 (rw_aload_n (pc' := 281) (v := .ref r0) rfl rfl rfl ?_)
                                  refine wp_of e16 c16_281 (rw_iload_n (pc' := 282) (z := v5727 + 1) rfl rfl ?_)
                                  refine wp_of e16 c16_282 (xp_I (pc' := 285) lf_2_23 w5771 g0 sh_4 (by decide) (by decide) ty_4_2 rfl rfl (by omega) (by omega) ⟨by omega, by omega⟩ rfl (fun H5776 e5777 w5778 => ?_))
                                  have f5779 := f5772.put' e5777 g0 rfl
                                  have f5780 := f5773.put' e5777 g0 rfl
                                  have f5781 := f5774.put' e5777 g0 rfl
                                  have k5782 : H5776 r0 2 = v5727 + 1 := wq_u_s e5777
                                  exact wp_return e16 c16_285 rfl ⟨rfl, w5778, f5779, rfl⟩
                                · refine wp_of e16 c16_261 (rw_iconst (pc' := 262) rfl ?_)
                                  refine wp_of e16 c16_262 (rw_goto (p1 := 266) (by decide) ?_)
                                  refine wp_of e16 c16_266 (xp_I (pc' := 269) lf_2_41 w5729 g0 sh_4 (by decide) (by decide) ty_4_3 rfl rfl (by omega) (by omega) ⟨by omega, by omega⟩ rfl (fun H5783 e5784 w5785 => ?_))
                                  have f5786 := f5733.put' e5784 g0 rfl
                                  have f5787 := f5734.put' e5784 g0 rfl
                                  have f5788 := f5730.put' e5784 g0 rfl
                                  have k5789 : H5783 r0 3 = 4 := wq_u_s e5784
                                  refine wp_of e16 c16_269 (rw_iinc (pc' := 272) (z := v5727) (L' := [(1, vI (v5727 + 1)), (3, vI ((v5727 - (H5728 r0 4)) - (v5117 - (H5118 r0 4)))), (2, vI (v5117 - (H5118 r0 4))), (0, .ref r0)]) rfl rfl rfl rfl ?_)
                                  refine wp_of e16 c16_272 (rw_goto (p1 := 280) (by decide) ?_)
                                  refine wp_of e16 c16_280 (rw_aload_n (pc' := 281) (v := .ref r0) rfl rfl rfl ?_)
                                  refine wp_of e16 c16_281 (rw_iload_n (pc' := 282) (z := v5727 + 1) rfl rfl ?_)
                                  refine wp_of e16 c16_282 (xp_I (pc' := 285) lf_2_23 w5785 g0 sh_4 (by decide) (by decide) ty_4_2 rfl rfl (by omega) (by omega) ⟨by omega, by omega⟩ rfl (fun H5790 e5791 w5792 => ?_))
                                  have f5793 := f5786.put' e5791 g0 rfl
                                  have f5794 := f5787.put' e5791 g0 rfl
                                  have f5795 := f5788.put' e5791 g0 rfl
                                  have k5796 : H5790 r0 2 = v5727 + 1 := wq_u_s e5791
                                  exact wp_return e16 c16_285 rfl ⟨rfl, w5792, f5793, rfl⟩
                              · refine wp_of e16 c16_246 (rw_iconst (pc' := 247) rfl ?_)
                                refine wp_of e16 c16_247 (rw_goto (p1 := 266) (by decide) ?_)
                                refine wp_of e16 c16_266 (xp_I (pc' := 269) lf_2_41 w5729 g0 sh_4 (by decide) (by decide) ty_4_3 rfl rfl (by omega) (by omega) ⟨by omega, by omega⟩ rfl (fun H5797 e5798 w5799 => ?_))
                                have f5800 := f5733.put' e5798 g0 rfl
                                have f5801 := f5734.put' e5798 g0 rfl
                                have f5802 := f5730.put' e5798 g0 rfl
                                have k5803 : H5797 r0 3 = 3 := wq_u_s e5798
                                refine wp_of e16 c16_269 (rw_iinc (pc' := 272) (z := v5727) (L' := [(1, vI (v5727 + 1)), (3, vI ((v5727 - (H5728 r0 4)) - (v5117 - (H5118 r0 4)))), (2, vI (v5117 - (H5118 r0 4))), (0, .ref r0)]) rfl rfl rfl rfl ?_)
                                refine wp_of e16 c16_272 (rw_goto (p1 := 280) (by decide) ?_)
                                refine wp_of e16 c16_280 (rw_aload_n (pc' := 281) (v := .ref r0) rfl rfl rfl ?_)
                                refine wp_of e16 c16_281 (rw_iload_n (pc' := 282) (z := v5727 + 1) rfl rfl ?_)
                                refine wp_of e16 c16_282 (xp_I (pc' := 285) lf_2_23 w5799 g0 sh_4 (by decide) (by decide) ty_4_2 rfl rfl (by omega) (by omega) ⟨by omega, by omega⟩ rfl (fun H5804 e5805 w5806 => ?_))
                                have f5807 := f5800.put' e5805 g0 rfl
                                have f5808 := f5801.put' e5805 g0 rfl
                                have f5809 := f5802.put' e5805 g0 rfl
                                have k5810 : H5804 r0 2 = v5727 + 1 := wq_u_s e5805
                                exact wp_return e16 c16_285 rfl ⟨rfl, w5806, f5807, rfl⟩
                          · refine wp_of e16 c16_209 (rw_aload_n (pc' := 210) (v := .ref r0) rfl rfl rfl ?_)
                            refine wp_of e16 c16_210 (rw_iload_n (pc' := 211) (z := (v5727 - (H5728 r0 4)) - (v5117 - (H5118 r0 4))) rfl rfl ?_)
                            refine wp_of e16 c16_211 (rw_iconst (pc' := 212) rfl ?_)
                            refine wp_of e16 c16_212 (rw_icmp_gt (p1 := 219) (p2 := 215) (by decide) rfl ⟨by omega, by omega⟩ ⟨by omega, by omega⟩ (fun c5811 => ?_) (fun c5811 => ?_))
                            · refine wp_of e16 c16_219 (rw_iconst (pc' := 220) rfl ?_)
                              refine wp_of e16 c16_220 (xp_I (pc' := 223) lf_2_41 w5729 g0 sh_4 (by decide) (by decide) ty_4_3 rfl rfl (by omega) (by omega) ⟨by omega, by omega⟩ rfl (fun H5812 e5813 w5814 => ?_))
                              have f5815 := f5733.put' e5813 g0 rfl
                              have f5816 := f5734.put' e5813 g0 rfl
                              have f5817 := f5730.put' e5813 g0 rfl
                              have k5818 : H5812 r0 3 = 5 := wq_u_s e5813
                              refine wp_of e16 c16_223 (rw_goto (p1 := 280) (by decide) ?_)
                              refine wp_of e16 c16_280 (rw_aload_n (pc' := 281) (v := .ref r0) rfl rfl rfl ?_)
                              refine wp_of e16 c16_281 (rw_iload_n (pc' := 282) (z := v5727) rfl rfl ?_)
                              refine wp_of e16 c16_282 (xp_I (pc' := 285) lf_2_23 w5814 g0 sh_4 (by decide) (by decide) ty_4_2 rfl rfl (by omega) (by omega) ⟨by omega, by omega⟩ rfl (fun H5819 e5820 w5821 => ?_))
                              have f5822 := f5815.put' e5820 g0 rfl
                              have f5823 := f5816.put' e5820 g0 rfl
                              have f5824 := f5817.put' e5820 g0 rfl
                              have k5825 : H5819 r0 2 = v5727 := wq_u_s e5820
                              exact wp_return e16 c16_285 rfl ⟨rfl, w5821, f5822, rfl⟩
                            · refine wp_of e16 c16_215 (rw_iconst (pc' := 216) rfl ?_)
                              refine wp_of e16 c16_216 (rw_goto (p1 := 220) (by decide) ?_)
                              refine wp_of e16 c16_220 (xp_I (pc' := 223) lf_2_41 w5729 g0 sh_4 (by decide) (by decide) ty_4_3 rfl rfl (by omega) (by omega) ⟨by omega, by omega⟩ rfl (fun H5826 e5827 w5828 => ?_))
                              have f5829 := f5733.put' e5827 g0 rfl
                              have f5830 := f5734.put' e5827 g0 rfl
                              have f5831 := f5730.put' e5827 g0 rfl
                              have k5832 : H5826 r0 3 = 2 := wq_u_s e5827
                              refine wp_of e16 c16_223 (rw_goto (p1 := 280) (by decide) ?_)
                              refine wp_of e16 c16_280 (rw_aload_n (pc' := 281) (v := .ref r0) rfl rfl rfl ?_)
                              refine wp_of e16 c16_281 (rw_iload_n (pc' := 282) (z := v5727) rfl rfl ?_)
                              refine wp_of e16 c16_282 (xp_I (pc' := 285) lf_2_23 w5828 g0 sh_4 (by decide) (by decide) ty_4_2 rfl rfl (by omega) (by omega) ⟨by omega, by omega⟩ rfl (fun H5833 e5834 w5835 => ?_))
                              have f5836 := f5829.put' e5834 g0 rfl
                              have f5837 := f5830.put' e5834 g0 rfl
                              have f5838 := f5831.put' e5834 g0 rfl
                              have k5839 : H5833 r0 2 = v5727 := wq_u_s e5834
                              exact wp_return e16 c16_285 rfl ⟨rfl, w5835, f5836, rfl⟩
                        · refine wp_of e16 c16_187 (rw_aload_n (pc' := 188) (v := .ref r0) rfl rfl rfl ?_)
                          refine wp_of e16 c16_188 (rw_iload_n (pc' := 189) (z := v5117 - (H5118 r0 4)) rfl rfl ?_)
                          refine wp_of e16 c16_189 (rw_bipush (pc' := 191) (z := 8) rfl (by decide) ?_)
                          refine wp_of e16 c16_191 (rw_icmp_gt (p1 := 198) (p2 := 194) (by decide) rfl ⟨by omega, by omega⟩ ⟨by omega, by omega⟩ (fun c5840 => ?_) (fun c5840 => ?_))
                          · refine wp_of e16 c16_198 (rw_iconst (pc' := 199) rfl ?_)
                            refine wp_of e16 c16_199 (xp_I (pc' := 202) lf_2_41 w5729 g0 sh_4 (by decide) (by decide) ty_4_3 rfl rfl (by omega) (by omega) ⟨by omega, by omega⟩ rfl (fun H5841 e5842 w5843 => ?_))
                            have f5844 := f5733.put' e5842 g0 rfl
                            have f5845 := f5734.put' e5842 g0 rfl
                            have f5846 := f5730.put' e5842 g0 rfl
                            have k5847 : H5841 r0 3 = 5 := wq_u_s e5842
                            refine wp_of e16 c16_202 (rw_goto (p1 := 280) (by decide) ?_)
                            refine wp_of e16 c16_280 (rw_aload_n (pc' := 281) (v := .ref r0) rfl rfl rfl ?_)
                            refine wp_of e16 c16_281 (rw_iload_n (pc' := 282) (z := v5727) rfl rfl ?_)
                            refine wp_of e16 c16_282 (xp_I (pc' := 285) lf_2_23 w5843 g0 sh_4 (by decide) (by decide) ty_4_2 rfl rfl (by omega) (by omega) ⟨by omega, by omega⟩ rfl (fun H5848 e5849 w5850 => ?_))
                            have f5851 := f5844.put' e5849 g0 rfl
                            have f5852 := f5845.put' e5849 g0 rfl
                            have f5853 := f5846.put' e5849 g0 rfl
                            have k5854 : H5848 r0 2 = v5727 := wq_u_s e5849
                            exact wp_return e16 c16_285 rfl ⟨rfl, w5850, f5851, rfl⟩
                          · refine wp_of e16 c16_194 (rw_iconst (pc' := 195) rfl ?_)
                            refine wp_of e16 c16_195 (rw_goto (p1 := 199) (by decide) ?_)
                            refine wp_of e16 c16_199 (xp_I (pc' := 202) lf_2_41 w5729 g0 sh_4 (by decide) (by decide) ty_4_3 rfl rfl (by omega) (by omega) ⟨by omega, by omega⟩ rfl (fun H5855 e5856 w5857 => ?_))
                            have f5858 := f5733.put' e5856 g0 rfl
                            have f5859 := f5734.put' e5856 g0 rfl
                            have f5860 := f5730.put' e5856 g0 rfl
                            have k5861 : H5855 r0 3 = 1 := wq_u_s e5856
                            refine wp_of e16 c16_202 (rw_goto (p1 := 280) (by decide) ?_)
                            refine wp_of e16 c16_280 (rw_aload_n (pc' := 281) (v := .ref r0) rfl rfl rfl ?_)
                            refine wp_of e16 c16_281 (rw_iload_n (pc' := 282) (z := v5727) rfl rfl ?_)
                            refine wp_of e16 c16_282 (xp_I (pc' := 285) lf_2_23 w5857 g0 sh_4 (by decide) (by decide) ty_4_2 rfl rfl (by omega) (by omega) ⟨by omega, by omega⟩ rfl (fun H5862 e5863 w5864 => ?_))
                            have f5865 := f5858.put' e5863 g0 rfl
                            have f5866 := f5859.put' e5863 g0 rfl
                            have f5867 := f5860.put' e5863 g0 rfl
                            have k5868 : H5862 r0 2 = v5727 := wq_u_s e5863
                            exact wp_return e16 c16_285 rfl ⟨rfl, w5864, f5865, rfl⟩
                      · refine wp_of e16 c16_121 (rw_iload_n (pc' := 122) (z := v5117 - (H5118 r0 4)) rfl rfl ?_)
                        refine wp_of e16 c16_122 (rw_if_ne (p1 := 174) (p2 := 125) (by decide) rfl ⟨by omega, by omega⟩ (fun c5869 => ?_) (fun c5869 => ?_))
                        · refine wp_of e16 c16_174 (rw_iload_n (pc' := 175) (z := v5727) rfl rfl ?_)
                          refine wp_of e16 c16_175 (rw_aload_n (pc' := 176) (v := .ref r0) rfl rfl rfl ?_)
                          have k5870 : H5728 r0 4 = H5118 r0 4 := ((f5730 r0 4 _ g0 rfl).trans (wq_u_j e5668 rfl))
                          refine wp_of e16 c16_176 (xg_I (pc' := 179) lf_2_29 w5729 g0 sh_4 (by decide) (by decide) ty_4_4 rfl rfl (fun b5871 b5872 => ?_))
                          refine wp_of e16 c16_179 (rw_isub (pc' := 180) rfl ?_)
                          refine wp_of e16 c16_180 (rw_iload_n (pc' := 181) (z := v5117 - (H5118 r0 4)) rfl rfl ?_)
                          refine wp_of e16 c16_181 (rw_isub (pc' := 182) rfl ?_)
                          refine wp_of e16 c16_182 (rw_istore_n (pc' := 183) (z := (v5727 - (H5728 r0 4)) - (v5117 - (H5118 r0 4))) (L' := [(3, vI ((v5727 - (H5728 r0 4)) - (v5117 - (H5118 r0 4)))), (1, vI v5727), (2, vI (v5117 - (H5118 r0 4))), (0, .ref r0)]) rfl rfl rfl ?_)
                          refine wp_of e16 c16_183 (rw_iload_n (pc' := 184) (z := v5117 - (H5118 r0 4)) rfl rfl ?_)
                          refine wp_of e16 c16_184 (rw_if_le (p1 := 205) (p2 := 187) (by decide) rfl ⟨by omega, by omega⟩ (fun c5873 => ?_) (fun c5873 => ?_))
                          · refine wp_of e16 c16_205 (rw_iload_n (pc' := 206) (z := (v5727 - (H5728 r0 4)) - (v5117 - (H5118 r0 4))) rfl rfl ?_)
                            refine wp_of e16 c16_206 (rw_if_le (p1 := 226) (p2 := 209) (by decide) rfl ⟨by omega, by omega⟩ (fun c5874 => ?_) (fun c5874 => ?_))
                            · refine wp_of e16 c16_226 (rw_iload_n (pc' := 227) (z := v5727) rfl rfl ?_)
                              refine wp_of e16 c16_227 (rw_aload_n (pc' := 228) (v := .ref r0) rfl rfl rfl ?_)
                              refine wp_of e16 c16_228 (xg_I (pc' := 231) lf_2_19 w5729 g0 sh_4 (by decide) (by decide) ty_4_1 rfl rfl (fun b5875 b5876 => ?_))
                              refine wp_of e16 c16_231 (rw_icmp_ge (p1 := 275) (p2 := 234) (by decide) rfl ⟨by omega, by omega⟩ ⟨by omega, by omega⟩ (fun c5877 => ?_) (fun c5877 => ?_))
                              · refine wp_of e16 c16_275 (rw_aload_n (pc' := 276) (v := .ref r0) rfl rfl rfl ?_)
                                refine wp_of e16 c16_276 (rw_iconst (pc' := 277) rfl ?_)
                                refine wp_of e16 c16_277 (xp_I (pc' := 280) lf_2_41 w5729 g0 sh_4 (by decide) (by decide) ty_4_3 rfl rfl (by omega) (by omega) ⟨by omega, by omega⟩ rfl (fun H5878 e5879 w5880 => ?_))
                                have f5881 := f5733.put' e5879 g0 rfl
                                have f5882 := f5734.put' e5879 g0 rfl
                                have f5883 := f5730.put' e5879 g0 rfl
                                have k5884 : H5878 r0 3 = 0 := wq_u_s e5879
                                refine wp_of e16 c16_280 (rw_aload_n (pc' := 281) (v := .ref r0) rfl rfl rfl ?_)
                                refine wp_of e16 c16_281 (rw_iload_n (pc' := 282) (z := v5727) rfl rfl ?_)
                                refine wp_of e16 c16_282 (xp_I (pc' := 285) lf_2_23 w5880 g0 sh_4 (by decide) (by decide) ty_4_2 rfl rfl (by omega) (by omega) ⟨by omega, by omega⟩ rfl (fun H5885 e5886 w5887 => ?_))
                                have f5888 := f5881.put' e5886 g0 rfl
                                have f5889 := f5882.put' e5886 g0 rfl
                                have f5890 := f5883.put' e5886 g0 rfl
                                have k5891 : H5885 r0 2 = v5727 := wq_u_s e5886
                                exact wp_return e16 c16_285 rfl ⟨rfl, w5887, f5888, rfl⟩
                              · refine wp_of e16 c16_234 (rw_aload_n (pc' := 235) (v := .ref r0) rfl rfl rfl ?_)
                                refine wp_of e16 c16_235 (rw_aload_n (pc' := 236) (v := .ref r0) rfl rfl rfl ?_)
                                have k5892 : H5728 r0 0 = H5118 r0 0 := ((f5730 r0 0 _ g0 rfl).trans (wq_u_j e5668 rfl))
                                have q5893 : H5728 r0 0 = (rb : Int) := k5892.trans q5660
                                refine wp_of e16 c16_236 (xg_K (pc' := 239) lf_2_7 w5729 g0 sh_4 (by decide) (by decide) rfl q5893 rfl ?_)
                                refine wp_of e16 c16_239 (rw_iload_n (pc' := 240) (z := v5727) rfl rfl ?_)
                                refine wp_of e16 c16_240 (xa_B (by decide) (pc' := 241) w5729 grb sh_2 (by decide) (ty_2 _) (by omega) (by omega) rfl (fun b5894 b5895 => ?_))
                                refine wp_of e16 c16_241 (rw_bipush (pc' := 243) (z := 59) rfl (by decide) ?_)
                                refine wp_of e16 c16_243 (rw_icmp_ne (p1 := 250) (p2 := 246) (by decide) rfl ⟨by omega, by omega⟩ ⟨by omega, by omega⟩ (fun c5896 => ?_) (fun c5896 => ?_))
                                · refine wp_of e16 c16_250 (rw_aload_n (pc' := 251) (v := .ref r0) rfl rfl rfl ?_)
                                  refine wp_of e16 c16_251 (xg_K (pc' := 254) lf_2_7 w5729 g0 sh_4 (by decide) (by decide) rfl q5893 rfl ?_)
                                  refine wp_of e16 c16_254 (rw_iload_n (pc' := 255) (z := v5727) rfl rfl ?_)
                                  refine wp_of e16 c16_255 (xa_B (by decide) (pc' := 256) w5729 grb sh_2 (by decide) (ty_2 _) (by omega) (by omega) rfl (fun b5897 b5898 => ?_))
                                  refine wp_of e16 c16_256 (rw_bipush (pc' := 258) (z := 44) rfl (by decide) ?_)
                                  refine wp_of e16 c16_258 (rw_icmp_ne (p1 := 265) (p2 := 261) (by decide) rfl ⟨by omega, by omega⟩ ⟨by omega, by omega⟩ (fun c5899 => ?_) (fun c5899 => ?_))
                                  · refine wp_of e16 c16_265 (rw_iconst (pc' := 266) rfl ?_)
                                    refine wp_of e16 c16_266 (xp_I (pc' := 269) lf_2_41 w5729 g0 sh_4 (by decide) (by decide) ty_4_3 rfl rfl (by omega) (by omega) ⟨by omega, by omega⟩ rfl (fun H5900 e5901 w5902 => ?_))
                                    have f5903 := f5733.put' e5901 g0 rfl
                                    have f5904 := f5734.put' e5901 g0 rfl
                                    have f5905 := f5730.put' e5901 g0 rfl
                                    have k5906 : H5900 r0 3 = 5 := wq_u_s e5901
                                    refine wp_of e16 c16_269 (rw_iinc (pc' := 272) (z := v5727) (L' := [(1, vI (v5727 + 1)), (3, vI ((v5727 - (H5728 r0 4)) - (v5117 - (H5118 r0 4)))), (2, vI (v5117 - (H5118 r0 4))), (0, .ref r0)]) rfl rfl rfl rfl ?_)
                                    refine wp_of e16 c16_272 (rw_goto (p1 := 280) (by decide) ?_)
                                    refine wp_of e16 c16_280 (rw_aload_n (pc' := 281) (v := .ref r0) rfl rfl rfl ?_)
                                    refine wp_of e16 c16_281 (rw_iload_n (pc' := 282) (z := v5727 + 1) rfl rfl ?_)
                                    refine wp_of e16 c16_282 (xp_I (pc' := 285) lf_2_23 w5902 g0 sh_4 (by decide) (by decide) ty_4_2 rfl rfl (by omega) (by omega) ⟨by omega, by omega⟩ rfl (fun H5907 e5908 w5909 => ?_))
                                    have f5910 := f5903.put' e5908 g0 rfl
                                    have f5911 := f5904.put' e5908 g0 rfl
                                    have f5912 := f5905.put' e5908 g0 rfl
                                    have k5913 : H5907 r0 2 = v5727 + 1 := wq_u_s e5908
                                    exact wp_return e16 c16_285 rfl ⟨rfl, w5909, f5910, rfl⟩
                                  · refine wp_of e16 c16_261 (rw_iconst (pc' := 262) rfl ?_)
                                    refine wp_of e16 c16_262 (rw_goto (p1 := 266) (by decide) ?_)
                                    refine wp_of e16 c16_266 (xp_I (pc' := 269) lf_2_41 w5729 g0 sh_4 (by decide) (by decide) ty_4_3 rfl rfl (by omega) (by omega) ⟨by omega, by omega⟩ rfl (fun H5914 e5915 w5916 => ?_))
                                    have f5917 := f5733.put' e5915 g0 rfl
                                    have f5918 := f5734.put' e5915 g0 rfl
                                    have f5919 := f5730.put' e5915 g0 rfl
                                    have k5920 : H5914 r0 3 = 4 := wq_u_s e5915
                                    refine wp_of e16 c16_269 (rw_iinc (pc' := 272) (z := v5727) (L' := [(1, vI (v5727 + 1)), (3, vI ((v5727 - (H5728 r0 4)) - (v5117 - (H5118 r0 4)))), (2, vI (v5117 - (H5118 r0 4))), (0, .ref r0)]) rfl rfl rfl rfl ?_)
                                    refine wp_of e16 c16_272 (rw_goto (p1 := 280) (by decide) ?_)
                                    refine wp_of e16 c16_280 (rw_aload_n (pc' := 281) (v := .ref r0) rfl rfl rfl ?_)
                                    refine wp_of e16 c16_281 (rw_iload_n (pc' := 282) (z := v5727 + 1) rfl rfl ?_)
                                    refine wp_of e16 c16_282 (xp_I (pc' := 285) lf_2_23 w5916 g0 sh_4 (by decide) (by decide) ty_4_2 rfl rfl (by omega) (by omega) ⟨by omega, by omega⟩ rfl (fun H5921 e5922 w5923 => ?_))
                                    have f5924 := f5917.put' e5922 g0 rfl
                                    have f5925 := f5918.put' e5922 g0 rfl
                                    have f5926 := f5919.put' e5922 g0 rfl
                                    have k5927 : H5921 r0 2 = v5727 + 1 := wq_u_s e5922
                                    exact wp_return e16 c16_285 rfl ⟨rfl, w5923, f5924, rfl⟩
                                · refine wp_of e16 c16_246 (rw_iconst (pc' := 247) rfl ?_)
                                  refine wp_of e16 c16_247 (rw_goto (p1 := 266) (by decide) ?_)
                                  refine wp_of e16 c16_266 (xp_I (pc' := 269) lf_2_41 w5729 g0 sh_4 (by decide) (by decide) ty_4_3 rfl rfl (by omega) (by omega) ⟨by omega, by omega⟩ rfl (fun H5928 e5929 w5930 => ?_))
                                  have f5931 := f5733.put' e5929 g0 rfl
                                  have f5932 := f5734.put' e5929 g0 rfl
                                  have f5933 := f5730.put' e5929 g0 rfl
                                  have k5934 : H5928 r0 3 = 3 := wq_u_s e5929
                                  refine wp_of e16 c16_269 (rw_iinc (pc' := 272) (z := v5727) (L' := [(1, vI (v5727 + 1)), (3, vI ((v5727 - (H5728 r0 4)) - (v5117 - (H5118 r0 4)))), (2, vI (v5117 - (H5118 r0 4))), (0, .ref r0)]) rfl rfl rfl rfl ?_)
                                  refine wp_of e16 c16_272 (rw_goto (p1 := 280) (by decide) ?_)
                                  refine wp_of e16 c16_280 (rw_aload_n (pc' := 281) (v := .ref r0) rfl rfl rfl ?_)
                                  refine wp_of e16 c16_281 (rw_iload_n (pc' := 282) (z := v5727 + 1) rfl rfl ?_)
                                  refine wp_of e16 c16_282 (xp_I (pc' := 285) lf_2_23 w5930 g0 sh_4 (by decide) (by decide) ty_4_2 rfl rfl (by omega) (by omega) ⟨by omega, by omega⟩ rfl (fun H5935 e5936 w5937 => ?_))
                                  have f5938 := f5931.put' e5936 g0 rfl
                                  have f5939 := f5932.put' e5936 g0 rfl
                                  have f5940 := f5933.put' e5936 g0 rfl
                                  have k5941 : H5935 r0 2 = v5727 + 1 := wq_u_s e5936
                                  exact wp_return e16 c16_285 rfl ⟨rfl, w5937, f5938, rfl⟩
                            · refine wp_of e16 c16_209 (rw_aload_n (pc' := 210) (v := .ref r0) rfl rfl rfl ?_)
                              refine wp_of e16 c16_210 (rw_iload_n (pc' := 211) (z := (v5727 - (H5728 r0 4)) - (v5117 - (H5118 r0 4))) rfl rfl ?_)
                              refine wp_of e16 c16_211 (rw_iconst (pc' := 212) rfl ?_)
                              refine wp_of e16 c16_212 (rw_icmp_gt (p1 := 219) (p2 := 215) (by decide) rfl ⟨by omega, by omega⟩ ⟨by omega, by omega⟩ (fun c5942 => ?_) (fun c5942 => ?_))
                              · refine wp_of e16 c16_219 (rw_iconst (pc' := 220) rfl ?_)
                                refine wp_of e16 c16_220 (xp_I (pc' := 223) lf_2_41 w5729 g0 sh_4 (by decide) (by decide) ty_4_3 rfl rfl (by omega) (by omega) ⟨by omega, by omega⟩ rfl (fun H5943 e5944 w5945 => ?_))
                                have f5946 := f5733.put' e5944 g0 rfl
                                have f5947 := f5734.put' e5944 g0 rfl
                                have f5948 := f5730.put' e5944 g0 rfl
                                have k5949 : H5943 r0 3 = 5 := wq_u_s e5944
                                refine wp_of e16 c16_223 (rw_goto (p1 := 280) (by decide) ?_)
                                refine wp_of e16 c16_280 (rw_aload_n (pc' := 281) (v := .ref r0) rfl rfl rfl ?_)
                                refine wp_of e16 c16_281 (rw_iload_n (pc' := 282) (z := v5727) rfl rfl ?_)
                                refine wp_of e16 c16_282 (xp_I (pc' := 285) lf_2_23 w5945 g0 sh_4 (by decide) (by decide) ty_4_2 rfl rfl (by omega) (by omega) ⟨by omega, by omega⟩ rfl (fun H5950 e5951 w5952 => ?_))
                                have f5953 := f5946.put' e5951 g0 rfl
                                have f5954 := f5947.put' e5951 g0 rfl
                                have f5955 := f5948.put' e5951 g0 rfl
                                have k5956 : H5950 r0 2 = v5727 := wq_u_s e5951
                                exact wp_return e16 c16_285 rfl ⟨rfl, w5952, f5953, rfl⟩
                              · refine wp_of e16 c16_215 (rw_iconst (pc' := 216) rfl ?_)
                                refine wp_of e16 c16_216 (rw_goto (p1 := 220) (by decide) ?_)
                                refine wp_of e16 c16_220 (xp_I (pc' := 223) lf_2_41 w5729 g0 sh_4 (by decide) (by decide) ty_4_3 rfl rfl (by omega) (by omega) ⟨by omega, by omega⟩ rfl (fun H5957 e5958 w5959 => ?_))
                                have f5960 := f5733.put' e5958 g0 rfl
                                have f5961 := f5734.put' e5958 g0 rfl
                                have f5962 := f5730.put' e5958 g0 rfl
                                have k5963 : H5957 r0 3 = 2 := wq_u_s e5958
                                refine wp_of e16 c16_223 (rw_goto (p1 := 280) (by decide) ?_)
                                refine wp_of e16 c16_280 (rw_aload_n (pc' := 281) (v := .ref r0) rfl rfl rfl ?_)
                                refine wp_of e16 c16_281 (rw_iload_n (pc' := 282) (z := v5727) rfl rfl ?_)
                                refine wp_of e16 c16_282 (xp_I (pc' := 285) lf_2_23 w5959 g0 sh_4 (by decide) (by decide) ty_4_2 rfl rfl (by omega) (by omega) ⟨by omega, by omega⟩ rfl (fun H5964 e5965 w5966 => ?_))
                                have f5967 := f5960.put' e5965 g0 rfl
                                have f5968 := f5961.put' e5965 g0 rfl
                                have f5969 := f5962.put' e5965 g0 rfl
                                have k5970 : H5964 r0 2 = v5727 := wq_u_s e5965
                                exact wp_return e16 c16_285 rfl ⟨rfl, w5966, f5967, rfl⟩
                          · refine wp_of e16 c16_187 (rw_aload_n (pc' := 188) (v := .ref r0) rfl rfl rfl ?_)
                            refine wp_of e16 c16_188 (rw_iload_n (pc' := 189) (z := v5117 - (H5118 r0 4)) rfl rfl ?_)
                            refine wp_of e16 c16_189 (rw_bipush (pc' := 191) (z := 8) rfl (by decide) ?_)
                            refine wp_of e16 c16_191 (rw_icmp_gt (p1 := 198) (p2 := 194) (by decide) rfl ⟨by omega, by omega⟩ ⟨by omega, by omega⟩ (fun c5971 => ?_) (fun c5971 => ?_))
                            · refine wp_of e16 c16_198 (rw_iconst (pc' := 199) rfl ?_)
                              refine wp_of e16 c16_199 (xp_I (pc' := 202) lf_2_41 w5729 g0 sh_4 (by decide) (by decide) ty_4_3 rfl rfl (by omega) (by omega) ⟨by omega, by omega⟩ rfl (fun H5972 e5973 w5974 => ?_))
                              have f5975 := f5733.put' e5973 g0 rfl
                              have f5976 := f5734.put' e5973 g0 rfl
                              have f5977 := f5730.put' e5973 g0 rfl
                              have k5978 : H5972 r0 3 = 5 := wq_u_s e5973
                              refine wp_of e16 c16_202 (rw_goto (p1 := 280) (by decide) ?_)
                              refine wp_of e16 c16_280 (rw_aload_n (pc' := 281) (v := .ref r0) rfl rfl rfl ?_)
                              refine wp_of e16 c16_281 (rw_iload_n (pc' := 282) (z := v5727) rfl rfl ?_)
                              refine wp_of e16 c16_282 (xp_I (pc' := 285) lf_2_23 w5974 g0 sh_4 (by decide) (by decide) ty_4_2 rfl rfl (by omega) (by omega) ⟨by omega, by omega⟩ rfl (fun H5979 e5980 w5981 => ?_))
                              have f5982 := f5975.put' e5980 g0 rfl
                              have f5983 := f5976.put' e5980 g0 rfl
                              have f5984 := f5977.put' e5980 g0 rfl
                              have k5985 : H5979 r0 2 = v5727 := wq_u_s e5980
                              exact wp_return e16 c16_285 rfl ⟨rfl, w5981, f5982, rfl⟩
                            · refine wp_of e16 c16_194 (rw_iconst (pc' := 195) rfl ?_)
                              refine wp_of e16 c16_195 (rw_goto (p1 := 199) (by decide) ?_)
                              refine wp_of e16 c16_199 (xp_I (pc' := 202) lf_2_41 w5729 g0 sh_4 (by decide) (by decide) ty_4_3 rfl rfl (by omega) (by omega) ⟨by omega, by omega⟩ rfl (fun H5986 e5987 w5988 => ?_))
                              have f5989 := f5733.put' e5987 g0 rfl
                              have f5990 := f5734.put' e5987 g0 rfl
                              have f5991 := f5730.put' e5987 g0 rfl
                              have k5992 : H5986 r0 3 = 1 := wq_u_s e5987
                              refine wp_of e16 c16_202 (rw_goto (p1 := 280) (by decide) ?_)
                              refine wp_of e16 c16_280 (rw_aload_n (pc' := 281) (v := .ref r0) rfl rfl rfl ?_)
                              refine wp_of e16 c16_281 (rw_iload_n (pc' := 282) (z := v5727) rfl rfl ?_)
                              refine wp_of e16 c16_282 (xp_I (pc' := 285) lf_2_23 w5988 g0 sh_4 (by decide) (by decide) ty_4_2 rfl rfl (by omega) (by omega) ⟨by omega, by omega⟩ rfl (fun H5993 e5994 w5995 => ?_))
                              have f5996 := f5989.put' e5994 g0 rfl
                              have f5997 := f5990.put' e5994 g0 rfl
                              have f5998 := f5991.put' e5994 g0 rfl
                              have k5999 : H5993 r0 2 = v5727 := wq_u_s e5994
                              exact wp_return e16 c16_285 rfl ⟨rfl, w5995, f5996, rfl⟩
                        · refine wp_of e16 c16_125 (rw_aload_n (pc' := 126) (v := .ref r0) rfl rfl rfl ?_)
                          have k6000 : H5728 r0 0 = H5118 r0 0 := ((f5730 r0 0 _ g0 rfl).trans (wq_u_j e5668 rfl))
                          have q6001 : H5728 r0 0 = (rb : Int) := k6000.trans q5660
                          refine wp_of e16 c16_126 (xg_K (pc' := 129) lf_2_7 w5729 g0 sh_4 (by decide) (by decide) rfl q6001 rfl ?_)
                          refine wp_of e16 c16_129 (rw_iload_n (pc' := 130) (z := v5727) rfl rfl ?_)
                          refine wp_of e16 c16_130 (xa_B (by decide) (pc' := 131) w5729 grb sh_2 (by decide) (ty_2 _) (by omega) (by omega) rfl (fun b6002 b6003 => ?_))
                          refine wp_of e16 c16_131 (rw_bipush (pc' := 133) (z := 48) rfl (by decide) ?_)
                          refine wp_of e16 c16_133 (rw_icmp_lt (p1 := 174) (p2 := 136) (by decide) rfl ⟨by omega, by omega⟩ ⟨by omega, by omega⟩ (fun c6004 => ?_) (fun c6004 => ?_))
                          · refine wp_of e16 c16_174 (rw_iload_n (pc' := 175) (z := v5727) rfl rfl ?_)
                            refine wp_of e16 c16_175 (rw_aload_n (pc' := 176) (v := .ref r0) rfl rfl rfl ?_)
                            have k6005 : H5728 r0 4 = H5118 r0 4 := ((f5730 r0 4 _ g0 rfl).trans (wq_u_j e5668 rfl))
                            refine wp_of e16 c16_176 (xg_I (pc' := 179) lf_2_29 w5729 g0 sh_4 (by decide) (by decide) ty_4_4 rfl rfl (fun b6006 b6007 => ?_))
                            refine wp_of e16 c16_179 (rw_isub (pc' := 180) rfl ?_)
                            refine wp_of e16 c16_180 (rw_iload_n (pc' := 181) (z := v5117 - (H5118 r0 4)) rfl rfl ?_)
                            refine wp_of e16 c16_181 (rw_isub (pc' := 182) rfl ?_)
                            refine wp_of e16 c16_182 (rw_istore_n (pc' := 183) (z := (v5727 - (H5728 r0 4)) - (v5117 - (H5118 r0 4))) (L' := [(3, vI ((v5727 - (H5728 r0 4)) - (v5117 - (H5118 r0 4)))), (1, vI v5727), (2, vI (v5117 - (H5118 r0 4))), (0, .ref r0)]) rfl rfl rfl ?_)
                            refine wp_of e16 c16_183 (rw_iload_n (pc' := 184) (z := v5117 - (H5118 r0 4)) rfl rfl ?_)
                            refine wp_of e16 c16_184 (rw_if_le (p1 := 205) (p2 := 187) (by decide) rfl ⟨by omega, by omega⟩ (fun c6008 => ?_) (fun c6008 => ?_))
                            · refine wp_of e16 c16_205 (rw_iload_n (pc' := 206) (z := (v5727 - (H5728 r0 4)) - (v5117 - (H5118 r0 4))) rfl rfl ?_)
                              refine wp_of e16 c16_206 (rw_if_le (p1 := 226) (p2 := 209) (by decide) rfl ⟨by omega, by omega⟩ (fun c6009 => ?_) (fun c6009 => ?_))
                              · refine wp_of e16 c16_226 (rw_iload_n (pc' := 227) (z := v5727) rfl rfl ?_)
                                refine wp_of e16 c16_227 (rw_aload_n (pc' := 228) (v := .ref r0) rfl rfl rfl ?_)
                                refine wp_of e16 c16_228 (xg_I (pc' := 231) lf_2_19 w5729 g0 sh_4 (by decide) (by decide) ty_4_1 rfl rfl (fun b6010 b6011 => ?_))
                                refine wp_of e16 c16_231 (rw_icmp_ge (p1 := 275) (p2 := 234) (by decide) rfl ⟨by omega, by omega⟩ ⟨by omega, by omega⟩ (fun c6012 => ?_) (fun c6012 => ?_))
                                · refine wp_of e16 c16_275 (rw_aload_n (pc' := 276) (v := .ref r0) rfl rfl rfl ?_)
                                  refine wp_of e16 c16_276 (rw_iconst (pc' := 277) rfl ?_)
                                  refine wp_of e16 c16_277 (xp_I (pc' := 280) lf_2_41 w5729 g0 sh_4 (by decide) (by decide) ty_4_3 rfl rfl (by omega) (by omega) ⟨by omega, by omega⟩ rfl (fun H6013 e6014 w6015 => ?_))
                                  have f6016 := f5733.put' e6014 g0 rfl
                                  have f6017 := f5734.put' e6014 g0 rfl
                                  have f6018 := f5730.put' e6014 g0 rfl
                                  have k6019 : H6013 r0 3 = 0 := wq_u_s e6014
                                  refine wp_of e16 c16_280 (rw_aload_n (pc' := 281) (v := .ref r0) rfl rfl rfl ?_)
                                  refine wp_of e16 c16_281 (rw_iload_n (pc' := 282) (z := v5727) rfl rfl ?_)
                                  refine wp_of e16 c16_282 (xp_I (pc' := 285) lf_2_23 w6015 g0 sh_4 (by decide) (by decide) ty_4_2 rfl rfl (by omega) (by omega) ⟨by omega, by omega⟩ rfl (fun H6020 e6021 w6022 => ?_))
                                  have f6023 := f6016.put' e6021 g0 rfl
                                  have f6024 := f6017.put' e6021 g0 rfl
                                  have f6025 := f6018.put' e6021 g0 rfl
                                  have k6026 : H6020 r0 2 = v5727 := wq_u_s e6021
                                  exact wp_return e16 c16_285 rfl ⟨rfl, w6022, f6023, rfl⟩
                                · refine wp_of e16 c16_234 (rw_aload_n (pc' := 235) (v := .ref r0) rfl rfl rfl ?_)
                                  refine wp_of e16 c16_235 (rw_aload_n (pc' := 236) (v := .ref r0) rfl rfl rfl ?_)
                                  refine wp_of e16 c16_236 (xg_K (pc' := 239) lf_2_7 w5729 g0 sh_4 (by decide) (by decide) rfl q6001 rfl ?_)
                                  refine wp_of e16 c16_239 (rw_iload_n (pc' := 240) (z := v5727) rfl rfl ?_)
                                  refine wp_of e16 c16_240 (xa_B (by decide) (pc' := 241) w5729 grb sh_2 (by decide) (ty_2 _) (by omega) (by omega) rfl (fun b6027 b6028 => ?_))
                                  refine wp_of e16 c16_241 (rw_bipush (pc' := 243) (z := 59) rfl (by decide) ?_)
                                  refine wp_of e16 c16_243 (rw_icmp_ne (p1 := 250) (p2 := 246) (by decide) rfl ⟨by omega, by omega⟩ ⟨by omega, by omega⟩ (fun c6029 => ?_) (fun c6029 => ?_))
                                  · refine wp_of e16 c16_250 (rw_aload_n (pc' := 251) (v := .ref r0) rfl rfl rfl ?_)
                                    refine wp_of e16 c16_251 (xg_K (pc' := 254) lf_2_7 w5729 g0 sh_4 (by decide) (by decide) rfl q6001 rfl ?_)
                                    refine wp_of e16 c16_254 (rw_iload_n (pc' := 255) (z := v5727) rfl rfl ?_)
                                    refine wp_of e16 c16_255 (xa_B (by decide) (pc' := 256) w5729 grb sh_2 (by decide) (ty_2 _) (by omega) (by omega) rfl (fun b6030 b6031 => ?_))
                                    refine wp_of e16 c16_256 (rw_bipush (pc' := 258) (z := 44) rfl (by decide) ?_)
                                    refine wp_of e16 c16_258 (rw_icmp_ne (p1 := 265) (p2 := 261) (by decide) rfl ⟨by omega, by omega⟩ ⟨by omega, by omega⟩ (fun c6032 => ?_) (fun c6032 => ?_))
                                    · refine wp_of e16 c16_265 (rw_iconst (pc' := 266) rfl ?_)
                                      refine wp_of e16 c16_266 (xp_I (pc' := 269) lf_2_41 w5729 g0 sh_4 (by decide) (by decide) ty_4_3 rfl rfl (by omega) (by omega) ⟨by omega, by omega⟩ rfl (fun H6033 e6034 w6035 => ?_))
                                      have f6036 := f5733.put' e6034 g0 rfl
                                      have f6037 := f5734.put' e6034 g0 rfl
                                      have f6038 := f5730.put' e6034 g0 rfl
                                      have k6039 : H6033 r0 3 = 5 := wq_u_s e6034
                                      refine wp_of e16 c16_269 (rw_iinc (pc' := 272) (z := v5727) (L' := [(1, vI (v5727 + 1)), (3, vI ((v5727 - (H5728 r0 4)) - (v5117 - (H5118 r0 4)))), (2, vI (v5117 - (H5118 r0 4))), (0, .ref r0)]) rfl rfl rfl rfl ?_)
                                      refine wp_of e16 c16_272 (rw_goto (p1 := 280) (by decide) ?_)
                                      refine wp_of e16 c16_280 (rw_aload_n (pc' := 281) (v := .ref r0) rfl rfl rfl ?_)
                                      refine wp_of e16 c16_281 (rw_iload_n (pc' := 282) (z := v5727 + 1) rfl rfl ?_)
                                      refine wp_of e16 c16_282 (xp_I (pc' := 285) lf_2_23 w6035 g0 sh_4 (by decide) (by decide) ty_4_2 rfl rfl (by omega) (by omega) ⟨by omega, by omega⟩ rfl (fun H6040 e6041 w6042 => ?_))
                                      have f6043 := f6036.put' e6041 g0 rfl
                                      have f6044 := f6037.put' e6041 g0 rfl
                                      have f6045 := f6038.put' e6041 g0 rfl
                                      have k6046 : H6040 r0 2 = v5727 + 1 := wq_u_s e6041
                                      exact wp_return e16 c16_285 rfl ⟨rfl, w6042, f6043, rfl⟩
                                    · refine wp_of e16 c16_261 (rw_iconst (pc' := 262) rfl ?_)
                                      refine wp_of e16 c16_262 (rw_goto (p1 := 266) (by decide) ?_)
                                      refine wp_of e16 c16_266 (xp_I (pc' := 269) lf_2_41 w5729 g0 sh_4 (by decide) (by decide) ty_4_3 rfl rfl (by omega) (by omega) ⟨by omega, by omega⟩ rfl (fun H6047 e6048 w6049 => ?_))
                                      have f6050 := f5733.put' e6048 g0 rfl
                                      have f6051 := f5734.put' e6048 g0 rfl
                                      have f6052 := f5730.put' e6048 g0 rfl
                                      have k6053 : H6047 r0 3 = 4 := wq_u_s e6048
                                      refine wp_of e16 c16_269 (rw_iinc (pc' := 272) (z := v5727) (L' := [(1, vI (v5727 + 1)), (3, vI ((v5727 - (H5728 r0 4)) - (v5117 - (H5118 r0 4)))), (2, vI (v5117 - (H5118 r0 4))), (0, .ref r0)]) rfl rfl rfl rfl ?_)
                                      refine wp_of e16 c16_272 (rw_goto (p1 := 280) (by decide) ?_)
                                      refine wp_of e16 c16_280 (rw_aload_n (pc' := 281) (v := .ref r0) rfl rfl rfl ?_)
                                      refine wp_of e16 c16_281 (rw_iload_n (pc' := 282) (z := v5727 + 1) rfl rfl ?_)
                                      refine wp_of e16 c16_282 (xp_I (pc' := 285) lf_2_23 w6049 g0 sh_4 (by decide) (by decide) ty_4_2 rfl rfl (by omega) (by omega) ⟨by omega, by omega⟩ rfl (fun H6054 e6055 w6056 => ?_))
                                      have f6057 := f6050.put' e6055 g0 rfl
                                      have f6058 := f6051.put' e6055 g0 rfl
                                      have f6059 := f6052.put' e6055 g0 rfl
                                      have k6060 : H6054 r0 2 = v5727 + 1 := wq_u_s e6055
                                      exact wp_return e16 c16_285 rfl ⟨rfl, w6056, f6057, rfl⟩
                                  · exfalso
                                    omega
                              · refine wp_of e16 c16_209 (rw_aload_n (pc' := 210) (v := .ref r0) rfl rfl rfl ?_)
                                refine wp_of e16 c16_210 (rw_iload_n (pc' := 211) (z := (v5727 - (H5728 r0 4)) - (v5117 - (H5118 r0 4))) rfl rfl ?_)
                                refine wp_of e16 c16_211 (rw_iconst (pc' := 212) rfl ?_)
                                refine wp_of e16 c16_212 (rw_icmp_gt (p1 := 219) (p2 := 215) (by decide) rfl ⟨by omega, by omega⟩ ⟨by omega, by omega⟩ (fun c6061 => ?_) (fun c6061 => ?_))
                                · refine wp_of e16 c16_219 (rw_iconst (pc' := 220) rfl ?_)
                                  refine wp_of e16 c16_220 (xp_I (pc' := 223) lf_2_41 w5729 g0 sh_4 (by decide) (by decide) ty_4_3 rfl rfl (by omega) (by omega) ⟨by omega, by omega⟩ rfl (fun H6062 e6063 w6064 => ?_))
                                  have f6065 := f5733.put' e6063 g0 rfl
                                  have f6066 := f5734.put' e6063 g0 rfl
                                  have f6067 := f5730.put' e6063 g0 rfl
                                  have k6068 : H6062 r0 3 = 5 := wq_u_s e6063
                                  refine wp_of e16 c16_223 (rw_goto (p1 := 280) (by decide) ?_)
                                  refine wp_of e16 c16_280 (rw_aload_n (pc' := 281) (v := .ref r0) rfl rfl rfl ?_)
                                  refine wp_of e16 c16_281 (rw_iload_n (pc' := 282) (z := v5727) rfl rfl ?_)
                                  refine wp_of e16 c16_282 (xp_I (pc' := 285) lf_2_23 w6064 g0 sh_4 (by decide) (by decide) ty_4_2 rfl rfl (by omega) (by omega) ⟨by omega, by omega⟩ rfl (fun H6069 e6070 w6071 => ?_))
                                  have f6072 := f6065.put' e6070 g0 rfl
                                  have f6073 := f6066.put' e6070 g0 rfl
                                  have f6074 := f6067.put' e6070 g0 rfl
                                  have k6075 : H6069 r0 2 = v5727 := wq_u_s e6070
                                  exact wp_return e16 c16_285 rfl ⟨rfl, w6071, f6072, rfl⟩
                                · refine wp_of e16 c16_215 (rw_iconst (pc' := 216) rfl ?_)
                                  refine wp_of e16 c16_216 (rw_goto (p1 := 220) (by decide) ?_)
                                  refine wp_of e16 c16_220 (xp_I (pc' := 223) lf_2_41 w5729 g0 sh_4 (by decide) (by decide) ty_4_3 rfl rfl (by omega) (by omega) ⟨by omega, by omega⟩ rfl (fun H6076 e6077 w6078 => ?_))
                                  have f6079 := f5733.put' e6077 g0 rfl
                                  have f6080 := f5734.put' e6077 g0 rfl
                                  have f6081 := f5730.put' e6077 g0 rfl
                                  have k6082 : H6076 r0 3 = 2 := wq_u_s e6077
                                  refine wp_of e16 c16_223 (rw_goto (p1 := 280) (by decide) ?_)
                                  refine wp_of e16 c16_280 (rw_aload_n (pc' := 281) (v := .ref r0) rfl rfl rfl ?_)
                                  refine wp_of e16 c16_281 (rw_iload_n (pc' := 282) (z := v5727) rfl rfl ?_)
                                  refine wp_of e16 c16_282 (xp_I (pc' := 285) lf_2_23 w6078 g0 sh_4 (by decide) (by decide) ty_4_2 rfl rfl (by omega) (by omega) ⟨by omega, by omega⟩ rfl (fun H6083 e6084 w6085 => ?_))
                                  have f6086 := f6079.put' e6084 g0 rfl
                                  have f6087 := f6080.put' e6084 g0 rfl
                                  have f6088 := f6081.put' e6084 g0 rfl
                                  have k6089 : H6083 r0 2 = v5727 := wq_u_s e6084
                                  exact wp_return e16 c16_285 rfl ⟨rfl, w6085, f6086, rfl⟩
                            · exfalso
                              omega
                          · refine wp_of e16 c16_136 (rw_aload_n (pc' := 137) (v := .ref r0) rfl rfl rfl ?_)
                            refine wp_of e16 c16_137 (xg_K (pc' := 140) lf_2_7 w5729 g0 sh_4 (by decide) (by decide) rfl q6001 rfl ?_)
                            refine wp_of e16 c16_140 (rw_iload_n (pc' := 141) (z := v5727) rfl rfl ?_)
                            refine wp_of e16 c16_141 (xa_B (by decide) (pc' := 142) w5729 grb sh_2 (by decide) (ty_2 _) (by omega) (by omega) rfl (fun b6090 b6091 => ?_))
                            refine wp_of e16 c16_142 (rw_bipush (pc' := 144) (z := 57) rfl (by decide) ?_)
                            refine wp_of e16 c16_144 (rw_icmp_gt (p1 := 174) (p2 := 147) (by decide) rfl ⟨by omega, by omega⟩ ⟨by omega, by omega⟩ (fun c6092 => ?_) (fun c6092 => ?_))
                            · refine wp_of e16 c16_174 (rw_iload_n (pc' := 175) (z := v5727) rfl rfl ?_)
                              refine wp_of e16 c16_175 (rw_aload_n (pc' := 176) (v := .ref r0) rfl rfl rfl ?_)
                              have k6093 : H5728 r0 4 = H5118 r0 4 := ((f5730 r0 4 _ g0 rfl).trans (wq_u_j e5668 rfl))
                              refine wp_of e16 c16_176 (xg_I (pc' := 179) lf_2_29 w5729 g0 sh_4 (by decide) (by decide) ty_4_4 rfl rfl (fun b6094 b6095 => ?_))
                              refine wp_of e16 c16_179 (rw_isub (pc' := 180) rfl ?_)
                              refine wp_of e16 c16_180 (rw_iload_n (pc' := 181) (z := v5117 - (H5118 r0 4)) rfl rfl ?_)
                              refine wp_of e16 c16_181 (rw_isub (pc' := 182) rfl ?_)
                              refine wp_of e16 c16_182 (rw_istore_n (pc' := 183) (z := (v5727 - (H5728 r0 4)) - (v5117 - (H5118 r0 4))) (L' := [(3, vI ((v5727 - (H5728 r0 4)) - (v5117 - (H5118 r0 4)))), (1, vI v5727), (2, vI (v5117 - (H5118 r0 4))), (0, .ref r0)]) rfl rfl rfl ?_)
                              refine wp_of e16 c16_183 (rw_iload_n (pc' := 184) (z := v5117 - (H5118 r0 4)) rfl rfl ?_)
                              refine wp_of e16 c16_184 (rw_if_le (p1 := 205) (p2 := 187) (by decide) rfl ⟨by omega, by omega⟩ (fun c6096 => ?_) (fun c6096 => ?_))
                              · refine wp_of e16 c16_205 (rw_iload_n (pc' := 206) (z := (v5727 - (H5728 r0 4)) - (v5117 - (H5118 r0 4))) rfl rfl ?_)
                                refine wp_of e16 c16_206 (rw_if_le (p1 := 226) (p2 := 209) (by decide) rfl ⟨by omega, by omega⟩ (fun c6097 => ?_) (fun c6097 => ?_))
                                · refine wp_of e16 c16_226 (rw_iload_n (pc' := 227) (z := v5727) rfl rfl ?_)
                                  refine wp_of e16 c16_227 (rw_aload_n (pc' := 228) (v := .ref r0) rfl rfl rfl ?_)
                                  refine wp_of e16 c16_228 (xg_I (pc' := 231) lf_2_19 w5729 g0 sh_4 (by decide) (by decide) ty_4_1 rfl rfl (fun b6098 b6099 => ?_))
                                  refine wp_of e16 c16_231 (rw_icmp_ge (p1 := 275) (p2 := 234) (by decide) rfl ⟨by omega, by omega⟩ ⟨by omega, by omega⟩ (fun c6100 => ?_) (fun c6100 => ?_))
                                  · refine wp_of e16 c16_275 (rw_aload_n (pc' := 276) (v := .ref r0) rfl rfl rfl ?_)
                                    refine wp_of e16 c16_276 (rw_iconst (pc' := 277) rfl ?_)
                                    refine wp_of e16 c16_277 (xp_I (pc' := 280) lf_2_41 w5729 g0 sh_4 (by decide) (by decide) ty_4_3 rfl rfl (by omega) (by omega) ⟨by omega, by omega⟩ rfl (fun H6101 e6102 w6103 => ?_))
                                    have f6104 := f5733.put' e6102 g0 rfl
                                    have f6105 := f5734.put' e6102 g0 rfl
                                    have f6106 := f5730.put' e6102 g0 rfl
                                    have k6107 : H6101 r0 3 = 0 := wq_u_s e6102
                                    refine wp_of e16 c16_280 (rw_aload_n (pc' := 281) (v := .ref r0) rfl rfl rfl ?_)
                                    refine wp_of e16 c16_281 (rw_iload_n (pc' := 282) (z := v5727) rfl rfl ?_)
                                    refine wp_of e16 c16_282 (xp_I (pc' := 285) lf_2_23 w6103 g0 sh_4 (by decide) (by decide) ty_4_2 rfl rfl (by omega) (by omega) ⟨by omega, by omega⟩ rfl (fun H6108 e6109 w6110 => ?_))
                                    have f6111 := f6104.put' e6109 g0 rfl
                                    have f6112 := f6105.put' e6109 g0 rfl
                                    have f6113 := f6106.put' e6109 g0 rfl
                                    have k6114 : H6108 r0 2 = v5727 := wq_u_s e6109
                                    exact wp_return e16 c16_285 rfl ⟨rfl, w6110, f6111, rfl⟩
                                  · refine wp_of e16 c16_234 (rw_aload_n (pc' := 235) (v := .ref r0) rfl rfl rfl ?_)
                                    refine wp_of e16 c16_235 (rw_aload_n (pc' := 236) (v := .ref r0) rfl rfl rfl ?_)
                                    refine wp_of e16 c16_236 (xg_K (pc' := 239) lf_2_7 w5729 g0 sh_4 (by decide) (by decide) rfl q6001 rfl ?_)
                                    refine wp_of e16 c16_239 (rw_iload_n (pc' := 240) (z := v5727) rfl rfl ?_)
                                    refine wp_of e16 c16_240 (xa_B (by decide) (pc' := 241) w5729 grb sh_2 (by decide) (ty_2 _) (by omega) (by omega) rfl (fun b6115 b6116 => ?_))
                                    refine wp_of e16 c16_241 (rw_bipush (pc' := 243) (z := 59) rfl (by decide) ?_)
                                    refine wp_of e16 c16_243 (rw_icmp_ne (p1 := 250) (p2 := 246) (by decide) rfl ⟨by omega, by omega⟩ ⟨by omega, by omega⟩ (fun c6117 => ?_) (fun c6117 => ?_))
                                    · refine wp_of e16 c16_250 (rw_aload_n (pc' := 251) (v := .ref r0) rfl rfl rfl ?_)
                                      refine wp_of e16 c16_251 (xg_K (pc' := 254) lf_2_7 w5729 g0 sh_4 (by decide) (by decide) rfl q6001 rfl ?_)
                                      refine wp_of e16 c16_254 (rw_iload_n (pc' := 255) (z := v5727) rfl rfl ?_)
                                      refine wp_of e16 c16_255 (xa_B (by decide) (pc' := 256) w5729 grb sh_2 (by decide) (ty_2 _) (by omega) (by omega) rfl (fun b6118 b6119 => ?_))
                                      refine wp_of e16 c16_256 (rw_bipush (pc' := 258) (z := 44) rfl (by decide) ?_)
                                      refine wp_of e16 c16_258 (rw_icmp_ne (p1 := 265) (p2 := 261) (by decide) rfl ⟨by omega, by omega⟩ ⟨by omega, by omega⟩ (fun c6120 => ?_) (fun c6120 => ?_))
                                      · refine wp_of e16 c16_265 (rw_iconst (pc' := 266) rfl ?_)
                                        refine wp_of e16 c16_266 (xp_I (pc' := 269) lf_2_41 w5729 g0 sh_4 (by decide) (by decide) ty_4_3 rfl rfl (by omega) (by omega) ⟨by omega, by omega⟩ rfl (fun H6121 e6122 w6123 => ?_))
                                        have f6124 := f5733.put' e6122 g0 rfl
                                        have f6125 := f5734.put' e6122 g0 rfl
                                        have f6126 := f5730.put' e6122 g0 rfl
                                        have k6127 : H6121 r0 3 = 5 := wq_u_s e6122
                                        refine wp_of e16 c16_269 (rw_iinc (pc' := 272) (z := v5727) (L' := [(1, vI (v5727 + 1)), (3, vI ((v5727 - (H5728 r0 4)) - (v5117 - (H5118 r0 4)))), (2, vI (v5117 - (H5118 r0 4))), (0, .ref r0)]) rfl rfl rfl rfl ?_)
                                        refine wp_of e16 c16_272 (rw_goto (p1 := 280) (by decide) ?_)
                                        refine wp_of e16 c16_280 (rw_aload_n (pc' := 281) (v := .ref r0) rfl rfl rfl ?_)
                                        refine wp_of e16 c16_281 (rw_iload_n (pc' := 282) (z := v5727 + 1) rfl rfl ?_)
                                        refine wp_of e16 c16_282 (xp_I (pc' := 285) lf_2_23 w6123 g0 sh_4 (by decide) (by decide) ty_4_2 rfl rfl (by omega) (by omega) ⟨by omega, by omega⟩ rfl (fun H6128 e6129 w6130 => ?_))
                                        have f6131 := f6124.put' e6129 g0 rfl
                                        have f6132 := f6125.put' e6129 g0 rfl
                                        have f6133 := f6126.put' e6129 g0 rfl
                                        have k6134 : H6128 r0 2 = v5727 + 1 := wq_u_s e6129
                                        exact wp_return e16 c16_285 rfl ⟨rfl, w6130, f6131, rfl⟩
                                      · exfalso
                                        omega
                                    · refine wp_of e16 c16_246 (rw_iconst (pc' := 247) rfl ?_)
                                      refine wp_of e16 c16_247 (rw_goto (p1 := 266) (by decide) ?_)
                                      refine wp_of e16 c16_266 (xp_I (pc' := 269) lf_2_41 w5729 g0 sh_4 (by decide) (by decide) ty_4_3 rfl rfl (by omega) (by omega) ⟨by omega, by omega⟩ rfl (fun H6135 e6136 w6137 => ?_))
                                      have f6138 := f5733.put' e6136 g0 rfl
                                      have f6139 := f5734.put' e6136 g0 rfl
                                      have f6140 := f5730.put' e6136 g0 rfl
                                      have k6141 : H6135 r0 3 = 3 := wq_u_s e6136
                                      refine wp_of e16 c16_269 (rw_iinc (pc' := 272) (z := v5727) (L' := [(1, vI (v5727 + 1)), (3, vI ((v5727 - (H5728 r0 4)) - (v5117 - (H5118 r0 4)))), (2, vI (v5117 - (H5118 r0 4))), (0, .ref r0)]) rfl rfl rfl rfl ?_)
                                      refine wp_of e16 c16_272 (rw_goto (p1 := 280) (by decide) ?_)
                                      refine wp_of e16 c16_280 (rw_aload_n (pc' := 281) (v := .ref r0) rfl rfl rfl ?_)
                                      refine wp_of e16 c16_281 (rw_iload_n (pc' := 282) (z := v5727 + 1) rfl rfl ?_)
                                      refine wp_of e16 c16_282 (xp_I (pc' := 285) lf_2_23 w6137 g0 sh_4 (by decide) (by decide) ty_4_2 rfl rfl (by omega) (by omega) ⟨by omega, by omega⟩ rfl (fun H6142 e6143 w6144 => ?_))
                                      have f6145 := f6138.put' e6143 g0 rfl
                                      have f6146 := f6139.put' e6143 g0 rfl
                                      have f6147 := f6140.put' e6143 g0 rfl
                                      have k6148 : H6142 r0 2 = v5727 + 1 := wq_u_s e6143
                                      exact wp_return e16 c16_285 rfl ⟨rfl, w6144, f6145, rfl⟩
                                · refine wp_of e16 c16_209 (rw_aload_n (pc' := 210) (v := .ref r0) rfl rfl rfl ?_)
                                  refine wp_of e16 c16_210 (rw_iload_n (pc' := 211) (z := (v5727 - (H5728 r0 4)) - (v5117 - (H5118 r0 4))) rfl rfl ?_)
                                  refine wp_of e16 c16_211 (rw_iconst (pc' := 212) rfl ?_)
                                  refine wp_of e16 c16_212 (rw_icmp_gt (p1 := 219) (p2 := 215) (by decide) rfl ⟨by omega, by omega⟩ ⟨by omega, by omega⟩ (fun c6149 => ?_) (fun c6149 => ?_))
                                  · refine wp_of e16 c16_219 (rw_iconst (pc' := 220) rfl ?_)
                                    refine wp_of e16 c16_220 (xp_I (pc' := 223) lf_2_41 w5729 g0 sh_4 (by decide) (by decide) ty_4_3 rfl rfl (by omega) (by omega) ⟨by omega, by omega⟩ rfl (fun H6150 e6151 w6152 => ?_))
                                    have f6153 := f5733.put' e6151 g0 rfl
                                    have f6154 := f5734.put' e6151 g0 rfl
                                    have f6155 := f5730.put' e6151 g0 rfl
                                    have k6156 : H6150 r0 3 = 5 := wq_u_s e6151
                                    refine wp_of e16 c16_223 (rw_goto (p1 := 280) (by decide) ?_)
                                    refine wp_of e16 c16_280 (rw_aload_n (pc' := 281) (v := .ref r0) rfl rfl rfl ?_)
                                    refine wp_of e16 c16_281 (rw_iload_n (pc' := 282) (z := v5727) rfl rfl ?_)
                                    refine wp_of e16 c16_282 (xp_I (pc' := 285) lf_2_23 w6152 g0 sh_4 (by decide) (by decide) ty_4_2 rfl rfl (by omega) (by omega) ⟨by omega, by omega⟩ rfl (fun H6157 e6158 w6159 => ?_))
                                    have f6160 := f6153.put' e6158 g0 rfl
                                    have f6161 := f6154.put' e6158 g0 rfl
                                    have f6162 := f6155.put' e6158 g0 rfl
                                    have k6163 : H6157 r0 2 = v5727 := wq_u_s e6158
                                    exact wp_return e16 c16_285 rfl ⟨rfl, w6159, f6160, rfl⟩
                                  · refine wp_of e16 c16_215 (rw_iconst (pc' := 216) rfl ?_)
                                    refine wp_of e16 c16_216 (rw_goto (p1 := 220) (by decide) ?_)
                                    refine wp_of e16 c16_220 (xp_I (pc' := 223) lf_2_41 w5729 g0 sh_4 (by decide) (by decide) ty_4_3 rfl rfl (by omega) (by omega) ⟨by omega, by omega⟩ rfl (fun H6164 e6165 w6166 => ?_))
                                    have f6167 := f5733.put' e6165 g0 rfl
                                    have f6168 := f5734.put' e6165 g0 rfl
                                    have f6169 := f5730.put' e6165 g0 rfl
                                    have k6170 : H6164 r0 3 = 2 := wq_u_s e6165
                                    refine wp_of e16 c16_223 (rw_goto (p1 := 280) (by decide) ?_)
                                    refine wp_of e16 c16_280 (rw_aload_n (pc' := 281) (v := .ref r0) rfl rfl rfl ?_)
                                    refine wp_of e16 c16_281 (rw_iload_n (pc' := 282) (z := v5727) rfl rfl ?_)
                                    refine wp_of e16 c16_282 (xp_I (pc' := 285) lf_2_23 w6166 g0 sh_4 (by decide) (by decide) ty_4_2 rfl rfl (by omega) (by omega) ⟨by omega, by omega⟩ rfl (fun H6171 e6172 w6173 => ?_))
                                    have f6174 := f6167.put' e6172 g0 rfl
                                    have f6175 := f6168.put' e6172 g0 rfl
                                    have f6176 := f6169.put' e6172 g0 rfl
                                    have k6177 : H6171 r0 2 = v5727 := wq_u_s e6172
                                    exact wp_return e16 c16_285 rfl ⟨rfl, w6173, f6174, rfl⟩
                              · exfalso
                                omega
                            · refine wp_of e16 c16_147 (rw_aload_n (pc' := 148) (v := .ref r0) rfl rfl rfl ?_)
                              refine wp_of e16 c16_148 (rw_aload_n (pc' := 149) (v := .ref r0) rfl rfl rfl ?_)
                              refine wp_of e16 c16_149 (xg_I (pc' := 152) lf_2_38 w5729 g0 sh_4 (by decide) (by decide) ty_4_5 rfl rfl (fun b6178 b6179 => ?_))
                              refine wp_of e16 c16_152 (rw_bipush (pc' := 154) (z := 10) rfl (by decide) ?_)
                              refine wp_of e16 c16_154 (rw_imulw (pc' := 155) rfl ?_)
                              obtain ⟨v6180, e6181⟩ : ∃ x : Int, x = wq_w ((H5728 r0 5) * 10) := ⟨_, rfl⟩
                              rw [← e6181]
                              have b6182 : -2147483648 ≤ v6180 ∧ v6180 ≤ 2147483647 := by
                                rw [e6181]
                                exact wI_w _
                              refine wp_of e16 c16_155 (rw_aload_n (pc' := 156) (v := .ref r0) rfl rfl rfl ?_)
                              refine wp_of e16 c16_156 (xg_K (pc' := 159) lf_2_7 w5729 g0 sh_4 (by decide) (by decide) rfl q6001 rfl ?_)
                              refine wp_of e16 c16_159 (rw_iload_n (pc' := 160) (z := v5727) rfl rfl ?_)
                              refine wp_of e16 c16_160 (xa_B (by decide) (pc' := 161) w5729 grb sh_2 (by decide) (ty_2 _) (by omega) (by omega) rfl (fun b6183 b6184 => ?_))
                              refine wp_of e16 c16_161 (rw_bipush (pc' := 163) (z := 48) rfl (by decide) ?_)
                              refine wp_of e16 c16_163 (rw_isub (pc' := 164) rfl ?_)
                              refine wp_of e16 c16_164 (rw_iaddw (pc' := 165) rfl ?_)
                              obtain ⟨v6185, e6186⟩ : ∃ x : Int, x = wq_w (v6180 + ((H5728 rb v5727.toNat) - 48)) := ⟨_, rfl⟩
                              rw [← e6186]
                              have b6187 : -2147483648 ≤ v6185 ∧ v6185 ≤ 2147483647 := by
                                rw [e6186]
                                exact wI_w _
                              refine wp_of e16 c16_165 (xp_I (pc' := 168) lf_2_38 w5729 g0 sh_4 (by decide) (by decide) ty_4_5 rfl rfl (by omega) (by omega) ⟨by omega, by omega⟩ rfl (fun H6188 e6189 w6190 => ?_))
                              have f6191 := f5733.put' e6189 g0 rfl
                              have f6192 := f5734.put' e6189 g0 rfl
                              have f6193 := f5730.put' e6189 g0 rfl
                              have k6194 : H6188 r0 5 = v6185 := wq_u_s e6189
                              refine wp_of e16 c16_168 (rw_iinc (pc' := 171) (z := v5727) (L' := [(1, vI (v5727 + 1)), (2, vI (v5117 - (H5118 r0 4))), (0, .ref r0)]) rfl rfl rfl rfl ?_)
                              refine wp_of e16 c16_171 (rw_goto (p1 := 113) (by decide) ?_)
                              exact wp_lc (ks := [1, 2, 0]) (wl_c rfl (wl_c rfl (wl_c rfl wl_n))) rfl (by decide) (ih5726 _ (by omega) (v5727 + 1) H6188 w6190 f6193 ⟨by omega, by omega⟩ rfl)
                  exact wp_lc (ks := [2, 1, 0]) (wl_c rfl (wl_c rfl (wl_c rfl wl_n))) rfl (by decide) (lp5724 _ v5117 H5667 w5669 wfr.rf ⟨by omega, by omega⟩ rfl)
                · refine wp_of e16 c16_59 (rw_aload_n (pc' := 60) (v := .ref r0) rfl rfl rfl ?_)
                  refine wp_of e16 c16_60 (xg_K (pc' := 63) lf_2_7 w5119 g0 sh_4 (by decide) (by decide) rfl q5660 rfl ?_)
                  refine wp_of e16 c16_63 (rw_iload_n (pc' := 64) (z := v5117) rfl rfl ?_)
                  refine wp_of e16 c16_64 (xa_B (by decide) (pc' := 65) w5119 grb sh_2 (by decide) (ty_2 _) (by omega) (by omega) rfl (fun b6195 b6196 => ?_))
                  refine wp_of e16 c16_65 (rw_bipush (pc' := 67) (z := 122) rfl (by decide) ?_)
                  refine wp_of e16 c16_67 (rw_icmp_gt (p1 := 101) (p2 := 70) (by decide) rfl ⟨by omega, by omega⟩ ⟨by omega, by omega⟩ (fun c6197 => ?_) (fun c6197 => ?_))
                  · refine wp_of e16 c16_101 (rw_iload_n (pc' := 102) (z := v5117) rfl rfl ?_)
                    refine wp_of e16 c16_102 (rw_aload_n (pc' := 103) (v := .ref r0) rfl rfl rfl ?_)
                    have k6198 : H5118 r0 4 = H5057 r0 4 := ((f5120 r0 4 _ g0 rfl).trans (wq_u_j e5063 rfl))
                    refine wp_of e16 c16_103 (xg_I (pc' := 106) lf_2_29 w5119 g0 sh_4 (by decide) (by decide) ty_4_4 rfl rfl (fun b6199 b6200 => ?_))
                    refine wp_of e16 c16_106 (rw_isub (pc' := 107) rfl ?_)
                    refine wp_of e16 c16_107 (rw_istore_n (pc' := 108) (z := v5117 - (H5118 r0 4)) (L' := [(2, vI (v5117 - (H5118 r0 4))), (1, vI v5117), (0, .ref r0)]) rfl rfl rfl ?_)
                    refine wp_of e16 c16_108 (rw_aload_n (pc' := 109) (v := .ref r0) rfl rfl rfl ?_)
                    refine wp_of e16 c16_109 (rw_iconst (pc' := 110) rfl ?_)
                    refine wp_of e16 c16_110 (xp_I (pc' := 113) lf_2_38 w5119 g0 sh_4 (by decide) (by decide) ty_4_5 rfl rfl (by omega) (by omega) ⟨by omega, by omega⟩ rfl (fun H6201 e6202 w6203 => ?_))
                    have f6204 := f5123.put' e6202 g0 rfl
                    have f6205 := f5120.put' e6202 g0 rfl
                    have k6206 : H6201 r0 5 = 0 := wq_u_s e6202
                    have lp6258 : ∀ (n6259 : Nat) (v6261 : Int) (H6262 : wq_H), WT T H6262 → wfr [(4, 5)] T H6201 H6262 → (0 ≤ v6261 ∧ v6261 ≤ 900) → (900 - v6261).toNat = n6259 → wp kt 0 16 113 [(1, vI v6261), (2, vI (v5117 - (H5118 r0 4))), (0, .ref r0)] [] T H6262 (q_16 r0 rb T H) := by
                      intro n6259
                      induction n6259 using Nat.strongRecOn with
                      | _ n6259 ih6260 =>
                        intro v6261 H6262 w6263 f6264 b6265 m6266
                        have f6267 := f6204.tr f6264 rfl
                        have f6268 := f6205.tr f6264 rfl
                        refine wp_of e16 c16_113 (rw_iload_n (pc' := 114) (z := v6261) rfl rfl ?_)
                        refine wp_of e16 c16_114 (rw_aload_n (pc' := 115) (v := .ref r0) rfl rfl rfl ?_)
                        have k6269 : H6262 r0 1 = H5118 r0 1 := ((f6264 r0 1 _ g0 rfl).trans (wq_u_j e6202 rfl))
                        refine wp_of e16 c16_115 (xg_I (pc' := 118) lf_2_19 w6263 g0 sh_4 (by decide) (by decide) ty_4_1 rfl rfl (fun b6270 b6271 => ?_))
                        refine wp_of e16 c16_118 (rw_icmp_ge (p1 := 174) (p2 := 121) (by decide) rfl ⟨by omega, by omega⟩ ⟨by omega, by omega⟩ (fun c6272 => ?_) (fun c6272 => ?_))
                        · refine wp_of e16 c16_174 (rw_iload_n (pc' := 175) (z := v6261) rfl rfl ?_)
                          refine wp_of e16 c16_175 (rw_aload_n (pc' := 176) (v := .ref r0) rfl rfl rfl ?_)
                          have k6273 : H6262 r0 4 = H5118 r0 4 := ((f6264 r0 4 _ g0 rfl).trans (wq_u_j e6202 rfl))
                          refine wp_of e16 c16_176 (xg_I (pc' := 179) lf_2_29 w6263 g0 sh_4 (by decide) (by decide) ty_4_4 rfl rfl (fun b6274 b6275 => ?_))
                          refine wp_of e16 c16_179 (rw_isub (pc' := 180) rfl ?_)
                          refine wp_of e16 c16_180 (rw_iload_n (pc' := 181) (z := v5117 - (H5118 r0 4)) rfl rfl ?_)
                          refine wp_of e16 c16_181 (rw_isub (pc' := 182) rfl ?_)
                          refine wp_of e16 c16_182 (rw_istore_n (pc' := 183) (z := (v6261 - (H6262 r0 4)) - (v5117 - (H5118 r0 4))) (L' := [(3, vI ((v6261 - (H6262 r0 4)) - (v5117 - (H5118 r0 4)))), (1, vI v6261), (2, vI (v5117 - (H5118 r0 4))), (0, .ref r0)]) rfl rfl rfl ?_)
                          refine wp_of e16 c16_183 (rw_iload_n (pc' := 184) (z := v5117 - (H5118 r0 4)) rfl rfl ?_)
                          refine wp_of e16 c16_184 (rw_if_le (p1 := 205) (p2 := 187) (by decide) rfl ⟨by omega, by omega⟩ (fun c6276 => ?_) (fun c6276 => ?_))
                          · refine wp_of e16 c16_205 (rw_iload_n (pc' := 206) (z := (v6261 - (H6262 r0 4)) - (v5117 - (H5118 r0 4))) rfl rfl ?_)
                            refine wp_of e16 c16_206 (rw_if_le (p1 := 226) (p2 := 209) (by decide) rfl ⟨by omega, by omega⟩ (fun c6277 => ?_) (fun c6277 => ?_))
                            · refine wp_of e16 c16_226 (rw_iload_n (pc' := 227) (z := v6261) rfl rfl ?_)
                              refine wp_of e16 c16_227 (rw_aload_n (pc' := 228) (v := .ref r0) rfl rfl rfl ?_)
                              refine wp_of e16 c16_228 (xg_I (pc' := 231) lf_2_19 w6263 g0 sh_4 (by decide) (by decide) ty_4_1 rfl rfl (fun b6278 b6279 => ?_))
                              refine wp_of e16 c16_231 (rw_icmp_ge (p1 := 275) (p2 := 234) (by decide) rfl ⟨by omega, by omega⟩ ⟨by omega, by omega⟩ (fun c6280 => ?_) (fun c6280 => ?_))
                              · refine wp_of e16 c16_275 (rw_aload_n (pc' := 276) (v := .ref r0) rfl rfl rfl ?_)
                                refine wp_of e16 c16_276 (rw_iconst (pc' := 277) rfl ?_)
                                refine wp_of e16 c16_277 (xp_I (pc' := 280) lf_2_41 w6263 g0 sh_4 (by decide) (by decide) ty_4_3 rfl rfl (by omega) (by omega) ⟨by omega, by omega⟩ rfl (fun H6281 e6282 w6283 => ?_))
                                have f6284 := f6267.put' e6282 g0 rfl
                                have f6285 := f6268.put' e6282 g0 rfl
                                have f6286 := f6264.put' e6282 g0 rfl
                                have k6287 : H6281 r0 3 = 0 := wq_u_s e6282
                                refine wp_of e16 c16_280 (rw_aload_n (pc' := 281) (v := .ref r0) rfl rfl rfl ?_)
                                refine wp_of e16 c16_281 (rw_iload_n (pc' := 282) (z := v6261) rfl rfl ?_)
                                refine wp_of e16 c16_282 (xp_I (pc' := 285) lf_2_23 w6283 g0 sh_4 (by decide) (by decide) ty_4_2 rfl rfl (by omega) (by omega) ⟨by omega, by omega⟩ rfl (fun H6288 e6289 w6290 => ?_))
                                have f6291 := f6284.put' e6289 g0 rfl
                                have f6292 := f6285.put' e6289 g0 rfl
                                have f6293 := f6286.put' e6289 g0 rfl
                                have k6294 : H6288 r0 2 = v6261 := wq_u_s e6289
                                exact wp_return e16 c16_285 rfl ⟨rfl, w6290, f6291, rfl⟩
                              · refine wp_of e16 c16_234 (rw_aload_n (pc' := 235) (v := .ref r0) rfl rfl rfl ?_)
                                refine wp_of e16 c16_235 (rw_aload_n (pc' := 236) (v := .ref r0) rfl rfl rfl ?_)
                                have k6295 : H6262 r0 0 = H5118 r0 0 := ((f6264 r0 0 _ g0 rfl).trans (wq_u_j e6202 rfl))
                                have q6296 : H6262 r0 0 = (rb : Int) := k6295.trans q5660
                                refine wp_of e16 c16_236 (xg_K (pc' := 239) lf_2_7 w6263 g0 sh_4 (by decide) (by decide) rfl q6296 rfl ?_)
                                refine wp_of e16 c16_239 (rw_iload_n (pc' := 240) (z := v6261) rfl rfl ?_)
                                refine wp_of e16 c16_240 (xa_B (by decide) (pc' := 241) w6263 grb sh_2 (by decide) (ty_2 _) (by omega) (by omega) rfl (fun b6297 b6298 => ?_))
                                refine wp_of e16 c16_241 (rw_bipush (pc' := 243) (z := 59) rfl (by decide) ?_)
                                refine wp_of e16 c16_243 (rw_icmp_ne (p1 := 250) (p2 := 246) (by decide) rfl ⟨by omega, by omega⟩ ⟨by omega, by omega⟩ (fun c6299 => ?_) (fun c6299 => ?_))
                                · refine wp_of e16 c16_250 (rw_aload_n (pc' := 251) (v := .ref r0) rfl rfl rfl ?_)
                                  refine wp_of e16 c16_251 (xg_K (pc' := 254) lf_2_7 w6263 g0 sh_4 (by decide) (by decide) rfl q6296 rfl ?_)
                                  refine wp_of e16 c16_254 (rw_iload_n (pc' := 255) (z := v6261) rfl rfl ?_)
                                  refine wp_of e16 c16_255 (xa_B (by decide) (pc' := 256) w6263 grb sh_2 (by decide) (ty_2 _) (by omega) (by omega) rfl (fun b6300 b6301 => ?_))
                                  refine wp_of e16 c16_256 (rw_bipush (pc' := 258) (z := 44) rfl (by decide) ?_)
                                  refine wp_of e16 c16_258 (rw_icmp_ne (p1 := 265) (p2 := 261) (by decide) rfl ⟨by omega, by omega⟩ ⟨by omega, by omega⟩ (fun c6302 => ?_) (fun c6302 => ?_))
                                  · refine wp_of e16 c16_265 (rw_iconst (pc' := 266) rfl ?_)
                                    refine wp_of e16 c16_266 (xp_I (pc' := 269) lf_2_41 w6263 g0 sh_4 (by decide) (by decide) ty_4_3 rfl rfl (by omega) (by omega) ⟨by omega, by omega⟩ rfl (fun H6303 e6304 w6305 => ?_))
                                    have f6306 := f6267.put' e6304 g0 rfl
                                    have f6307 := f6268.put' e6304 g0 rfl
                                    have f6308 := f6264.put' e6304 g0 rfl
                                    have k6309 : H6303 r0 3 = 5 := wq_u_s e6304
                                    refine wp_of e16 c16_269 (rw_iinc (pc' := 272) (z := v6261) (L' := [(1, vI (v6261 + 1)), (3, vI ((v6261 - (H6262 r0 4)) - (v5117 - (H5118 r0 4)))), (2, vI (v5117 - (H5118 r0 4))), (0, .ref r0)]) rfl rfl rfl rfl ?_)
                                    refine wp_of e16 c16_272 (rw_goto (p1 := 280) (by decide) ?_)
                                    refine wp_of e16 c16_280 (rw_aload_n (pc' := 281) (v := .ref r0) rfl rfl rfl ?_)
                                    refine wp_of e16 c16_281 (rw_iload_n (pc' := 282) (z := v6261 + 1) rfl rfl ?_)
                                    refine wp_of e16 c16_282 (xp_I (pc' := 285) lf_2_23 w6305 g0 sh_4 (by decide) (by decide) ty_4_2 rfl rfl (by omega) (by omega) ⟨by omega, by omega⟩ rfl (fun H6310 e6311 w6312 => ?_))
                                    have f6313 := f6306.put' e6311 g0 rfl
                                    have f6314 := f6307.put' e6311 g0 rfl
                                    have f6315 := f6308.put' e6311 g0 rfl
                                    have k6316 : H6310 r0 2 = v6261 + 1 := wq_u_s e6311
                                    exact wp_return e16 c16_285 rfl ⟨rfl, w6312, f6313, rfl⟩
                                  · refine wp_of e16 c16_261 (rw_iconst (pc' := 262) rfl ?_)
                                    refine wp_of e16 c16_262 (rw_goto (p1 := 266) (by decide) ?_)
                                    refine wp_of e16 c16_266 (xp_I (pc' := 269) lf_2_41 w6263 g0 sh_4 (by decide) (by decide) ty_4_3 rfl rfl (by omega) (by omega) ⟨by omega, by omega⟩ rfl (fun H6317 e6318 w6319 => ?_))
                                    have f6320 := f6267.put' e6318 g0 rfl
                                    have f6321 := f6268.put' e6318 g0 rfl
                                    have f6322 := f6264.put' e6318 g0 rfl
                                    have k6323 : H6317 r0 3 = 4 := wq_u_s e6318
                                    refine wp_of e16 c16_269 (rw_iinc (pc' := 272) (z := v6261) (L' := [(1, vI (v6261 + 1)), (3, vI ((v6261 - (H6262 r0 4)) - (v5117 - (H5118 r0 4)))), (2, vI (v5117 - (H5118 r0 4))), (0, .ref r0)]) rfl rfl rfl rfl ?_)
                                    refine wp_of e16 c16_272 (rw_goto (p1 := 280) (by decide) ?_)
                                    refine wp_of e16 c16_280 (rw_aload_n (pc' := 281) (v := .ref r0) rfl rfl rfl ?_)
                                    refine wp_of e16 c16_281 (rw_iload_n (pc' := 282) (z := v6261 + 1) rfl rfl ?_)
                                    refine wp_of e16 c16_282 (xp_I (pc' := 285) lf_2_23 w6319 g0 sh_4 (by decide) (by decide) ty_4_2 rfl rfl (by omega) (by omega) ⟨by omega, by omega⟩ rfl (fun H6324 e6325 w6326 => ?_))
                                    have f6327 := f6320.put' e6325 g0 rfl
                                    have f6328 := f6321.put' e6325 g0 rfl
                                    have f6329 := f6322.put' e6325 g0 rfl
                                    have k6330 : H6324 r0 2 = v6261 + 1 := wq_u_s e6325
                                    exact wp_return e16 c16_285 rfl ⟨rfl, w6326, f6327, rfl⟩
                                · refine wp_of e16 c16_246 (rw_iconst (pc' := 247) rfl ?_)
                                  refine wp_of e16 c16_247 (rw_goto (p1 := 266) (by decide) ?_)
                                  refine wp_of e16 c16_266 (xp_I (pc' := 269) lf_2_41 w6263 g0 sh_4 (by decide) (by decide) ty_4_3 rfl rfl (by omega) (by omega) ⟨by omega, by omega⟩ rfl (fun H6331 e6332 w6333 => ?_))
                                  have f6334 := f6267.put' e6332 g0 rfl
                                  have f6335 := f6268.put' e6332 g0 rfl
                                  have f6336 := f6264.put' e6332 g0 rfl
                                  have k6337 : H6331 r0 3 = 3 := wq_u_s e6332
                                  refine wp_of e16 c16_269 (rw_iinc (pc' := 272) (z := v6261) (L' := [(1, vI (v6261 + 1)), (3, vI ((v6261 - (H6262 r0 4)) - (v5117 - (H5118 r0 4)))), (2, vI (v5117 - (H5118 r0 4))), (0, .ref r0)]) rfl rfl rfl rfl ?_)
                                  refine wp_of e16 c16_272 (rw_goto (p1 := 280) (by decide) ?_)
                                  refine wp_of e16 c16_280 (rw_aload_n (pc' := 281) (v := .ref r0) rfl rfl rfl ?_)
                                  refine wp_of e16 c16_281 (rw_iload_n (pc' := 282) (z := v6261 + 1) rfl rfl ?_)
                                  refine wp_of e16 c16_282 (xp_I (pc' := 285) lf_2_23 w6333 g0 sh_4 (by decide) (by decide) ty_4_2 rfl rfl (by omega) (by omega) ⟨by omega, by omega⟩ rfl (fun H6338 e6339 w6340 => ?_))
                                  have f6341 := f6334.put' e6339 g0 rfl
                                  have f6342 := f6335.put' e6339 g0 rfl
                                  have f6343 := f6336.put' e6339 g0 rfl
                                  have k6344 : H6338 r0 2 = v6261 + 1 := wq_u_s e6339
                                  exact wp_return e16 c16_285 rfl ⟨rfl, w6340, f6341, rfl⟩
                            · refine wp_of e16 c16_209 (rw_aload_n (pc' := 210) (v := .ref r0) rfl rfl rfl ?_)
                              refine wp_of e16 c16_210 (rw_iload_n (pc' := 211) (z := (v6261 - (H6262 r0 4)) - (v5117 - (H5118 r0 4))) rfl rfl ?_)
                              refine wp_of e16 c16_211 (rw_iconst (pc' := 212) rfl ?_)
                              refine wp_of e16 c16_212 (rw_icmp_gt (p1 := 219) (p2 := 215) (by decide) rfl ⟨by omega, by omega⟩ ⟨by omega, by omega⟩ (fun c6345 => ?_) (fun c6345 => ?_))
                              · refine wp_of e16 c16_219 (rw_iconst (pc' := 220) rfl ?_)
                                refine wp_of e16 c16_220 (xp_I (pc' := 223) lf_2_41 w6263 g0 sh_4 (by decide) (by decide) ty_4_3 rfl rfl (by omega) (by omega) ⟨by omega, by omega⟩ rfl (fun H6346 e6347 w6348 => ?_))
                                have f6349 := f6267.put' e6347 g0 rfl
                                have f6350 := f6268.put' e6347 g0 rfl
                                have f6351 := f6264.put' e6347 g0 rfl
                                have k6352 : H6346 r0 3 = 5 := wq_u_s e6347
                                refine wp_of e16 c16_223 (rw_goto (p1 := 280) (by decide) ?_)
                                refine wp_of e16 c16_280 (rw_aload_n (pc' := 281) (v := .ref r0) rfl rfl rfl ?_)
                                refine wp_of e16 c16_281 (rw_iload_n (pc' := 282) (z := v6261) rfl rfl ?_)
                                refine wp_of e16 c16_282 (xp_I (pc' := 285) lf_2_23 w6348 g0 sh_4 (by decide) (by decide) ty_4_2 rfl rfl (by omega) (by omega) ⟨by omega, by omega⟩ rfl (fun H6353 e6354 w6355 => ?_))
                                have f6356 := f6349.put' e6354 g0 rfl
                                have f6357 := f6350.put' e6354 g0 rfl
                                have f6358 := f6351.put' e6354 g0 rfl
                                have k6359 : H6353 r0 2 = v6261 := wq_u_s e6354
                                exact wp_return e16 c16_285 rfl ⟨rfl, w6355, f6356, rfl⟩
                              · refine wp_of e16 c16_215 (rw_iconst (pc' := 216) rfl ?_)
                                refine wp_of e16 c16_216 (rw_goto (p1 := 220) (by decide) ?_)
                                refine wp_of e16 c16_220 (xp_I (pc' := 223) lf_2_41 w6263 g0 sh_4 (by decide) (by decide) ty_4_3 rfl rfl (by omega) (by omega) ⟨by omega, by omega⟩ rfl (fun H6360 e6361 w6362 => ?_))
                                have f6363 := f6267.put' e6361 g0 rfl
                                have f6364 := f6268.put' e6361 g0 rfl
                                have f6365 := f6264.put' e6361 g0 rfl
                                have k6366 : H6360 r0 3 = 2 := wq_u_s e6361
                                refine wp_of e16 c16_223 (rw_goto (p1 := 280) (by decide) ?_)
                                refine wp_of e16 c16_280 (rw_aload_n (pc' := 281) (v := .ref r0) rfl rfl rfl ?_)
                                refine wp_of e16 c16_281 (rw_iload_n (pc' := 282) (z := v6261) rfl rfl ?_)
                                refine wp_of e16 c16_282 (xp_I (pc' := 285) lf_2_23 w6362 g0 sh_4 (by decide) (by decide) ty_4_2 rfl rfl (by omega) (by omega) ⟨by omega, by omega⟩ rfl (fun H6367 e6368 w6369 => ?_))
                                have f6370 := f6363.put' e6368 g0 rfl
                                have f6371 := f6364.put' e6368 g0 rfl
                                have f6372 := f6365.put' e6368 g0 rfl
                                have k6373 : H6367 r0 2 = v6261 := wq_u_s e6368
                                exact wp_return e16 c16_285 rfl ⟨rfl, w6369, f6370, rfl⟩
                          · refine wp_of e16 c16_187 (rw_aload_n (pc' := 188) (v := .ref r0) rfl rfl rfl ?_)
                            refine wp_of e16 c16_188 (rw_iload_n (pc' := 189) (z := v5117 - (H5118 r0 4)) rfl rfl ?_)
                            refine wp_of e16 c16_189 (rw_bipush (pc' := 191) (z := 8) rfl (by decide) ?_)
                            refine wp_of e16 c16_191 (rw_icmp_gt (p1 := 198) (p2 := 194) (by decide) rfl ⟨by omega, by omega⟩ ⟨by omega, by omega⟩ (fun c6374 => ?_) (fun c6374 => ?_))
                            · refine wp_of e16 c16_198 (rw_iconst (pc' := 199) rfl ?_)
                              refine wp_of e16 c16_199 (xp_I (pc' := 202) lf_2_41 w6263 g0 sh_4 (by decide) (by decide) ty_4_3 rfl rfl (by omega) (by omega) ⟨by omega, by omega⟩ rfl (fun H6375 e6376 w6377 => ?_))
                              have f6378 := f6267.put' e6376 g0 rfl
                              have f6379 := f6268.put' e6376 g0 rfl
                              have f6380 := f6264.put' e6376 g0 rfl
                              have k6381 : H6375 r0 3 = 5 := wq_u_s e6376
                              refine wp_of e16 c16_202 (rw_goto (p1 := 280) (by decide) ?_)
                              refine wp_of e16 c16_280 (rw_aload_n (pc' := 281) (v := .ref r0) rfl rfl rfl ?_)
                              refine wp_of e16 c16_281 (rw_iload_n (pc' := 282) (z := v6261) rfl rfl ?_)
                              refine wp_of e16 c16_282 (xp_I (pc' := 285) lf_2_23 w6377 g0 sh_4 (by decide) (by decide) ty_4_2 rfl rfl (by omega) (by omega) ⟨by omega, by omega⟩ rfl (fun H6382 e6383 w6384 => ?_))
                              have f6385 := f6378.put' e6383 g0 rfl
                              have f6386 := f6379.put' e6383 g0 rfl
                              have f6387 := f6380.put' e6383 g0 rfl
                              have k6388 : H6382 r0 2 = v6261 := wq_u_s e6383
                              exact wp_return e16 c16_285 rfl ⟨rfl, w6384, f6385, rfl⟩
                            · refine wp_of e16 c16_194 (rw_iconst (pc' := 195) rfl ?_)
                              refine wp_of e16 c16_195 (rw_goto (p1 := 199) (by decide) ?_)
                              refine wp_of e16 c16_199 (xp_I (pc' := 202) lf_2_41 w6263 g0 sh_4 (by decide) (by decide) ty_4_3 rfl rfl (by omega) (by omega) ⟨by omega, by omega⟩ rfl (fun H6389 e6390 w6391 => ?_))
                              have f6392 := f6267.put' e6390 g0 rfl
                              have f6393 := f6268.put' e6390 g0 rfl
                              have f6394 := f6264.put' e6390 g0 rfl
                              have k6395 : H6389 r0 3 = 1 := wq_u_s e6390
                              refine wp_of e16 c16_202 (rw_goto (p1 := 280) (by decide) ?_)
                              refine wp_of e16 c16_280 (rw_aload_n (pc' := 281) (v := .ref r0) rfl rfl rfl ?_)
                              refine wp_of e16 c16_281 (rw_iload_n (pc' := 282) (z := v6261) rfl rfl ?_)
                              refine wp_of e16 c16_282 (xp_I (pc' := 285) lf_2_23 w6391 g0 sh_4 (by decide) (by decide) ty_4_2 rfl rfl (by omega) (by omega) ⟨by omega, by omega⟩ rfl (fun H6396 e6397 w6398 => ?_))
                              have f6399 := f6392.put' e6397 g0 rfl
                              have f6400 := f6393.put' e6397 g0 rfl
                              have f6401 := f6394.put' e6397 g0 rfl
                              have k6402 : H6396 r0 2 = v6261 := wq_u_s e6397
                              exact wp_return e16 c16_285 rfl ⟨rfl, w6398, f6399, rfl⟩
                        · refine wp_of e16 c16_121 (rw_iload_n (pc' := 122) (z := v5117 - (H5118 r0 4)) rfl rfl ?_)
                          refine wp_of e16 c16_122 (rw_if_ne (p1 := 174) (p2 := 125) (by decide) rfl ⟨by omega, by omega⟩ (fun c6403 => ?_) (fun c6403 => ?_))
                          · refine wp_of e16 c16_174 (rw_iload_n (pc' := 175) (z := v6261) rfl rfl ?_)
                            refine wp_of e16 c16_175 (rw_aload_n (pc' := 176) (v := .ref r0) rfl rfl rfl ?_)
                            have k6404 : H6262 r0 4 = H5118 r0 4 := ((f6264 r0 4 _ g0 rfl).trans (wq_u_j e6202 rfl))
                            refine wp_of e16 c16_176 (xg_I (pc' := 179) lf_2_29 w6263 g0 sh_4 (by decide) (by decide) ty_4_4 rfl rfl (fun b6405 b6406 => ?_))
                            refine wp_of e16 c16_179 (rw_isub (pc' := 180) rfl ?_)
                            refine wp_of e16 c16_180 (rw_iload_n (pc' := 181) (z := v5117 - (H5118 r0 4)) rfl rfl ?_)
                            refine wp_of e16 c16_181 (rw_isub (pc' := 182) rfl ?_)
                            refine wp_of e16 c16_182 (rw_istore_n (pc' := 183) (z := (v6261 - (H6262 r0 4)) - (v5117 - (H5118 r0 4))) (L' := [(3, vI ((v6261 - (H6262 r0 4)) - (v5117 - (H5118 r0 4)))), (1, vI v6261), (2, vI (v5117 - (H5118 r0 4))), (0, .ref r0)]) rfl rfl rfl ?_)
                            refine wp_of e16 c16_183 (rw_iload_n (pc' := 184) (z := v5117 - (H5118 r0 4)) rfl rfl ?_)
                            refine wp_of e16 c16_184 (rw_if_le (p1 := 205) (p2 := 187) (by decide) rfl ⟨by omega, by omega⟩ (fun c6407 => ?_) (fun c6407 => ?_))
                            · refine wp_of e16 c16_205 (rw_iload_n (pc' := 206) (z := (v6261 - (H6262 r0 4)) - (v5117 - (H5118 r0 4))) rfl rfl ?_)
                              refine wp_of e16 c16_206 (rw_if_le (p1 := 226) (p2 := 209) (by decide) rfl ⟨by omega, by omega⟩ (fun c6408 => ?_) (fun c6408 => ?_))
                              · refine wp_of e16 c16_226 (rw_iload_n (pc' := 227) (z := v6261) rfl rfl ?_)
                                refine wp_of e16 c16_227 (rw_aload_n (pc' := 228) (v := .ref r0) rfl rfl rfl ?_)
                                refine wp_of e16 c16_228 (xg_I (pc' := 231) lf_2_19 w6263 g0 sh_4 (by decide) (by decide) ty_4_1 rfl rfl (fun b6409 b6410 => ?_))
                                refine wp_of e16 c16_231 (rw_icmp_ge (p1 := 275) (p2 := 234) (by decide) rfl ⟨by omega, by omega⟩ ⟨by omega, by omega⟩ (fun c6411 => ?_) (fun c6411 => ?_))
                                · refine wp_of e16 c16_275 (rw_aload_n (pc' := 276) (v := .ref r0) rfl rfl rfl ?_)
                                  refine wp_of e16 c16_276 (rw_iconst (pc' := 277) rfl ?_)
                                  refine wp_of e16 c16_277 (xp_I (pc' := 280) lf_2_41 w6263 g0 sh_4 (by decide) (by decide) ty_4_3 rfl rfl (by omega) (by omega) ⟨by omega, by omega⟩ rfl (fun H6412 e6413 w6414 => ?_))
                                  have f6415 := f6267.put' e6413 g0 rfl
                                  have f6416 := f6268.put' e6413 g0 rfl
                                  have f6417 := f6264.put' e6413 g0 rfl
                                  have k6418 : H6412 r0 3 = 0 := wq_u_s e6413
                                  refine wp_of e16 c16_280 (rw_aload_n (pc' := 281) (v := .ref r0) rfl rfl rfl ?_)
                                  refine wp_of e16 c16_281 (rw_iload_n (pc' := 282) (z := v6261) rfl rfl ?_)
                                  refine wp_of e16 c16_282 (xp_I (pc' := 285) lf_2_23 w6414 g0 sh_4 (by decide) (by decide) ty_4_2 rfl rfl (by omega) (by omega) ⟨by omega, by omega⟩ rfl (fun H6419 e6420 w6421 => ?_))
                                  have f6422 := f6415.put' e6420 g0 rfl
                                  have f6423 := f6416.put' e6420 g0 rfl
                                  have f6424 := f6417.put' e6420 g0 rfl
                                  have k6425 : H6419 r0 2 = v6261 := wq_u_s e6420
                                  exact wp_return e16 c16_285 rfl ⟨rfl, w6421, f6422, rfl⟩
                                · refine wp_of e16 c16_234 (rw_aload_n (pc' := 235) (v := .ref r0) rfl rfl rfl ?_)
                                  refine wp_of e16 c16_235 (rw_aload_n (pc' := 236) (v := .ref r0) rfl rfl rfl ?_)
                                  have k6426 : H6262 r0 0 = H5118 r0 0 := ((f6264 r0 0 _ g0 rfl).trans (wq_u_j e6202 rfl))
                                  have q6427 : H6262 r0 0 = (rb : Int) := k6426.trans q5660
                                  refine wp_of e16 c16_236 (xg_K (pc' := 239) lf_2_7 w6263 g0 sh_4 (by decide) (by decide) rfl q6427 rfl ?_)
                                  refine wp_of e16 c16_239 (rw_iload_n (pc' := 240) (z := v6261) rfl rfl ?_)
                                  refine wp_of e16 c16_240 (xa_B (by decide) (pc' := 241) w6263 grb sh_2 (by decide) (ty_2 _) (by omega) (by omega) rfl (fun b6428 b6429 => ?_))
                                  refine wp_of e16 c16_241 (rw_bipush (pc' := 243) (z := 59) rfl (by decide) ?_)
                                  refine wp_of e16 c16_243 (rw_icmp_ne (p1 := 250) (p2 := 246) (by decide) rfl ⟨by omega, by omega⟩ ⟨by omega, by omega⟩ (fun c6430 => ?_) (fun c6430 => ?_))
                                  · refine wp_of e16 c16_250 (rw_aload_n (pc' := 251) (v := .ref r0) rfl rfl rfl ?_)
                                    refine wp_of e16 c16_251 (xg_K (pc' := 254) lf_2_7 w6263 g0 sh_4 (by decide) (by decide) rfl q6427 rfl ?_)
                                    refine wp_of e16 c16_254 (rw_iload_n (pc' := 255) (z := v6261) rfl rfl ?_)
                                    refine wp_of e16 c16_255 (xa_B (by decide) (pc' := 256) w6263 grb sh_2 (by decide) (ty_2 _) (by omega) (by omega) rfl (fun b6431 b6432 => ?_))
                                    refine wp_of e16 c16_256 (rw_bipush (pc' := 258) (z := 44) rfl (by decide) ?_)
                                    refine wp_of e16 c16_258 (rw_icmp_ne (p1 := 265) (p2 := 261) (by decide) rfl ⟨by omega, by omega⟩ ⟨by omega, by omega⟩ (fun c6433 => ?_) (fun c6433 => ?_))
                                    · refine wp_of e16 c16_265 (rw_iconst (pc' := 266) rfl ?_)
                                      refine wp_of e16 c16_266 (xp_I (pc' := 269) lf_2_41 w6263 g0 sh_4 (by decide) (by decide) ty_4_3 rfl rfl (by omega) (by omega) ⟨by omega, by omega⟩ rfl (fun H6434 e6435 w6436 => ?_))
                                      have f6437 := f6267.put' e6435 g0 rfl
                                      have f6438 := f6268.put' e6435 g0 rfl
                                      have f6439 := f6264.put' e6435 g0 rfl
                                      have k6440 : H6434 r0 3 = 5 := wq_u_s e6435
                                      refine wp_of e16 c16_269 (rw_iinc (pc' := 272) (z := v6261) (L' := [(1, vI (v6261 + 1)), (3, vI ((v6261 - (H6262 r0 4)) - (v5117 - (H5118 r0 4)))), (2, vI (v5117 - (H5118 r0 4))), (0, .ref r0)]) rfl rfl rfl rfl ?_)
                                      refine wp_of e16 c16_272 (rw_goto (p1 := 280) (by decide) ?_)
                                      refine wp_of e16 c16_280 (rw_aload_n (pc' := 281) (v := .ref r0) rfl rfl rfl ?_)
                                      refine wp_of e16 c16_281 (rw_iload_n (pc' := 282) (z := v6261 + 1) rfl rfl ?_)
                                      refine wp_of e16 c16_282 (xp_I (pc' := 285) lf_2_23 w6436 g0 sh_4 (by decide) (by decide) ty_4_2 rfl rfl (by omega) (by omega) ⟨by omega, by omega⟩ rfl (fun H6441 e6442 w6443 => ?_))
                                      have f6444 := f6437.put' e6442 g0 rfl
                                      have f6445 := f6438.put' e6442 g0 rfl
                                      have f6446 := f6439.put' e6442 g0 rfl
                                      have k6447 : H6441 r0 2 = v6261 + 1 := wq_u_s e6442
                                      exact wp_return e16 c16_285 rfl ⟨rfl, w6443, f6444, rfl⟩
                                    · refine wp_of e16 c16_261 (rw_iconst (pc' := 262) rfl ?_)
                                      refine wp_of e16 c16_262 (rw_goto (p1 := 266) (by decide) ?_)
                                      refine wp_of e16 c16_266 (xp_I (pc' := 269) lf_2_41 w6263 g0 sh_4 (by decide) (by decide) ty_4_3 rfl rfl (by omega) (by omega) ⟨by omega, by omega⟩ rfl (fun H6448 e6449 w6450 => ?_))
                                      have f6451 := f6267.put' e6449 g0 rfl
                                      have f6452 := f6268.put' e6449 g0 rfl
                                      have f6453 := f6264.put' e6449 g0 rfl
                                      have k6454 : H6448 r0 3 = 4 := wq_u_s e6449
                                      refine wp_of e16 c16_269 (rw_iinc (pc' := 272) (z := v6261) (L' := [(1, vI (v6261 + 1)), (3, vI ((v6261 - (H6262 r0 4)) - (v5117 - (H5118 r0 4)))), (2, vI (v5117 - (H5118 r0 4))), (0, .ref r0)]) rfl rfl rfl rfl ?_)
                                      refine wp_of e16 c16_272 (rw_goto (p1 := 280) (by decide) ?_)
                                      refine wp_of e16 c16_280 (rw_aload_n (pc' := 281) (v := .ref r0) rfl rfl rfl ?_)
                                      refine wp_of e16 c16_281 (rw_iload_n (pc' := 282) (z := v6261 + 1) rfl rfl ?_)
                                      refine wp_of e16 c16_282 (xp_I (pc' := 285) lf_2_23 w6450 g0 sh_4 (by decide) (by decide) ty_4_2 rfl rfl (by omega) (by omega) ⟨by omega, by omega⟩ rfl (fun H6455 e6456 w6457 => ?_))
                                      have f6458 := f6451.put' e6456 g0 rfl
                                      have f6459 := f6452.put' e6456 g0 rfl
                                      have f6460 := f6453.put' e6456 g0 rfl
                                      have k6461 : H6455 r0 2 = v6261 + 1 := wq_u_s e6456
                                      exact wp_return e16 c16_285 rfl ⟨rfl, w6457, f6458, rfl⟩
                                  · refine wp_of e16 c16_246 (rw_iconst (pc' := 247) rfl ?_)
                                    refine wp_of e16 c16_247 (rw_goto (p1 := 266) (by decide) ?_)
                                    refine wp_of e16 c16_266 (xp_I (pc' := 269) lf_2_41 w6263 g0 sh_4 (by decide) (by decide) ty_4_3 rfl rfl (by omega) (by omega) ⟨by omega, by omega⟩ rfl (fun H6462 e6463 w6464 => ?_))
                                    have f6465 := f6267.put' e6463 g0 rfl
                                    have f6466 := f6268.put' e6463 g0 rfl
                                    have f6467 := f6264.put' e6463 g0 rfl
                                    have k6468 : H6462 r0 3 = 3 := wq_u_s e6463
                                    refine wp_of e16 c16_269 (rw_iinc (pc' := 272) (z := v6261) (L' := [(1, vI (v6261 + 1)), (3, vI ((v6261 - (H6262 r0 4)) - (v5117 - (H5118 r0 4)))), (2, vI (v5117 - (H5118 r0 4))), (0, .ref r0)]) rfl rfl rfl rfl ?_)
                                    refine wp_of e16 c16_272 (rw_goto (p1 := 280) (by decide) ?_)
                                    refine wp_of e16 c16_280 (rw_aload_n (pc' := 281) (v := .ref r0) rfl rfl rfl ?_)
                                    refine wp_of e16 c16_281 (rw_iload_n (pc' := 282) (z := v6261 + 1) rfl rfl ?_)
                                    refine wp_of e16 c16_282 (xp_I (pc' := 285) lf_2_23 w6464 g0 sh_4 (by decide) (by decide) ty_4_2 rfl rfl (by omega) (by omega) ⟨by omega, by omega⟩ rfl (fun H6469 e6470 w6471 => ?_))
                                    have f6472 := f6465.put' e6470 g0 rfl
                                    have f6473 := f6466.put' e6470 g0 rfl
                                    have f6474 := f6467.put' e6470 g0 rfl
                                    have k6475 : H6469 r0 2 = v6261 + 1 := wq_u_s e6470
                                    exact wp_return e16 c16_285 rfl ⟨rfl, w6471, f6472, rfl⟩
                              · refine wp_of e16 c16_209 (rw_aload_n (pc' := 210) (v := .ref r0) rfl rfl rfl ?_)
                                refine wp_of e16 c16_210 (rw_iload_n (pc' := 211) (z := (v6261 - (H6262 r0 4)) - (v5117 - (H5118 r0 4))) rfl rfl ?_)
                                refine wp_of e16 c16_211 (rw_iconst (pc' := 212) rfl ?_)
                                refine wp_of e16 c16_212 (rw_icmp_gt (p1 := 219) (p2 := 215) (by decide) rfl ⟨by omega, by omega⟩ ⟨by omega, by omega⟩ (fun c6476 => ?_) (fun c6476 => ?_))
                                · refine wp_of e16 c16_219 (rw_iconst (pc' := 220) rfl ?_)
                                  refine wp_of e16 c16_220 (xp_I (pc' := 223) lf_2_41 w6263 g0 sh_4 (by decide) (by decide) ty_4_3 rfl rfl (by omega) (by omega) ⟨by omega, by omega⟩ rfl (fun H6477 e6478 w6479 => ?_))
                                  have f6480 := f6267.put' e6478 g0 rfl
                                  have f6481 := f6268.put' e6478 g0 rfl
                                  have f6482 := f6264.put' e6478 g0 rfl
                                  have k6483 : H6477 r0 3 = 5 := wq_u_s e6478
                                  refine wp_of e16 c16_223 (rw_goto (p1 := 280) (by decide) ?_)
                                  refine wp_of e16 c16_280 (rw_aload_n (pc' := 281) (v := .ref r0) rfl rfl rfl ?_)
                                  refine wp_of e16 c16_281 (rw_iload_n (pc' := 282) (z := v6261) rfl rfl ?_)
                                  refine wp_of e16 c16_282 (xp_I (pc' := 285) lf_2_23 w6479 g0 sh_4 (by decide) (by decide) ty_4_2 rfl rfl (by omega) (by omega) ⟨by omega, by omega⟩ rfl (fun H6484 e6485 w6486 => ?_))
                                  have f6487 := f6480.put' e6485 g0 rfl
                                  have f6488 := f6481.put' e6485 g0 rfl
                                  have f6489 := f6482.put' e6485 g0 rfl
                                  have k6490 : H6484 r0 2 = v6261 := wq_u_s e6485
                                  exact wp_return e16 c16_285 rfl ⟨rfl, w6486, f6487, rfl⟩
                                · refine wp_of e16 c16_215 (rw_iconst (pc' := 216) rfl ?_)
                                  refine wp_of e16 c16_216 (rw_goto (p1 := 220) (by decide) ?_)
                                  refine wp_of e16 c16_220 (xp_I (pc' := 223) lf_2_41 w6263 g0 sh_4 (by decide) (by decide) ty_4_3 rfl rfl (by omega) (by omega) ⟨by omega, by omega⟩ rfl (fun H6491 e6492 w6493 => ?_))
                                  have f6494 := f6267.put' e6492 g0 rfl
                                  have f6495 := f6268.put' e6492 g0 rfl
                                  have f6496 := f6264.put' e6492 g0 rfl
                                  have k6497 : H6491 r0 3 = 2 := wq_u_s e6492
                                  refine wp_of e16 c16_223 (rw_goto (p1 := 280) (by decide) ?_)
                                  refine wp_of e16 c16_280 (rw_aload_n (pc' := 281) (v := .ref r0) rfl rfl rfl ?_)
                                  refine wp_of e16 c16_281 (rw_iload_n (pc' := 282) (z := v6261) rfl rfl ?_)
                                  refine wp_of e16 c16_282 (xp_I (pc' := 285) lf_2_23 w6493 g0 sh_4 (by decide) (by decide) ty_4_2 rfl rfl (by omega) (by omega) ⟨by omega, by omega⟩ rfl (fun H6498 e6499 w6500 => ?_))
                                  have f6501 := f6494.put' e6499 g0 rfl
                                  have f6502 := f6495.put' e6499 g0 rfl
                                  have f6503 := f6496.put' e6499 g0 rfl
                                  have k6504 : H6498 r0 2 = v6261 := wq_u_s e6499
                                  exact wp_return e16 c16_285 rfl ⟨rfl, w6500, f6501, rfl⟩
                            · refine wp_of e16 c16_187 (rw_aload_n (pc' := 188) (v := .ref r0) rfl rfl rfl ?_)
                              refine wp_of e16 c16_188 (rw_iload_n (pc' := 189) (z := v5117 - (H5118 r0 4)) rfl rfl ?_)
                              refine wp_of e16 c16_189 (rw_bipush (pc' := 191) (z := 8) rfl (by decide) ?_)
                              refine wp_of e16 c16_191 (rw_icmp_gt (p1 := 198) (p2 := 194) (by decide) rfl ⟨by omega, by omega⟩ ⟨by omega, by omega⟩ (fun c6505 => ?_) (fun c6505 => ?_))
                              · refine wp_of e16 c16_198 (rw_iconst (pc' := 199) rfl ?_)
                                refine wp_of e16 c16_199 (xp_I (pc' := 202) lf_2_41 w6263 g0 sh_4 (by decide) (by decide) ty_4_3 rfl rfl (by omega) (by omega) ⟨by omega, by omega⟩ rfl (fun H6506 e6507 w6508 => ?_))
                                have f6509 := f6267.put' e6507 g0 rfl
                                have f6510 := f6268.put' e6507 g0 rfl
                                have f6511 := f6264.put' e6507 g0 rfl
                                have k6512 : H6506 r0 3 = 5 := wq_u_s e6507
                                refine wp_of e16 c16_202 (rw_goto (p1 := 280) (by decide) ?_)
                                refine wp_of e16 c16_280 (rw_aload_n (pc' := 281) (v := .ref r0) rfl rfl rfl ?_)
                                refine wp_of e16 c16_281 (rw_iload_n (pc' := 282) (z := v6261) rfl rfl ?_)
                                refine wp_of e16 c16_282 (xp_I (pc' := 285) lf_2_23 w6508 g0 sh_4 (by decide) (by decide) ty_4_2 rfl rfl (by omega) (by omega) ⟨by omega, by omega⟩ rfl (fun H6513 e6514 w6515 => ?_))
                                have f6516 := f6509.put' e6514 g0 rfl
                                have f6517 := f6510.put' e6514 g0 rfl
                                have f6518 := f6511.put' e6514 g0 rfl
                                have k6519 : H6513 r0 2 = v6261 := wq_u_s e6514
                                exact wp_return e16 c16_285 rfl ⟨rfl, w6515, f6516, rfl⟩
                              · refine wp_of e16 c16_194 (rw_iconst (pc' := 195) rfl ?_)
                                refine wp_of e16 c16_195 (rw_goto (p1 := 199) (by decide) ?_)
                                refine wp_of e16 c16_199 (xp_I (pc' := 202) lf_2_41 w6263 g0 sh_4 (by decide) (by decide) ty_4_3 rfl rfl (by omega) (by omega) ⟨by omega, by omega⟩ rfl (fun H6520 e6521 w6522 => ?_))
                                have f6523 := f6267.put' e6521 g0 rfl
                                have f6524 := f6268.put' e6521 g0 rfl
                                have f6525 := f6264.put' e6521 g0 rfl
                                have k6526 : H6520 r0 3 = 1 := wq_u_s e6521
                                refine wp_of e16 c16_202 (rw_goto (p1 := 280) (by decide) ?_)
                                refine wp_of e16 c16_280 (rw_aload_n (pc' := 281) (v := .ref r0) rfl rfl rfl ?_)
                                refine wp_of e16 c16_281 (rw_iload_n (pc' := 282) (z := v6261) rfl rfl ?_)
                                refine wp_of e16 c16_282 (xp_I (pc' := 285) lf_2_23 w6522 g0 sh_4 (by decide) (by decide) ty_4_2 rfl rfl (by omega) (by omega) ⟨by omega, by omega⟩ rfl (fun H6527 e6528 w6529 => ?_))
                                have f6530 := f6523.put' e6528 g0 rfl
                                have f6531 := f6524.put' e6528 g0 rfl
                                have f6532 := f6525.put' e6528 g0 rfl
                                have k6533 : H6527 r0 2 = v6261 := wq_u_s e6528
                                exact wp_return e16 c16_285 rfl ⟨rfl, w6529, f6530, rfl⟩
                          · refine wp_of e16 c16_125 (rw_aload_n (pc' := 126) (v := .ref r0) rfl rfl rfl ?_)
                            have k6534 : H6262 r0 0 = H5118 r0 0 := ((f6264 r0 0 _ g0 rfl).trans (wq_u_j e6202 rfl))
                            have q6535 : H6262 r0 0 = (rb : Int) := k6534.trans q5660
                            refine wp_of e16 c16_126 (xg_K (pc' := 129) lf_2_7 w6263 g0 sh_4 (by decide) (by decide) rfl q6535 rfl ?_)
                            refine wp_of e16 c16_129 (rw_iload_n (pc' := 130) (z := v6261) rfl rfl ?_)
                            refine wp_of e16 c16_130 (xa_B (by decide) (pc' := 131) w6263 grb sh_2 (by decide) (ty_2 _) (by omega) (by omega) rfl (fun b6536 b6537 => ?_))
                            refine wp_of e16 c16_131 (rw_bipush (pc' := 133) (z := 48) rfl (by decide) ?_)
                            refine wp_of e16 c16_133 (rw_icmp_lt (p1 := 174) (p2 := 136) (by decide) rfl ⟨by omega, by omega⟩ ⟨by omega, by omega⟩ (fun c6538 => ?_) (fun c6538 => ?_))
                            · refine wp_of e16 c16_174 (rw_iload_n (pc' := 175) (z := v6261) rfl rfl ?_)
                              refine wp_of e16 c16_175 (rw_aload_n (pc' := 176) (v := .ref r0) rfl rfl rfl ?_)
                              have k6539 : H6262 r0 4 = H5118 r0 4 := ((f6264 r0 4 _ g0 rfl).trans (wq_u_j e6202 rfl))
                              refine wp_of e16 c16_176 (xg_I (pc' := 179) lf_2_29 w6263 g0 sh_4 (by decide) (by decide) ty_4_4 rfl rfl (fun b6540 b6541 => ?_))
                              refine wp_of e16 c16_179 (rw_isub (pc' := 180) rfl ?_)
                              refine wp_of e16 c16_180 (rw_iload_n (pc' := 181) (z := v5117 - (H5118 r0 4)) rfl rfl ?_)
                              refine wp_of e16 c16_181 (rw_isub (pc' := 182) rfl ?_)
                              refine wp_of e16 c16_182 (rw_istore_n (pc' := 183) (z := (v6261 - (H6262 r0 4)) - (v5117 - (H5118 r0 4))) (L' := [(3, vI ((v6261 - (H6262 r0 4)) - (v5117 - (H5118 r0 4)))), (1, vI v6261), (2, vI (v5117 - (H5118 r0 4))), (0, .ref r0)]) rfl rfl rfl ?_)
                              refine wp_of e16 c16_183 (rw_iload_n (pc' := 184) (z := v5117 - (H5118 r0 4)) rfl rfl ?_)
                              refine wp_of e16 c16_184 (rw_if_le (p1 := 205) (p2 := 187) (by decide) rfl ⟨by omega, by omega⟩ (fun c6542 => ?_) (fun c6542 => ?_))
                              · refine wp_of e16 c16_205 (rw_iload_n (pc' := 206) (z := (v6261 - (H6262 r0 4)) - (v5117 - (H5118 r0 4))) rfl rfl ?_)
                                refine wp_of e16 c16_206 (rw_if_le (p1 := 226) (p2 := 209) (by decide) rfl ⟨by omega, by omega⟩ (fun c6543 => ?_) (fun c6543 => ?_))
                                · refine wp_of e16 c16_226 (rw_iload_n (pc' := 227) (z := v6261) rfl rfl ?_)
                                  refine wp_of e16 c16_227 (rw_aload_n (pc' := 228) (v := .ref r0) rfl rfl rfl ?_)
                                  refine wp_of e16 c16_228 (xg_I (pc' := 231) lf_2_19 w6263 g0 sh_4 (by decide) (by decide) ty_4_1 rfl rfl (fun b6544 b6545 => ?_))
                                  refine wp_of e16 c16_231 (rw_icmp_ge (p1 := 275) (p2 := 234) (by decide) rfl ⟨by omega, by omega⟩ ⟨by omega, by omega⟩ (fun c6546 => ?_) (fun c6546 => ?_))
                                  · refine wp_of e16 c16_275 (rw_aload_n (pc' := 276) (v := .ref r0) rfl rfl rfl ?_)
                                    refine wp_of e16 c16_276 (rw_iconst (pc' := 277) rfl ?_)
                                    refine wp_of e16 c16_277 (xp_I (pc' := 280) lf_2_41 w6263 g0 sh_4 (by decide) (by decide) ty_4_3 rfl rfl (by omega) (by omega) ⟨by omega, by omega⟩ rfl (fun H6547 e6548 w6549 => ?_))
                                    have f6550 := f6267.put' e6548 g0 rfl
                                    have f6551 := f6268.put' e6548 g0 rfl
                                    have f6552 := f6264.put' e6548 g0 rfl
                                    have k6553 : H6547 r0 3 = 0 := wq_u_s e6548
                                    refine wp_of e16 c16_280 (rw_aload_n (pc' := 281) (v := .ref r0) rfl rfl rfl ?_)
                                    refine wp_of e16 c16_281 (rw_iload_n (pc' := 282) (z := v6261) rfl rfl ?_)
                                    refine wp_of e16 c16_282 (xp_I (pc' := 285) lf_2_23 w6549 g0 sh_4 (by decide) (by decide) ty_4_2 rfl rfl (by omega) (by omega) ⟨by omega, by omega⟩ rfl (fun H6554 e6555 w6556 => ?_))
                                    have f6557 := f6550.put' e6555 g0 rfl
                                    have f6558 := f6551.put' e6555 g0 rfl
                                    have f6559 := f6552.put' e6555 g0 rfl
                                    have k6560 : H6554 r0 2 = v6261 := wq_u_s e6555
                                    exact wp_return e16 c16_285 rfl ⟨rfl, w6556, f6557, rfl⟩
                                  · refine wp_of e16 c16_234 (rw_aload_n (pc' := 235) (v := .ref r0) rfl rfl rfl ?_)
                                    refine wp_of e16 c16_235 (rw_aload_n (pc' := 236) (v := .ref r0) rfl rfl rfl ?_)
                                    refine wp_of e16 c16_236 (xg_K (pc' := 239) lf_2_7 w6263 g0 sh_4 (by decide) (by decide) rfl q6535 rfl ?_)
                                    refine wp_of e16 c16_239 (rw_iload_n (pc' := 240) (z := v6261) rfl rfl ?_)
                                    refine wp_of e16 c16_240 (xa_B (by decide) (pc' := 241) w6263 grb sh_2 (by decide) (ty_2 _) (by omega) (by omega) rfl (fun b6561 b6562 => ?_))
                                    refine wp_of e16 c16_241 (rw_bipush (pc' := 243) (z := 59) rfl (by decide) ?_)
                                    refine wp_of e16 c16_243 (rw_icmp_ne (p1 := 250) (p2 := 246) (by decide) rfl ⟨by omega, by omega⟩ ⟨by omega, by omega⟩ (fun c6563 => ?_) (fun c6563 => ?_))
                                    · refine wp_of e16 c16_250 (rw_aload_n (pc' := 251) (v := .ref r0) rfl rfl rfl ?_)
                                      refine wp_of e16 c16_251 (xg_K (pc' := 254) lf_2_7 w6263 g0 sh_4 (by decide) (by decide) rfl q6535 rfl ?_)
                                      refine wp_of e16 c16_254 (rw_iload_n (pc' := 255) (z := v6261) rfl rfl ?_)
                                      refine wp_of e16 c16_255 (xa_B (by decide) (pc' := 256) w6263 grb sh_2 (by decide) (ty_2 _) (by omega) (by omega) rfl (fun b6564 b6565 => ?_))
                                      refine wp_of e16 c16_256 (rw_bipush (pc' := 258) (z := 44) rfl (by decide) ?_)
                                      refine wp_of e16 c16_258 (rw_icmp_ne (p1 := 265) (p2 := 261) (by decide) rfl ⟨by omega, by omega⟩ ⟨by omega, by omega⟩ (fun c6566 => ?_) (fun c6566 => ?_))
                                      · refine wp_of e16 c16_265 (rw_iconst (pc' := 266) rfl ?_)
                                        refine wp_of e16 c16_266 (xp_I (pc' := 269) lf_2_41 w6263 g0 sh_4 (by decide) (by decide) ty_4_3 rfl rfl (by omega) (by omega) ⟨by omega, by omega⟩ rfl (fun H6567 e6568 w6569 => ?_))
                                        have f6570 := f6267.put' e6568 g0 rfl
                                        have f6571 := f6268.put' e6568 g0 rfl
                                        have f6572 := f6264.put' e6568 g0 rfl
                                        have k6573 : H6567 r0 3 = 5 := wq_u_s e6568
                                        refine wp_of e16 c16_269 (rw_iinc (pc' := 272) (z := v6261) (L' := [(1, vI (v6261 + 1)), (3, vI ((v6261 - (H6262 r0 4)) - (v5117 - (H5118 r0 4)))), (2, vI (v5117 - (H5118 r0 4))), (0, .ref r0)]) rfl rfl rfl rfl ?_)
                                        refine wp_of e16 c16_272 (rw_goto (p1 := 280) (by decide) ?_)
                                        refine wp_of e16 c16_280 (rw_aload_n (pc' := 281) (v := .ref r0) rfl rfl rfl ?_)
                                        refine wp_of e16 c16_281 (rw_iload_n (pc' := 282) (z := v6261 + 1) rfl rfl ?_)
                                        refine wp_of e16 c16_282 (xp_I (pc' := 285) lf_2_23 w6569 g0 sh_4 (by decide) (by decide) ty_4_2 rfl rfl (by omega) (by omega) ⟨by omega, by omega⟩ rfl (fun H6574 e6575 w6576 => ?_))
                                        have f6577 := f6570.put' e6575 g0 rfl
                                        have f6578 := f6571.put' e6575 g0 rfl
                                        have f6579 := f6572.put' e6575 g0 rfl
                                        have k6580 : H6574 r0 2 = v6261 + 1 := wq_u_s e6575
                                        exact wp_return e16 c16_285 rfl ⟨rfl, w6576, f6577, rfl⟩
                                      · refine wp_of e16 c16_261 (rw_iconst (pc' := 262) rfl ?_)
                                        refine wp_of e16 c16_262 (rw_goto (p1 := 266) (by decide) ?_)
                                        refine wp_of e16 c16_266 (xp_I (pc' := 269) lf_2_41 w6263 g0 sh_4 (by decide) (by decide) ty_4_3 rfl rfl (by omega) (by omega) ⟨by omega, by omega⟩ rfl (fun H6581 e6582 w6583 => ?_))
                                        have f6584 := f6267.put' e6582 g0 rfl
                                        have f6585 := f6268.put' e6582 g0 rfl
                                        have f6586 := f6264.put' e6582 g0 rfl
                                        have k6587 : H6581 r0 3 = 4 := wq_u_s e6582
                                        refine wp_of e16 c16_269 (rw_iinc (pc' := 272) (z := v6261) (L' := [(1, vI (v6261 + 1)), (3, vI ((v6261 - (H6262 r0 4)) - (v5117 - (H5118 r0 4)))), (2, vI (v5117 - (H5118 r0 4))), (0, .ref r0)]) rfl rfl rfl rfl ?_)
                                        refine wp_of e16 c16_272 (rw_goto (p1 := 280) (by decide) ?_)
                                        refine wp_of e16 c16_280 (rw_aload_n (pc' := 281) (v := .ref r0) rfl rfl rfl ?_)
                                        refine wp_of e16 c16_281 (rw_iload_n (pc' := 282) (z := v6261 + 1) rfl rfl ?_)
                                        refine wp_of e16 c16_282 (xp_I (pc' := 285) lf_2_23 w6583 g0 sh_4 (by decide) (by decide) ty_4_2 rfl rfl (by omega) (by omega) ⟨by omega, by omega⟩ rfl (fun H6588 e6589 w6590 => ?_))
                                        have f6591 := f6584.put' e6589 g0 rfl
                                        have f6592 := f6585.put' e6589 g0 rfl
                                        have f6593 := f6586.put' e6589 g0 rfl
                                        have k6594 : H6588 r0 2 = v6261 + 1 := wq_u_s e6589
                                        exact wp_return e16 c16_285 rfl ⟨rfl, w6590, f6591, rfl⟩
                                    · exfalso
                                      omega
                                · refine wp_of e16 c16_209 (rw_aload_n (pc' := 210) (v := .ref r0) rfl rfl rfl ?_)
                                  refine wp_of e16 c16_210 (rw_iload_n (pc' := 211) (z := (v6261 - (H6262 r0 4)) - (v5117 - (H5118 r0 4))) rfl rfl ?_)
                                  refine wp_of e16 c16_211 (rw_iconst (pc' := 212) rfl ?_)
                                  refine wp_of e16 c16_212 (rw_icmp_gt (p1 := 219) (p2 := 215) (by decide) rfl ⟨by omega, by omega⟩ ⟨by omega, by omega⟩ (fun c6595 => ?_) (fun c6595 => ?_))
                                  · refine wp_of e16 c16_219 (rw_iconst (pc' := 220) rfl ?_)
                                    refine wp_of e16 c16_220 (xp_I (pc' := 223) lf_2_41 w6263 g0 sh_4 (by decide) (by decide) ty_4_3 rfl rfl (by omega) (by omega) ⟨by omega, by omega⟩ rfl (fun H6596 e6597 w6598 => ?_))
                                    have f6599 := f6267.put' e6597 g0 rfl
                                    have f6600 := f6268.put' e6597 g0 rfl
                                    have f6601 := f6264.put' e6597 g0 rfl
                                    have k6602 : H6596 r0 3 = 5 := wq_u_s e6597
                                    refine wp_of e16 c16_223 (rw_goto (p1 := 280) (by decide) ?_)
                                    refine wp_of e16 c16_280 (rw_aload_n (pc' := 281) (v := .ref r0) rfl rfl rfl ?_)
                                    refine wp_of e16 c16_281 (rw_iload_n (pc' := 282) (z := v6261) rfl rfl ?_)
                                    refine wp_of e16 c16_282 (xp_I (pc' := 285) lf_2_23 w6598 g0 sh_4 (by decide) (by decide) ty_4_2 rfl rfl (by omega) (by omega) ⟨by omega, by omega⟩ rfl (fun H6603 e6604 w6605 => ?_))
                                    have f6606 := f6599.put' e6604 g0 rfl
                                    have f6607 := f6600.put' e6604 g0 rfl
                                    have f6608 := f6601.put' e6604 g0 rfl
                                    have k6609 : H6603 r0 2 = v6261 := wq_u_s e6604
                                    exact wp_return e16 c16_285 rfl ⟨rfl, w6605, f6606, rfl⟩
                                  · refine wp_of e16 c16_215 (rw_iconst (pc' := 216) rfl ?_)
                                    refine wp_of e16 c16_216 (rw_goto (p1 := 220) (by decide) ?_)
                                    refine wp_of e16 c16_220 (xp_I (pc' := 223) lf_2_41 w6263 g0 sh_4 (by decide) (by decide) ty_4_3 rfl rfl (by omega) (by omega) ⟨by omega, by omega⟩ rfl (fun H6610 e6611 w6612 => ?_))
                                    have f6613 := f6267.put' e6611 g0 rfl
                                    have f6614 := f6268.put' e6611 g0 rfl
                                    have f6615 := f6264.put' e6611 g0 rfl
                                    have k6616 : H6610 r0 3 = 2 := wq_u_s e6611
                                    refine wp_of e16 c16_223 (rw_goto (p1 := 280) (by decide) ?_)
                                    refine wp_of e16 c16_280 (rw_aload_n (pc' := 281) (v := .ref r0) rfl rfl rfl ?_)
                                    refine wp_of e16 c16_281 (rw_iload_n (pc' := 282) (z := v6261) rfl rfl ?_)
                                    refine wp_of e16 c16_282 (xp_I (pc' := 285) lf_2_23 w6612 g0 sh_4 (by decide) (by decide) ty_4_2 rfl rfl (by omega) (by omega) ⟨by omega, by omega⟩ rfl (fun H6617 e6618 w6619 => ?_))
                                    have f6620 := f6613.put' e6618 g0 rfl
                                    have f6621 := f6614.put' e6618 g0 rfl
                                    have f6622 := f6615.put' e6618 g0 rfl
                                    have k6623 : H6617 r0 2 = v6261 := wq_u_s e6618
                                    exact wp_return e16 c16_285 rfl ⟨rfl, w6619, f6620, rfl⟩
                              · exfalso
                                omega
                            · refine wp_of e16 c16_136 (rw_aload_n (pc' := 137) (v := .ref r0) rfl rfl rfl ?_)
                              refine wp_of e16 c16_137 (xg_K (pc' := 140) lf_2_7 w6263 g0 sh_4 (by decide) (by decide) rfl q6535 rfl ?_)
                              refine wp_of e16 c16_140 (rw_iload_n (pc' := 141) (z := v6261) rfl rfl ?_)
                              refine wp_of e16 c16_141 (xa_B (by decide) (pc' := 142) w6263 grb sh_2 (by decide) (ty_2 _) (by omega) (by omega) rfl (fun b6624 b6625 => ?_))
                              refine wp_of e16 c16_142 (rw_bipush (pc' := 144) (z := 57) rfl (by decide) ?_)
                              refine wp_of e16 c16_144 (rw_icmp_gt (p1 := 174) (p2 := 147) (by decide) rfl ⟨by omega, by omega⟩ ⟨by omega, by omega⟩ (fun c6626 => ?_) (fun c6626 => ?_))
                              · refine wp_of e16 c16_174 (rw_iload_n (pc' := 175) (z := v6261) rfl rfl ?_)
                                refine wp_of e16 c16_175 (rw_aload_n (pc' := 176) (v := .ref r0) rfl rfl rfl ?_)
                                have k6627 : H6262 r0 4 = H5118 r0 4 := ((f6264 r0 4 _ g0 rfl).trans (wq_u_j e6202 rfl))
                                refine wp_of e16 c16_176 (xg_I (pc' := 179) lf_2_29 w6263 g0 sh_4 (by decide) (by decide) ty_4_4 rfl rfl (fun b6628 b6629 => ?_))
                                refine wp_of e16 c16_179 (rw_isub (pc' := 180) rfl ?_)
                                refine wp_of e16 c16_180 (rw_iload_n (pc' := 181) (z := v5117 - (H5118 r0 4)) rfl rfl ?_)
                                refine wp_of e16 c16_181 (rw_isub (pc' := 182) rfl ?_)
                                refine wp_of e16 c16_182 (rw_istore_n (pc' := 183) (z := (v6261 - (H6262 r0 4)) - (v5117 - (H5118 r0 4))) (L' := [(3, vI ((v6261 - (H6262 r0 4)) - (v5117 - (H5118 r0 4)))), (1, vI v6261), (2, vI (v5117 - (H5118 r0 4))), (0, .ref r0)]) rfl rfl rfl ?_)
                                refine wp_of e16 c16_183 (rw_iload_n (pc' := 184) (z := v5117 - (H5118 r0 4)) rfl rfl ?_)
                                refine wp_of e16 c16_184 (rw_if_le (p1 := 205) (p2 := 187) (by decide) rfl ⟨by omega, by omega⟩ (fun c6630 => ?_) (fun c6630 => ?_))
                                · refine wp_of e16 c16_205 (rw_iload_n (pc' := 206) (z := (v6261 - (H6262 r0 4)) - (v5117 - (H5118 r0 4))) rfl rfl ?_)
                                  refine wp_of e16 c16_206 (rw_if_le (p1 := 226) (p2 := 209) (by decide) rfl ⟨by omega, by omega⟩ (fun c6631 => ?_) (fun c6631 => ?_))
                                  · refine wp_of e16 c16_226 (rw_iload_n (pc' := 227) (z := v6261) rfl rfl ?_)
                                    refine wp_of e16 c16_227 (rw_aload_n (pc' := 228) (v := .ref r0) rfl rfl rfl ?_)
                                    refine wp_of e16 c16_228 (xg_I (pc' := 231) lf_2_19 w6263 g0 sh_4 (by decide) (by decide) ty_4_1 rfl rfl (fun b6632 b6633 => ?_))
                                    refine wp_of e16 c16_231 (rw_icmp_ge (p1 := 275) (p2 := 234) (by decide) rfl ⟨by omega, by omega⟩ ⟨by omega, by omega⟩ (fun c6634 => ?_) (fun c6634 => ?_))
                                    · refine wp_of e16 c16_275 (rw_aload_n (pc' := 276) (v := .ref r0) rfl rfl rfl ?_)
                                      refine wp_of e16 c16_276 (rw_iconst (pc' := 277) rfl ?_)
                                      refine wp_of e16 c16_277 (xp_I (pc' := 280) lf_2_41 w6263 g0 sh_4 (by decide) (by decide) ty_4_3 rfl rfl (by omega) (by omega) ⟨by omega, by omega⟩ rfl (fun H6635 e6636 w6637 => ?_))
                                      have f6638 := f6267.put' e6636 g0 rfl
                                      have f6639 := f6268.put' e6636 g0 rfl
                                      have f6640 := f6264.put' e6636 g0 rfl
                                      have k6641 : H6635 r0 3 = 0 := wq_u_s e6636
                                      refine wp_of e16 c16_280 (rw_aload_n (pc' := 281) (v := .ref r0) rfl rfl rfl ?_)
                                      refine wp_of e16 c16_281 (rw_iload_n (pc' := 282) (z := v6261) rfl rfl ?_)
                                      refine wp_of e16 c16_282 (xp_I (pc' := 285) lf_2_23 w6637 g0 sh_4 (by decide) (by decide) ty_4_2 rfl rfl (by omega) (by omega) ⟨by omega, by omega⟩ rfl (fun H6642 e6643 w6644 => ?_))
                                      have f6645 := f6638.put' e6643 g0 rfl
                                      have f6646 := f6639.put' e6643 g0 rfl
                                      have f6647 := f6640.put' e6643 g0 rfl
                                      have k6648 : H6642 r0 2 = v6261 := wq_u_s e6643
                                      exact wp_return e16 c16_285 rfl ⟨rfl, w6644, f6645, rfl⟩
                                    · refine wp_of e16 c16_234 (rw_aload_n (pc' := 235) (v := .ref r0) rfl rfl rfl ?_)
                                      refine wp_of e16 c16_235 (rw_aload_n (pc' := 236) (v := .ref r0) rfl rfl rfl ?_)
                                      refine wp_of e16 c16_236 (xg_K (pc' := 239) lf_2_7 w6263 g0 sh_4 (by decide) (by decide) rfl q6535 rfl ?_)
                                      refine wp_of e16 c16_239 (rw_iload_n (pc' := 240) (z := v6261) rfl rfl ?_)
                                      refine wp_of e16 c16_240 (xa_B (by decide) (pc' := 241) w6263 grb sh_2 (by decide) (ty_2 _) (by omega) (by omega) rfl (fun b6649 b6650 => ?_))
                                      refine wp_of e16 c16_241 (rw_bipush (pc' := 243) (z := 59) rfl (by decide) ?_)
                                      refine wp_of e16 c16_243 (rw_icmp_ne (p1 := 250) (p2 := 246) (by decide) rfl ⟨by omega, by omega⟩ ⟨by omega, by omega⟩ (fun c6651 => ?_) (fun c6651 => ?_))
                                      · refine wp_of e16 c16_250 (rw_aload_n (pc' := 251) (v := .ref r0) rfl rfl rfl ?_)
                                        refine wp_of e16 c16_251 (xg_K (pc' := 254) lf_2_7 w6263 g0 sh_4 (by decide) (by decide) rfl q6535 rfl ?_)
                                        refine wp_of e16 c16_254 (rw_iload_n (pc' := 255) (z := v6261) rfl rfl ?_)
                                        refine wp_of e16 c16_255 (xa_B (by decide) (pc' := 256) w6263 grb sh_2 (by decide) (ty_2 _) (by omega) (by omega) rfl (fun b6652 b6653 => ?_))
                                        refine wp_of e16 c16_256 (rw_bipush (pc' := 258) (z := 44) rfl (by decide) ?_)
                                        refine wp_of e16 c16_258 (rw_icmp_ne (p1 := 265) (p2 := 261) (by decide) rfl ⟨by omega, by omega⟩ ⟨by omega, by omega⟩ (fun c6654 => ?_) (fun c6654 => ?_))
                                        · refine wp_of e16 c16_265 (rw_iconst (pc' := 266) rfl ?_)
                                          refine wp_of e16 c16_266 (xp_I (pc' := 269) lf_2_41 w6263 g0 sh_4 (by decide) (by decide) ty_4_3 rfl rfl (by omega) (by omega) ⟨by omega, by omega⟩ rfl (fun H6655 e6656 w6657 => ?_))
                                          have f6658 := f6267.put' e6656 g0 rfl
                                          have f6659 := f6268.put' e6656 g0 rfl
                                          have f6660 := f6264.put' e6656 g0 rfl
                                          have k6661 : H6655 r0 3 = 5 := wq_u_s e6656
                                          refine wp_of e16 c16_269 (rw_iinc (pc' := 272) (z := v6261) (L' := [(1, vI (v6261 + 1)), (3, vI ((v6261 - (H6262 r0 4)) - (v5117 - (H5118 r0 4)))), (2, vI (v5117 - (H5118 r0 4))), (0, .ref r0)]) rfl rfl rfl rfl ?_)
                                          refine wp_of e16 c16_272 (rw_goto (p1 := 280) (by decide) ?_)
                                          refine wp_of e16 c16_280 (rw_aload_n (pc' := 281) (v := .ref r0) rfl rfl rfl ?_)
                                          refine wp_of e16 c16_281 (rw_iload_n (pc' := 282) (z := v6261 + 1) rfl rfl ?_)
                                          refine wp_of e16 c16_282 (xp_I (pc' := 285) lf_2_23 w6657 g0 sh_4 (by decide) (by decide) ty_4_2 rfl rfl (by omega) (by omega) ⟨by omega, by omega⟩ rfl (fun H6662 e6663 w6664 => ?_))
                                          have f6665 := f6658.put' e6663 g0 rfl
                                          have f6666 := f6659.put' e6663 g0 rfl
                                          have f6667 := f6660.put' e6663 g0 rfl
                                          have k6668 : H6662 r0 2 = v6261 + 1 := wq_u_s e6663
                                          exact wp_return e16 c16_285 rfl ⟨rfl, w6664, f6665, rfl⟩
                                        · exfalso
                                          omega
                                      · refine wp_of e16 c16_246 (rw_iconst (pc' := 247) rfl ?_)
                                        refine wp_of e16 c16_247 (rw_goto (p1 := 266) (by decide) ?_)
                                        refine wp_of e16 c16_266 (xp_I (pc' := 269) lf_2_41 w6263 g0 sh_4 (by decide) (by decide) ty_4_3 rfl rfl (by omega) (by omega) ⟨by omega, by omega⟩ rfl (fun H6669 e6670 w6671 => ?_))
                                        have f6672 := f6267.put' e6670 g0 rfl
                                        have f6673 := f6268.put' e6670 g0 rfl
                                        have f6674 := f6264.put' e6670 g0 rfl
                                        have k6675 : H6669 r0 3 = 3 := wq_u_s e6670
                                        refine wp_of e16 c16_269 (rw_iinc (pc' := 272) (z := v6261) (L' := [(1, vI (v6261 + 1)), (3, vI ((v6261 - (H6262 r0 4)) - (v5117 - (H5118 r0 4)))), (2, vI (v5117 - (H5118 r0 4))), (0, .ref r0)]) rfl rfl rfl rfl ?_)
                                        refine wp_of e16 c16_272 (rw_goto (p1 := 280) (by decide) ?_)
                                        refine wp_of e16 c16_280 (rw_aload_n (pc' := 281) (v := .ref r0) rfl rfl rfl ?_)
                                        refine wp_of e16 c16_281 (rw_iload_n (pc' := 282) (z := v6261 + 1) rfl rfl ?_)
                                        refine wp_of e16 c16_282 (xp_I (pc' := 285) lf_2_23 w6671 g0 sh_4 (by decide) (by decide) ty_4_2 rfl rfl (by omega) (by omega) ⟨by omega, by omega⟩ rfl (fun H6676 e6677 w6678 => ?_))
                                        have f6679 := f6672.put' e6677 g0 rfl
                                        have f6680 := f6673.put' e6677 g0 rfl
                                        have f6681 := f6674.put' e6677 g0 rfl
                                        have k6682 : H6676 r0 2 = v6261 + 1 := wq_u_s e6677
                                        exact wp_return e16 c16_285 rfl ⟨rfl, w6678, f6679, rfl⟩
                                  · refine wp_of e16 c16_209 (rw_aload_n (pc' := 210) (v := .ref r0) rfl rfl rfl ?_)
                                    refine wp_of e16 c16_210 (rw_iload_n (pc' := 211) (z := (v6261 - (H6262 r0 4)) - (v5117 - (H5118 r0 4))) rfl rfl ?_)
                                    refine wp_of e16 c16_211 (rw_iconst (pc' := 212) rfl ?_)
                                    refine wp_of e16 c16_212 (rw_icmp_gt (p1 := 219) (p2 := 215) (by decide) rfl ⟨by omega, by omega⟩ ⟨by omega, by omega⟩ (fun c6683 => ?_) (fun c6683 => ?_))
                                    · refine wp_of e16 c16_219 (rw_iconst (pc' := 220) rfl ?_)
                                      refine wp_of e16 c16_220 (xp_I (pc' := 223) lf_2_41 w6263 g0 sh_4 (by decide) (by decide) ty_4_3 rfl rfl (by omega) (by omega) ⟨by omega, by omega⟩ rfl (fun H6684 e6685 w6686 => ?_))
                                      have f6687 := f6267.put' e6685 g0 rfl
                                      have f6688 := f6268.put' e6685 g0 rfl
                                      have f6689 := f6264.put' e6685 g0 rfl
                                      have k6690 : H6684 r0 3 = 5 := wq_u_s e6685
                                      refine wp_of e16 c16_223 (rw_goto (p1 := 280) (by decide) ?_)
                                      refine wp_of e16 c16_280 (rw_aload_n (pc' := 281) (v := .ref r0) rfl rfl rfl ?_)
                                      refine wp_of e16 c16_281 (rw_iload_n (pc' := 282) (z := v6261) rfl rfl ?_)
                                      refine wp_of e16 c16_282 (xp_I (pc' := 285) lf_2_23 w6686 g0 sh_4 (by decide) (by decide) ty_4_2 rfl rfl (by omega) (by omega) ⟨by omega, by omega⟩ rfl (fun H6691 e6692 w6693 => ?_))
                                      have f6694 := f6687.put' e6692 g0 rfl
                                      have f6695 := f6688.put' e6692 g0 rfl
                                      have f6696 := f6689.put' e6692 g0 rfl
                                      have k6697 : H6691 r0 2 = v6261 := wq_u_s e6692
                                      exact wp_return e16 c16_285 rfl ⟨rfl, w6693, f6694, rfl⟩
                                    · refine wp_of e16 c16_215 (rw_iconst (pc' := 216) rfl ?_)
                                      refine wp_of e16 c16_216 (rw_goto (p1 := 220) (by decide) ?_)
                                      refine wp_of e16 c16_220 (xp_I (pc' := 223) lf_2_41 w6263 g0 sh_4 (by decide) (by decide) ty_4_3 rfl rfl (by omega) (by omega) ⟨by omega, by omega⟩ rfl (fun H6698 e6699 w6700 => ?_))
                                      have f6701 := f6267.put' e6699 g0 rfl
                                      have f6702 := f6268.put' e6699 g0 rfl
                                      have f6703 := f6264.put' e6699 g0 rfl
                                      have k6704 : H6698 r0 3 = 2 := wq_u_s e6699
                                      refine wp_of e16 c16_223 (rw_goto (p1 := 280) (by decide) ?_)
                                      refine wp_of e16 c16_280 (rw_aload_n (pc' := 281) (v := .ref r0) rfl rfl rfl ?_)
                                      refine wp_of e16 c16_281 (rw_iload_n (pc' := 282) (z := v6261) rfl rfl ?_)
                                      refine wp_of e16 c16_282 (xp_I (pc' := 285) lf_2_23 w6700 g0 sh_4 (by decide) (by decide) ty_4_2 rfl rfl (by omega) (by omega) ⟨by omega, by omega⟩ rfl (fun H6705 e6706 w6707 => ?_))
                                      have f6708 := f6701.put' e6706 g0 rfl
                                      have f6709 := f6702.put' e6706 g0 rfl
                                      have f6710 := f6703.put' e6706 g0 rfl
                                      have k6711 : H6705 r0 2 = v6261 := wq_u_s e6706
                                      exact wp_return e16 c16_285 rfl ⟨rfl, w6707, f6708, rfl⟩
                                · exfalso
                                  omega
                              · refine wp_of e16 c16_147 (rw_aload_n (pc' := 148) (v := .ref r0) rfl rfl rfl ?_)
                                refine wp_of e16 c16_148 (rw_aload_n (pc' := 149) (v := .ref r0) rfl rfl rfl ?_)
                                refine wp_of e16 c16_149 (xg_I (pc' := 152) lf_2_38 w6263 g0 sh_4 (by decide) (by decide) ty_4_5 rfl rfl (fun b6712 b6713 => ?_))
                                refine wp_of e16 c16_152 (rw_bipush (pc' := 154) (z := 10) rfl (by decide) ?_)
                                refine wp_of e16 c16_154 (rw_imulw (pc' := 155) rfl ?_)
                                obtain ⟨v6714, e6715⟩ : ∃ x : Int, x = wq_w ((H6262 r0 5) * 10) := ⟨_, rfl⟩
                                rw [← e6715]
                                have b6716 : -2147483648 ≤ v6714 ∧ v6714 ≤ 2147483647 := by
                                  rw [e6715]
                                  exact wI_w _
                                refine wp_of e16 c16_155 (rw_aload_n (pc' := 156) (v := .ref r0) rfl rfl rfl ?_)
                                refine wp_of e16 c16_156 (xg_K (pc' := 159) lf_2_7 w6263 g0 sh_4 (by decide) (by decide) rfl q6535 rfl ?_)
                                refine wp_of e16 c16_159 (rw_iload_n (pc' := 160) (z := v6261) rfl rfl ?_)
                                refine wp_of e16 c16_160 (xa_B (by decide) (pc' := 161) w6263 grb sh_2 (by decide) (ty_2 _) (by omega) (by omega) rfl (fun b6717 b6718 => ?_))
                                refine wp_of e16 c16_161 (rw_bipush (pc' := 163) (z := 48) rfl (by decide) ?_)
                                refine wp_of e16 c16_163 (rw_isub (pc' := 164) rfl ?_)
                                refine wp_of e16 c16_164 (rw_iaddw (pc' := 165) rfl ?_)
                                obtain ⟨v6719, e6720⟩ : ∃ x : Int, x = wq_w (v6714 + ((H6262 rb v6261.toNat) - 48)) := ⟨_, rfl⟩
                                rw [← e6720]
                                have b6721 : -2147483648 ≤ v6719 ∧ v6719 ≤ 2147483647 := by
                                  rw [e6720]
                                  exact wI_w _
                                refine wp_of e16 c16_165 (xp_I (pc' := 168) lf_2_38 w6263 g0 sh_4 (by decide) (by decide) ty_4_5 rfl rfl (by omega) (by omega) ⟨by omega, by omega⟩ rfl (fun H6722 e6723 w6724 => ?_))
                                have f6725 := f6267.put' e6723 g0 rfl
                                have f6726 := f6268.put' e6723 g0 rfl
                                have f6727 := f6264.put' e6723 g0 rfl
                                have k6728 : H6722 r0 5 = v6719 := wq_u_s e6723
                                refine wp_of e16 c16_168 (rw_iinc (pc' := 171) (z := v6261) (L' := [(1, vI (v6261 + 1)), (2, vI (v5117 - (H5118 r0 4))), (0, .ref r0)]) rfl rfl rfl rfl ?_)
                                refine wp_of e16 c16_171 (rw_goto (p1 := 113) (by decide) ?_)
                                exact wp_lc (ks := [1, 2, 0]) (wl_c rfl (wl_c rfl (wl_c rfl wl_n))) rfl (by decide) (ih6260 _ (by omega) (v6261 + 1) H6722 w6724 f6727 ⟨by omega, by omega⟩ rfl)
                    exact wp_lc (ks := [2, 1, 0]) (wl_c rfl (wl_c rfl (wl_c rfl wl_n))) rfl (by decide) (lp6258 _ v5117 H6201 w6203 wfr.rf ⟨by omega, by omega⟩ rfl)
                  · refine wp_of e16 c16_70 (rw_aload_n (pc' := 71) (v := .ref r0) rfl rfl rfl ?_)
                    refine wp_of e16 c16_71 (rw_aload_n (pc' := 72) (v := .ref r0) rfl rfl rfl ?_)
                    refine wp_of e16 c16_72 (xg_L (pc' := 75) lf_2_32 w5119 g0 sh_4 (by decide) (by decide) ty_4_6 rfl rfl (fun b6729 b6730 => ?_))
                    refine wp_of e16 c16_75 (rw_ldc2 (pc' := 78) (z := 32) rfl rfl rfl ?_)
                    refine wp_of e16 c16_78 (rw_lmulw (pc' := 79) rfl ?_)
                    obtain ⟨v6731, e6732⟩ : ∃ x : Int, x = wl_w ((H5118 r0 6) * 32) := ⟨_, rfl⟩
                    rw [← e6732]
                    have b6733 : -9223372036854775808 ≤ v6731 ∧ v6731 ≤ 9223372036854775807 := by
                      rw [e6732]
                      exact wL_w _
                    refine wp_of e16 c16_79 (rw_aload_n (pc' := 80) (v := .ref r0) rfl rfl rfl ?_)
                    refine wp_of e16 c16_80 (xg_K (pc' := 83) lf_2_7 w5119 g0 sh_4 (by decide) (by decide) rfl q5660 rfl ?_)
                    refine wp_of e16 c16_83 (rw_iload_n (pc' := 84) (z := v5117) rfl rfl ?_)
                    refine wp_of e16 c16_84 (xa_B (by decide) (pc' := 85) w5119 grb sh_2 (by decide) (ty_2 _) (by omega) (by omega) rfl (fun b6734 b6735 => ?_))
                    refine wp_of e16 c16_85 (rw_bipush (pc' := 87) (z := 97) rfl (by decide) ?_)
                    refine wp_of e16 c16_87 (rw_isub (pc' := 88) rfl ?_)
                    refine wp_of e16 c16_88 (rw_iconst (pc' := 89) rfl ?_)
                    refine wp_of e16 c16_89 (rw_iadd (pc' := 90) rfl ?_)
                    refine wp_of e16 c16_90 (rw_i2l (pc' := 91) rfl ⟨by omega, by omega⟩ ?_)
                    refine wp_of e16 c16_91 (rw_laddw (pc' := 92) rfl ?_)
                    obtain ⟨v6736, e6737⟩ : ∃ x : Int, x = wl_w (v6731 + (((H5118 rb v5117.toNat) - 97) + 1)) := ⟨_, rfl⟩
                    rw [← e6737]
                    have b6738 : -9223372036854775808 ≤ v6736 ∧ v6736 ≤ 9223372036854775807 := by
                      rw [e6737]
                      exact wL_w _
                    refine wp_of e16 c16_92 (xp_L (pc' := 95) lf_2_32 w5119 g0 sh_4 (by decide) (by decide) ty_4_6 rfl rfl (by omega) (by omega) ⟨by omega, by omega⟩ rfl (fun H6739 e6740 w6741 => ?_))
                    have f6742 := f5123.put' e6740 g0 rfl
                    have f6743 := f5120.put' e6740 g0 rfl
                    have k6744 : H6739 r0 6 = v6736 := wq_u_s e6740
                    refine wp_of e16 c16_95 (rw_iinc (pc' := 98) (z := v5117) (L' := [(1, vI (v5117 + 1)), (0, .ref r0)]) rfl rfl rfl rfl ?_)
                    refine wp_of e16 c16_98 (rw_goto (p1 := 40) (by decide) ?_)
                    exact wp_lc (ks := [1, 0]) (wl_c rfl (wl_c rfl wl_n)) rfl (by decide) (ih5116 _ (by omega) (v5117 + 1) H6739 w6741 f6743 ⟨by omega, by omega⟩ rfl)
          exact wp_lc (ks := [1, 0]) (wl_c rfl (wl_c rfl wl_n)) rfl (by decide) (lp5114 _ v3358 H5062 w5064 wfr.rf ⟨by omega, by omega⟩ rfl)
        · refine wp_of e16 c16_24 (rw_iinc (pc' := 27) (z := v3358) (L' := [(1, vI (v3358 + 1)), (0, .ref r0)]) rfl rfl rfl rfl ?_)
          refine wp_of e16 c16_27 (rw_goto (p1 := 5) (by decide) ?_)
          exact wp_lc (ks := [1, 0]) (wl_c rfl (wl_c rfl wl_n)) rfl (by decide) (ih3357 _ (by omega) (v3358 + 1) ⟨by omega, by omega⟩ rfl)
  exact wp_lc (ks := [1, 0]) (wl_c rfl (wl_c rfl wl_n)) rfl (by decide) (lp3355 _ (H r0 2) ⟨by omega, by omega⟩ rfl)
