/-! methods (own work, written by wip/gen2/sx.py) -/
/-! StrikeAwake.putOnTape(I)V -/
theorem e10 : wq_en 10 = some (0, 3, false, none) := rfl
theorem c10_0 : mc_cd 10 0 = some (.bipush 24, 2) := by decide +kernel
theorem c10_2 : mc_cd 10 2 = some (.istore_n 2, 1) := by decide +kernel
theorem c10_3 : mc_cd 10 3 = some (.iload_n 2, 1) := by decide +kernel
theorem c10_4 : mc_cd 10 4 = some (.ifCond .lt 42, 3) := by decide +kernel
theorem c10_7 : mc_cd 10 7 = some (.aload_n 0, 1) := by decide +kernel
theorem c10_8 : mc_cd 10 8 = some (.getfield 62, 3) := by decide +kernel
theorem c10_11 : mc_cd 10 11 = some (.sipush 900, 3) := by decide +kernel
theorem c10_14 : mc_cd 10 14 = some (.if_icmp .ge 32, 3) := by decide +kernel
theorem c10_17 : mc_cd 10 17 = some (.aload_n 0, 1) := by decide +kernel
theorem c10_18 : mc_cd 10 18 = some (.getfield 9, 3) := by decide +kernel
theorem c10_21 : mc_cd 10 21 = some (.aload_n 0, 1) := by decide +kernel
theorem c10_22 : mc_cd 10 22 = some (.getfield 62, 3) := by decide +kernel
theorem c10_25 : mc_cd 10 25 = some (.iload_n 1, 1) := by decide +kernel
theorem c10_26 : mc_cd 10 26 = some (.iload_n 2, 1) := by decide +kernel
theorem c10_27 : mc_cd 10 27 = some (.ishr, 1) := by decide +kernel
theorem c10_28 : mc_cd 10 28 = some (.i2b, 1) := by decide +kernel
theorem c10_29 : mc_cd 10 29 = some (.bastore, 1) := by decide +kernel
theorem c10_30 : mc_cd 10 30 = some (.aload_n 0, 1) := by decide +kernel
theorem c10_31 : mc_cd 10 31 = some (.dup, 1) := by decide +kernel
theorem c10_32 : mc_cd 10 32 = some (.getfield 62, 3) := by decide +kernel
theorem c10_35 : mc_cd 10 35 = some (.iconst 1, 1) := by decide +kernel
theorem c10_36 : mc_cd 10 36 = some (.iadd, 1) := by decide +kernel
theorem c10_37 : mc_cd 10 37 = some (.putfield 62, 3) := by decide +kernel
theorem c10_40 : mc_cd 10 40 = some (.iinc 2 (-8), 3) := by decide +kernel
theorem c10_43 : mc_cd 10 43 = some (.goto (-40), 3) := by decide +kernel
theorem c10_46 : mc_cd 10 46 = some (.return_, 1) := by decide +kernel
abbrev q_10 (r0 : Nat) (a1 : Int) (T : wq_T) (H : wq_H) : Option Value → wq_T → wq_H → Prop := fun r T' H' => T = T' ∧ WT T H' ∧ wfr [(1, 9), (2, 999)] T H H' ∧ none = r ∧ (H' r0 9 = H r0 9 + 4)
set_option maxHeartbeats 4000000 in
theorem s_10 {kt : Nat → Option mc_E} {T : wq_T} {H : wq_H} {r0 : Nat} {a1 : Int} (hW : WT T H) (g0 : T.2.2.2 r0 = some 1) (i1 : (-2147483648) ≤ a1 ∧ a1 ≤ 2147483647) (p0 : H r0 9 ≤ 896) : wpc kt 1 10 [.ref r0, vI a1] T H (q_10 r0 a1 T H) := by
  refine wp_enter e10 (Nat.le_of_ble_eq_true rfl) rfl ?_
  have f0 : wfr [(1, 9), (2, 999)] T H H := wfr.rf
  show wp _ _ 10 0 [(0, .ref r0), (1, vI a1)] [] _ H _
  have b153 : 0 ≤ H r0 9 ∧ H r0 9 ≤ 900 := hW.box g0 (n := 13) rfl (by decide) rfl
  refine wp_of e10 c10_0 (rw_bipush (pc' := 2) (z := 24) rfl (by decide) ?_)
  refine wp_of e10 c10_2 (rw_istore_n (pc' := 3) (z := 24) (L' := [(2, vI 24), (0, .ref r0), (1, vI a1)]) rfl rfl rfl ?_)
  have lp280 : ∀ (n281 : Nat) (v283 : Int) (H284 : wq_H), WT T H284 → wfr [(1, 9), (2, 999)] T H H284 → ((-8) ≤ v283 ∧ v283 ≤ 24) → (H284 r0 9 = H r0 9 + (24 - v283) / 8) → (v283 % 8 = 0) → (v283 - (-8)).toNat = n281 → wp kt 0 10 3 [(2, vI v283), (0, .ref r0), (1, vI a1)] [] T H284 (q_10 r0 a1 T H) := by
    intro n281
    induction n281 using Nat.strongRecOn with
    | _ n281 ih282 =>
      intro v283 H284 w285 f286 b287 x288 x289 m290
      have f291 := f0.tr f286 rfl
      refine wp_of e10 c10_3 (rw_iload_n (pc' := 4) (z := v283) rfl rfl ?_)
      refine wp_of e10 c10_4 (rw_if_lt (p1 := 46) (p2 := 7) (by decide) rfl ⟨by omega, by omega⟩ (fun c292 => ?_) (fun c292 => ?_))
      · exact wp_return e10 c10_46 rfl ⟨rfl, w285, f291, rfl, by omega⟩
      · refine wp_of e10 c10_7 (rw_aload_n (pc' := 8) (v := .ref r0) rfl rfl rfl ?_)
        refine wp_of e10 c10_8 (xg_I (pc' := 11) lf_0_62 w285 g0 sh_1 (by decide) (by decide) ty_1_9 rfl rfl (fun b293 b294 => ?_))
        refine wp_of e10 c10_11 (rw_sipush (pc' := 14) (z := 900) rfl (by decide) ?_)
        refine wp_of e10 c10_14 (rw_icmp_ge (p1 := 46) (p2 := 17) (by decide) rfl ⟨by omega, by omega⟩ ⟨by omega, by omega⟩ (fun c295 => ?_) (fun c295 => ?_))
        · exact wp_return e10 c10_46 rfl ⟨rfl, w285, f291, rfl, by omega⟩
        · refine wp_of e10 c10_17 (rw_aload_n (pc' := 18) (v := .ref r0) rfl rfl rfl ?_)
          refine wp_of e10 c10_18 (xg_R (pc' := 21) lf_0_9 w285 g0 sh_1 (by decide) (by decide) ty_1_0 rfl rfl (fun r296 q297 g298 => ?_))
          refine wp_of e10 c10_21 (rw_aload_n (pc' := 22) (v := .ref r0) rfl rfl rfl ?_)
          refine wp_of e10 c10_22 (xg_I (pc' := 25) lf_0_62 w285 g0 sh_1 (by decide) (by decide) ty_1_9 rfl rfl (fun b299 b300 => ?_))
          refine wp_of e10 c10_25 (rw_iload_n (pc' := 26) (z := a1) rfl rfl ?_)
          refine wp_of e10 c10_26 (rw_iload_n (pc' := 27) (z := v283) rfl rfl ?_)
          refine wp_of e10 c10_27 (rw_ishr (pc' := 28) rfl ?_)
          obtain ⟨v301, e302⟩ : ∃ x : Int, x = wq_shr a1 v283 := ⟨_, rfl⟩
          rw [← e302]
          have b303 : -2147483648 ≤ v301 ∧ v301 ≤ 2147483647 := by
            rw [e302]
            exact wI_shr _ _
          refine wp_of e10 c10_28 (rw_i2b (pc' := 29) rfl ?_)
          obtain ⟨v304, e305⟩ : ∃ x : Int, x = wq_i2b v301 := ⟨_, rfl⟩
          rw [← e305]
          have b306 : -128 ≤ v304 ∧ v304 ≤ 127 := by
            rw [e305]
            exact wq_i2b_b _
          refine wp_of e10 c10_29 (xs_B (pc' := 30) w285 g298 (by decide) sh_2 (by decide) (ty_2 _) (by omega) (by omega) ⟨by omega, by omega⟩ (by omega) (by omega) rfl (fun H307 e308 w309 => ?_))
          have f310 := f291.put' e308 g298 rfl
          have f311 := f286.put' e308 g298 rfl
          refine wp_of e10 c10_30 (rw_aload_n (pc' := 31) (v := .ref r0) rfl rfl rfl ?_)
          refine wp_of e10 c10_31 (rw_dup (pc' := 32) rfl rfl ?_)
          have k312 : H307 r0 9 = H284 r0 9 := (wq_u_t e308 g298 g0 rfl 9)
          refine wp_of e10 c10_32 (xg_I (pc' := 35) lf_0_62 w309 g0 sh_1 (by decide) (by decide) ty_1_9 rfl rfl (fun b313 b314 => ?_))
          refine wp_of e10 c10_35 (rw_iconst (pc' := 36) rfl ?_)
          refine wp_of e10 c10_36 (rw_iadd (pc' := 37) rfl ?_)
          refine wp_of e10 c10_37 (xp_I (pc' := 40) lf_0_62 w309 g0 sh_1 (by decide) (by decide) ty_1_9 rfl rfl (by omega) (by omega) ⟨by omega, by omega⟩ rfl (fun H315 e316 w317 => ?_))
          have f318 := f310.put' e316 g0 rfl
          have f319 := f311.put' e316 g0 rfl
          have k320 : H315 r0 9 = (H307 r0 9) + 1 := wq_u_s e316
          refine wp_of e10 c10_40 (rw_iinc (pc' := 43) (z := v283) (L' := [(2, vI (v283 + (-8))), (0, .ref r0), (1, vI a1)]) rfl rfl rfl rfl ?_)
          refine wp_of e10 c10_43 (rw_goto (p1 := 3) (by decide) ?_)
          exact wp_lc (ks := [2, 0, 1]) (wl_c rfl (wl_c rfl (wl_c rfl wl_n))) rfl (by decide) (ih282 _ (by omega) (v283 + (-8)) H315 w317 f319 ⟨by omega, by omega⟩ (by omega) (by omega) rfl)
  exact wp_lc (ks := [2, 0, 1]) (wl_c rfl (wl_c rfl (wl_c rfl wl_n))) rfl (by decide) (lp280 _ 24 H hW wfr.rf ⟨by omega, by omega⟩ (by omega) (by omega) rfl)
/-! StrikeAwake.feed(IIIII)I -/
theorem e9 : wq_en 9 = some (0, 6, false, some FieldType.int) := rfl
theorem c9_0 : mc_cd 9 0 = some (.aload_n 0, 1) := by decide +kernel
theorem c9_1 : mc_cd 9 1 = some (.getfield 62, 3) := by decide +kernel
theorem c9_4 : mc_cd 9 4 = some (.sipush 880, 3) := by decide +kernel
theorem c9_7 : mc_cd 9 7 = some (.if_icmp .le 5, 3) := by decide +kernel
theorem c9_10 : mc_cd 9 10 = some (.iconst (-1), 1) := by decide +kernel
theorem c9_11 : mc_cd 9 11 = some (.ireturn, 1) := by decide +kernel
theorem c9_12 : mc_cd 9 12 = some (.aload_n 0, 1) := by decide +kernel
theorem c9_13 : mc_cd 9 13 = some (.iload_n 1, 1) := by decide +kernel
theorem c9_14 : mc_cd 9 14 = some (.invokevirtual 66, 3) := by decide +kernel
theorem c9_17 : mc_cd 9 17 = some (.aload_n 0, 1) := by decide +kernel
theorem c9_18 : mc_cd 9 18 = some (.iload_n 2, 1) := by decide +kernel
theorem c9_19 : mc_cd 9 19 = some (.invokevirtual 66, 3) := by decide +kernel
theorem c9_22 : mc_cd 9 22 = some (.aload_n 0, 1) := by decide +kernel
theorem c9_23 : mc_cd 9 23 = some (.iload_n 3, 1) := by decide +kernel
theorem c9_24 : mc_cd 9 24 = some (.invokevirtual 66, 3) := by decide +kernel
theorem c9_27 : mc_cd 9 27 = some (.aload_n 0, 1) := by decide +kernel
theorem c9_28 : mc_cd 9 28 = some (.iload 4, 2) := by decide +kernel
theorem c9_30 : mc_cd 9 30 = some (.invokevirtual 66, 3) := by decide +kernel
theorem c9_33 : mc_cd 9 33 = some (.aload_n 0, 1) := by decide +kernel
theorem c9_34 : mc_cd 9 34 = some (.iload 5, 2) := by decide +kernel
theorem c9_36 : mc_cd 9 36 = some (.invokevirtual 66, 3) := by decide +kernel
theorem c9_39 : mc_cd 9 39 = some (.aload_n 0, 1) := by decide +kernel
theorem c9_40 : mc_cd 9 40 = some (.getfield 62, 3) := by decide +kernel
theorem c9_43 : mc_cd 9 43 = some (.ireturn, 1) := by decide +kernel
abbrev q_9 (r0 : Nat) (a1 : Int) (a2 : Int) (a3 : Int) (a4 : Int) (a5 : Int) (T : wq_T) (H : wq_H) : Option Value → wq_T → wq_H → Prop := fun r T' H' => T = T' ∧ WT T H' ∧ wfr [(1, 9), (2, 999)] T H H' ∧ ∃ z : Int, some (vI z) = r ∧ ((-2147483648) ≤ z ∧ z ≤ 2147483647) ∧ ((880 < H r0 9 ∧ z = -1 ∧ H' r0 9 = H r0 9) ∨ (H r0 9 ≤ 880 ∧ z = H r0 9 + 20 ∧ H' r0 9 = z))
set_option maxHeartbeats 4000000 in
theorem s_9 {kt : Nat → Option mc_E} {T : wq_T} {H : wq_H} {r0 : Nat} {a1 : Int} {a2 : Int} {a3 : Int} {a4 : Int} {a5 : Int} (hW : WT T H) (g0 : T.2.2.2 r0 = some 1) (i1 : (-2147483648) ≤ a1 ∧ a1 ≤ 2147483647) (i2 : (-2147483648) ≤ a2 ∧ a2 ≤ 2147483647) (i3 : (-2147483648) ≤ a3 ∧ a3 ≤ 2147483647) (i4 : (-2147483648) ≤ a4 ∧ a4 ≤ 2147483647) (i5 : (-2147483648) ≤ a5 ∧ a5 ≤ 2147483647) : wpc kt 2 9 [.ref r0, vI a1, vI a2, vI a3, vI a4, vI a5] T H (q_9 r0 a1 a2 a3 a4 a5 T H) := by
  refine wp_enter e9 (Nat.le_of_ble_eq_true rfl) rfl ?_
  have f0 : wfr [(1, 9), (2, 999)] T H H := wfr.rf
  show wp _ _ 9 0 [(0, .ref r0), (1, vI a1), (2, vI a2), (3, vI a3), (4, vI a4), (5, vI a5)] [] _ H _
  have b376 : 0 ≤ H r0 9 ∧ H r0 9 ≤ 900 := hW.box g0 (n := 13) rfl (by decide) rfl
  refine wp_of e9 c9_0 (rw_aload_n (pc' := 1) (v := .ref r0) rfl rfl rfl ?_)
  refine wp_of e9 c9_1 (xg_I (pc' := 4) lf_0_62 hW g0 sh_1 (by decide) (by decide) ty_1_9 rfl rfl (fun b377 b378 => ?_))
  refine wp_of e9 c9_4 (rw_sipush (pc' := 7) (z := 880) rfl (by decide) ?_)
  refine wp_of e9 c9_7 (rw_icmp_le (p1 := 12) (p2 := 10) (by decide) rfl ⟨by omega, by omega⟩ ⟨by omega, by omega⟩ (fun c379 => ?_) (fun c379 => ?_))
  · refine wp_of e9 c9_12 (rw_aload_n (pc' := 13) (v := .ref r0) rfl rfl rfl ?_)
    refine wp_of e9 c9_13 (rw_iload_n (pc' := 14) (z := a1) rfl rfl ?_)
    refine wp_of e9 c9_14 (xc_V (pc' := 17) (r := r0) (as := [vI a1]) (st := []) (lm_0_66) rfl rfl (Nat.le_of_ble_eq_true rfl) hW g0 sh_1 (by decide) rfl (by decide) (s_10 hW g0 ⟨by omega, by omega⟩ (by omega)) (fun R380 T381 H382 p383 => ?_))
    obtain ⟨e384, w386, f387, e385, p388⟩ := p383
    subst e384
    subst e385
    have f389 := f0.tr f387 rfl
    show wp _ _ 9 17 [(0, .ref r0), (1, vI a1), (2, vI a2), (3, vI a3), (4, vI a4), (5, vI a5)] [] _ H382 _
    refine wp_of e9 c9_17 (rw_aload_n (pc' := 18) (v := .ref r0) rfl rfl rfl ?_)
    refine wp_of e9 c9_18 (rw_iload_n (pc' := 19) (z := a2) rfl rfl ?_)
    refine wp_of e9 c9_19 (xc_V (pc' := 22) (r := r0) (as := [vI a2]) (st := []) (lm_0_66) rfl rfl (Nat.le_of_ble_eq_true rfl) w386 g0 sh_1 (by decide) rfl (by decide) (s_10 w386 g0 ⟨by omega, by omega⟩ (by omega)) (fun R390 T391 H392 p393 => ?_))
    obtain ⟨e394, w396, f397, e395, p398⟩ := p393
    subst e394
    subst e395
    have f399 := f389.tr f397 rfl
    show wp _ _ 9 22 [(0, .ref r0), (1, vI a1), (2, vI a2), (3, vI a3), (4, vI a4), (5, vI a5)] [] _ H392 _
    refine wp_of e9 c9_22 (rw_aload_n (pc' := 23) (v := .ref r0) rfl rfl rfl ?_)
    refine wp_of e9 c9_23 (rw_iload_n (pc' := 24) (z := a3) rfl rfl ?_)
    refine wp_of e9 c9_24 (xc_V (pc' := 27) (r := r0) (as := [vI a3]) (st := []) (lm_0_66) rfl rfl (Nat.le_of_ble_eq_true rfl) w396 g0 sh_1 (by decide) rfl (by decide) (s_10 w396 g0 ⟨by omega, by omega⟩ (by omega)) (fun R400 T401 H402 p403 => ?_))
    obtain ⟨e404, w406, f407, e405, p408⟩ := p403
    subst e404
    subst e405
    have f409 := f399.tr f407 rfl
    show wp _ _ 9 27 [(0, .ref r0), (1, vI a1), (2, vI a2), (3, vI a3), (4, vI a4), (5, vI a5)] [] _ H402 _
    refine wp_of e9 c9_27 (rw_aload_n (pc' := 28) (v := .ref r0) rfl rfl rfl ?_)
    refine wp_of e9 c9_28 (rw_iload (pc' := 30) (z := a4) rfl rfl ?_)
    refine wp_of e9 c9_30 (xc_V (pc' := 33) (r := r0) (as := [vI a4]) (st := []) (lm_0_66) rfl rfl (Nat.le_of_ble_eq_true rfl) w406 g0 sh_1 (by decide) rfl (by decide) (s_10 w406 g0 ⟨by omega, by omega⟩ (by omega)) (fun R410 T411 H412 p413 => ?_))
    obtain ⟨e414, w416, f417, e415, p418⟩ := p413
    subst e414
    subst e415
    have f419 := f409.tr f417 rfl
    show wp _ _ 9 33 [(0, .ref r0), (1, vI a1), (2, vI a2), (3, vI a3), (4, vI a4), (5, vI a5)] [] _ H412 _
    refine wp_of e9 c9_33 (rw_aload_n (pc' := 34) (v := .ref r0) rfl rfl rfl ?_)
    refine wp_of e9 c9_34 (rw_iload (pc' := 36) (z := a5) rfl rfl ?_)
    refine wp_of e9 c9_36 (xc_V (pc' := 39) (r := r0) (as := [vI a5]) (st := []) (lm_0_66) rfl rfl (Nat.le_of_ble_eq_true rfl) w416 g0 sh_1 (by decide) rfl (by decide) (s_10 w416 g0 ⟨by omega, by omega⟩ (by omega)) (fun R420 T421 H422 p423 => ?_))
    obtain ⟨e424, w426, f427, e425, p428⟩ := p423
    subst e424
    subst e425
    have f429 := f419.tr f427 rfl
    show wp _ _ 9 39 [(0, .ref r0), (1, vI a1), (2, vI a2), (3, vI a3), (4, vI a4), (5, vI a5)] [] _ H422 _
    refine wp_of e9 c9_39 (rw_aload_n (pc' := 40) (v := .ref r0) rfl rfl rfl ?_)
    refine wp_of e9 c9_40 (xg_I (pc' := 43) lf_0_62 w426 g0 sh_1 (by decide) (by decide) ty_1_9 rfl rfl (fun b430 b431 => ?_))
    exact wp_ireturn e9 c9_43 rfl ⟨rfl, w426, f429, H422 r0 9, rfl, ⟨by omega, by omega⟩, by omega⟩
  · refine wp_of e9 c9_10 (rw_iconst (pc' := 11) rfl ?_)
    exact wp_ireturn e9 c9_11 rfl ⟨rfl, hW, f0, -1, rfl, ⟨by omega, by omega⟩, by omega⟩
/-! StrikeAwake.refuse(I)I -/
theorem e12 : wq_en 12 = some (0, 2, false, some FieldType.int) := rfl
theorem c12_0 : mc_cd 12 0 = some (.aload_n 0, 1) := by decide +kernel
theorem c12_1 : mc_cd 12 1 = some (.iload_n 1, 1) := by decide +kernel
theorem c12_2 : mc_cd 12 2 = some (.putfield 102, 3) := by decide +kernel
theorem c12_5 : mc_cd 12 5 = some (.iconst (-1), 1) := by decide +kernel
theorem c12_6 : mc_cd 12 6 = some (.ireturn, 1) := by decide +kernel
abbrev q_12 (r0 : Nat) (a1 : Int) (T : wq_T) (H : wq_H) : Option Value → wq_T → wq_H → Prop := fun r T' H' => T = T' ∧ WT T H' ∧ wfr [(1, 10)] T H H' ∧ ∃ z : Int, some (vI z) = r ∧ ((-2147483648) ≤ z ∧ z ≤ 2147483647)
set_option maxHeartbeats 4000000 in
theorem s_12 {kt : Nat → Option mc_E} {T : wq_T} {H : wq_H} {r0 : Nat} {a1 : Int} (hW : WT T H) (g0 : T.2.2.2 r0 = some 1) (i1 : (-2147483648) ≤ a1 ∧ a1 ≤ 2147483647) : wpc kt 1 12 [.ref r0, vI a1] T H (q_12 r0 a1 T H) := by
  refine wp_enter e12 (Nat.le_of_ble_eq_true rfl) rfl ?_
  have f0 : wfr [(1, 10)] T H H := wfr.rf
  show wp _ _ 12 0 [(0, .ref r0), (1, vI a1)] [] _ H _
  refine wp_of e12 c12_0 (rw_aload_n (pc' := 1) (v := .ref r0) rfl rfl rfl ?_)
  refine wp_of e12 c12_1 (rw_iload_n (pc' := 2) (z := a1) rfl rfl ?_)
  refine wp_of e12 c12_2 (xp_I (pc' := 5) lf_0_102 hW g0 sh_1 (by decide) (by decide) ty_1_10 rfl rfl (by omega) (by omega) ⟨by omega, by omega⟩ rfl (fun H437 e438 w439 => ?_))
  have f440 := f0.put' e438 g0 rfl
  have k441 : H437 r0 10 = a1 := wq_u_s e438
  refine wp_of e12 c12_5 (rw_iconst (pc' := 6) rfl ?_)
  exact wp_ireturn e12 c12_6 rfl ⟨rfl, w439, f440, -1, rfl, ⟨by omega, by omega⟩⟩
/-! StrikeAwake$Parish.clear()V -/
theorem e14 : wq_en 14 = some (7, 2, false, none) := rfl
theorem c14_0 : mc_cd 14 0 = some (.aload_n 0, 1) := by decide +kernel
theorem c14_1 : mc_cd 14 1 = some (.iconst 0, 1) := by decide +kernel
theorem c14_2 : mc_cd 14 2 = some (.putfield 41, 3) := by decide +kernel
theorem c14_5 : mc_cd 14 5 = some (.aload_n 0, 1) := by decide +kernel
theorem c14_6 : mc_cd 14 6 = some (.iconst 0, 1) := by decide +kernel
theorem c14_7 : mc_cd 14 7 = some (.putfield 44, 3) := by decide +kernel
theorem c14_10 : mc_cd 14 10 = some (.aload_n 0, 1) := by decide +kernel
theorem c14_11 : mc_cd 14 11 = some (.iconst 0, 1) := by decide +kernel
theorem c14_12 : mc_cd 14 12 = some (.putfield 47, 3) := by decide +kernel
theorem c14_15 : mc_cd 14 15 = some (.aload_n 0, 1) := by decide +kernel
theorem c14_16 : mc_cd 14 16 = some (.iconst 0, 1) := by decide +kernel
theorem c14_17 : mc_cd 14 17 = some (.putfield 50, 3) := by decide +kernel
theorem c14_20 : mc_cd 14 20 = some (.aload_n 0, 1) := by decide +kernel
theorem c14_21 : mc_cd 14 21 = some (.iconst 0, 1) := by decide +kernel
theorem c14_22 : mc_cd 14 22 = some (.putfield 53, 3) := by decide +kernel
theorem c14_25 : mc_cd 14 25 = some (.aload_n 0, 1) := by decide +kernel
theorem c14_26 : mc_cd 14 26 = some (.iconst 0, 1) := by decide +kernel
theorem c14_27 : mc_cd 14 27 = some (.putfield 56, 3) := by decide +kernel
theorem c14_30 : mc_cd 14 30 = some (.aload_n 0, 1) := by decide +kernel
theorem c14_31 : mc_cd 14 31 = some (.iconst 0, 1) := by decide +kernel
theorem c14_32 : mc_cd 14 32 = some (.putfield 59, 3) := by decide +kernel
theorem c14_35 : mc_cd 14 35 = some (.aload_n 0, 1) := by decide +kernel
theorem c14_36 : mc_cd 14 36 = some (.iconst 0, 1) := by decide +kernel
theorem c14_37 : mc_cd 14 37 = some (.putfield 62, 3) := by decide +kernel
theorem c14_40 : mc_cd 14 40 = some (.aload_n 0, 1) := by decide +kernel
theorem c14_41 : mc_cd 14 41 = some (.bipush (-2), 2) := by decide +kernel
theorem c14_43 : mc_cd 14 43 = some (.putfield 37, 3) := by decide +kernel
theorem c14_46 : mc_cd 14 46 = some (.aload_n 0, 1) := by decide +kernel
theorem c14_47 : mc_cd 14 47 = some (.iconst 0, 1) := by decide +kernel
theorem c14_48 : mc_cd 14 48 = some (.putfield 65, 3) := by decide +kernel
theorem c14_51 : mc_cd 14 51 = some (.aload_n 0, 1) := by decide +kernel
theorem c14_52 : mc_cd 14 52 = some (.iconst 0, 1) := by decide +kernel
theorem c14_53 : mc_cd 14 53 = some (.putfield 68, 3) := by decide +kernel
theorem c14_56 : mc_cd 14 56 = some (.aload_n 0, 1) := by decide +kernel
theorem c14_57 : mc_cd 14 57 = some (.lconst 0, 1) := by decide +kernel
theorem c14_58 : mc_cd 14 58 = some (.putfield 71, 3) := by decide +kernel
theorem c14_61 : mc_cd 14 61 = some (.iconst 0, 1) := by decide +kernel
theorem c14_62 : mc_cd 14 62 = some (.istore_n 1, 1) := by decide +kernel
theorem c14_63 : mc_cd 14 63 = some (.iload_n 1, 1) := by decide +kernel
theorem c14_64 : mc_cd 14 64 = some (.bipush 24, 2) := by decide +kernel
theorem c14_66 : mc_cd 14 66 = some (.if_icmp .ge 17, 3) := by decide +kernel
theorem c14_69 : mc_cd 14 69 = some (.aload_n 0, 1) := by decide +kernel
theorem c14_70 : mc_cd 14 70 = some (.getfield 17, 3) := by decide +kernel
theorem c14_73 : mc_cd 14 73 = some (.iload_n 1, 1) := by decide +kernel
theorem c14_74 : mc_cd 14 74 = some (.bipush (-2), 2) := by decide +kernel
theorem c14_76 : mc_cd 14 76 = some (.iastore, 1) := by decide +kernel
theorem c14_77 : mc_cd 14 77 = some (.iinc 1 1, 3) := by decide +kernel
theorem c14_80 : mc_cd 14 80 = some (.goto (-17), 3) := by decide +kernel
theorem c14_83 : mc_cd 14 83 = some (.return_, 1) := by decide +kernel
abbrev q_14 (r0 : Nat) (T : wq_T) (H : wq_H) : Option Value → wq_T → wq_H → Prop := fun r T' H' => T = T' ∧ WT T H' ∧ wfr [(27, 7), (27, 8), (27, 9), (27, 10), (27, 11), (27, 12), (27, 13), (27, 14), (27, 15), (27, 16), (27, 17), (27, 18), (29, 999)] T H H' ∧ none = r
set_option maxHeartbeats 4000000 in
theorem s_14 {kt : Nat → Option mc_E} {T : wq_T} {H : wq_H} {r0 : Nat} (hW : WT T H) (g0 : T.2.2.2 r0 = some 27) : wpc kt 1 14 [.ref r0] T H (q_14 r0 T H) := by
  refine wp_enter e14 (Nat.le_of_ble_eq_true rfl) rfl ?_
  have f0 : wfr [(27, 7), (27, 8), (27, 9), (27, 10), (27, 11), (27, 12), (27, 13), (27, 14), (27, 15), (27, 16), (27, 17), (27, 18), (29, 999)] T H H := wfr.rf
  show wp _ _ 14 0 [(0, .ref r0)] [] _ H _
  refine wp_of e14 c14_0 (rw_aload_n (pc' := 1) (v := .ref r0) rfl rfl rfl ?_)
  refine wp_of e14 c14_1 (rw_iconst (pc' := 2) rfl ?_)
  refine wp_of e14 c14_2 (xp_I (pc' := 5) lf_7_41 hW g0 sh_27 (by decide) (by decide) ty_27_7 rfl rfl (by omega) (by omega) ⟨by omega, by omega⟩ rfl (fun H575 e576 w577 => ?_))
  have f578 := f0.put' e576 g0 rfl
  have k579 : H575 r0 7 = 0 := wq_u_s e576
  refine wp_of e14 c14_5 (rw_aload_n (pc' := 6) (v := .ref r0) rfl rfl rfl ?_)
  refine wp_of e14 c14_6 (rw_iconst (pc' := 7) rfl ?_)
  refine wp_of e14 c14_7 (xp_I (pc' := 10) lf_7_44 w577 g0 sh_27 (by decide) (by decide) ty_27_8 rfl rfl (by omega) (by omega) ⟨by omega, by omega⟩ rfl (fun H580 e581 w582 => ?_))
  have f583 := f578.put' e581 g0 rfl
  have k584 : H580 r0 8 = 0 := wq_u_s e581
  refine wp_of e14 c14_10 (rw_aload_n (pc' := 11) (v := .ref r0) rfl rfl rfl ?_)
  refine wp_of e14 c14_11 (rw_iconst (pc' := 12) rfl ?_)
  refine wp_of e14 c14_12 (xp_I (pc' := 15) lf_7_47 w582 g0 sh_27 (by decide) (by decide) ty_27_9 rfl rfl (by omega) (by omega) ⟨by omega, by omega⟩ rfl (fun H585 e586 w587 => ?_))
  have f588 := f583.put' e586 g0 rfl
  have k589 : H585 r0 9 = 0 := wq_u_s e586
  refine wp_of e14 c14_15 (rw_aload_n (pc' := 16) (v := .ref r0) rfl rfl rfl ?_)
  refine wp_of e14 c14_16 (rw_iconst (pc' := 17) rfl ?_)
  refine wp_of e14 c14_17 (xp_I (pc' := 20) lf_7_50 w587 g0 sh_27 (by decide) (by decide) ty_27_10 rfl rfl (by omega) (by omega) ⟨by omega, by omega⟩ rfl (fun H590 e591 w592 => ?_))
  have f593 := f588.put' e591 g0 rfl
  have k594 : H590 r0 10 = 0 := wq_u_s e591
  refine wp_of e14 c14_20 (rw_aload_n (pc' := 21) (v := .ref r0) rfl rfl rfl ?_)
  refine wp_of e14 c14_21 (rw_iconst (pc' := 22) rfl ?_)
  refine wp_of e14 c14_22 (xp_I (pc' := 25) lf_7_53 w592 g0 sh_27 (by decide) (by decide) ty_27_11 rfl rfl (by omega) (by omega) ⟨by omega, by omega⟩ rfl (fun H595 e596 w597 => ?_))
  have f598 := f593.put' e596 g0 rfl
  have k599 : H595 r0 11 = 0 := wq_u_s e596
  refine wp_of e14 c14_25 (rw_aload_n (pc' := 26) (v := .ref r0) rfl rfl rfl ?_)
  refine wp_of e14 c14_26 (rw_iconst (pc' := 27) rfl ?_)
  refine wp_of e14 c14_27 (xp_I (pc' := 30) lf_7_56 w597 g0 sh_27 (by decide) (by decide) ty_27_12 rfl rfl (by omega) (by omega) ⟨by omega, by omega⟩ rfl (fun H600 e601 w602 => ?_))
  have f603 := f598.put' e601 g0 rfl
  have k604 : H600 r0 12 = 0 := wq_u_s e601
  refine wp_of e14 c14_30 (rw_aload_n (pc' := 31) (v := .ref r0) rfl rfl rfl ?_)
  refine wp_of e14 c14_31 (rw_iconst (pc' := 32) rfl ?_)
  refine wp_of e14 c14_32 (xp_I (pc' := 35) lf_7_59 w602 g0 sh_27 (by decide) (by decide) ty_27_13 rfl rfl (by omega) (by omega) ⟨by omega, by omega⟩ rfl (fun H605 e606 w607 => ?_))
  have f608 := f603.put' e606 g0 rfl
  have k609 : H605 r0 13 = 0 := wq_u_s e606
  refine wp_of e14 c14_35 (rw_aload_n (pc' := 36) (v := .ref r0) rfl rfl rfl ?_)
  refine wp_of e14 c14_36 (rw_iconst (pc' := 37) rfl ?_)
  refine wp_of e14 c14_37 (xp_I (pc' := 40) lf_7_62 w607 g0 sh_27 (by decide) (by decide) ty_27_14 rfl rfl (by omega) (by omega) ⟨by omega, by omega⟩ rfl (fun H610 e611 w612 => ?_))
  have f613 := f608.put' e611 g0 rfl
  have k614 : H610 r0 14 = 0 := wq_u_s e611
  refine wp_of e14 c14_40 (rw_aload_n (pc' := 41) (v := .ref r0) rfl rfl rfl ?_)
  refine wp_of e14 c14_41 (rw_bipush (pc' := 43) (z := -2) rfl (by decide) ?_)
  refine wp_of e14 c14_43 (xp_I (pc' := 46) lf_7_37 w612 g0 sh_27 (by decide) (by decide) ty_27_15 rfl rfl (by omega) (by omega) ⟨by omega, by omega⟩ rfl (fun H615 e616 w617 => ?_))
  have f618 := f613.put' e616 g0 rfl
  have k619 : H615 r0 15 = -2 := wq_u_s e616
  refine wp_of e14 c14_46 (rw_aload_n (pc' := 47) (v := .ref r0) rfl rfl rfl ?_)
  refine wp_of e14 c14_47 (rw_iconst (pc' := 48) rfl ?_)
  refine wp_of e14 c14_48 (xp_I (pc' := 51) lf_7_65 w617 g0 sh_27 (by decide) (by decide) ty_27_16 rfl rfl (by omega) (by omega) ⟨by omega, by omega⟩ rfl (fun H620 e621 w622 => ?_))
  have f623 := f618.put' e621 g0 rfl
  have k624 : H620 r0 16 = 0 := wq_u_s e621
  refine wp_of e14 c14_51 (rw_aload_n (pc' := 52) (v := .ref r0) rfl rfl rfl ?_)
  refine wp_of e14 c14_52 (rw_iconst (pc' := 53) rfl ?_)
  refine wp_of e14 c14_53 (xp_I (pc' := 56) lf_7_68 w622 g0 sh_27 (by decide) (by decide) ty_27_17 rfl rfl (by omega) (by omega) ⟨by omega, by omega⟩ rfl (fun H625 e626 w627 => ?_))
  have f628 := f623.put' e626 g0 rfl
  have k629 : H625 r0 17 = 0 := wq_u_s e626
  refine wp_of e14 c14_56 (rw_aload_n (pc' := 57) (v := .ref r0) rfl rfl rfl ?_)
  refine wp_of e14 c14_57 (rw_lconst (pc' := 58) (z := 0) rfl rfl ?_)
  refine wp_of e14 c14_58 (xp_L (pc' := 61) lf_7_71 w627 g0 sh_27 (by decide) (by decide) ty_27_18 rfl rfl (by omega) (by omega) ⟨by omega, by omega⟩ rfl (fun H630 e631 w632 => ?_))
  have f633 := f628.put' e631 g0 rfl
  have k634 : H630 r0 18 = 0 := wq_u_s e631
  refine wp_of e14 c14_61 (rw_iconst (pc' := 62) rfl ?_)
  refine wp_of e14 c14_62 (rw_istore_n (pc' := 63) (z := 0) (L' := [(1, vI 0), (0, .ref r0)]) rfl rfl rfl ?_)
  have lp699 : ∀ (n700 : Nat) (v702 : Int) (H703 : wq_H), WT T H703 → wfr [(29, 999)] T H630 H703 → (0 ≤ v702 ∧ v702 ≤ 24) → (24 - v702).toNat = n700 → wp kt 0 14 63 [(1, vI v702), (0, .ref r0)] [] T H703 (q_14 r0 T H) := by
    intro n700
    induction n700 using Nat.strongRecOn with
    | _ n700 ih701 =>
      intro v702 H703 w704 f705 b706 m707
      have f708 := f633.tr f705 rfl
      refine wp_of e14 c14_63 (rw_iload_n (pc' := 64) (z := v702) rfl rfl ?_)
      refine wp_of e14 c14_64 (rw_bipush (pc' := 66) (z := 24) rfl (by decide) ?_)
      refine wp_of e14 c14_66 (rw_icmp_ge (p1 := 83) (p2 := 69) (by decide) rfl ⟨by omega, by omega⟩ ⟨by omega, by omega⟩ (fun c709 => ?_) (fun c709 => ?_))
      · exact wp_return e14 c14_83 rfl ⟨rfl, w704, f708, rfl⟩
      · refine wp_of e14 c14_69 (rw_aload_n (pc' := 70) (v := .ref r0) rfl rfl rfl ?_)
        refine wp_of e14 c14_70 (xg_R (pc' := 73) lf_7_17 w704 g0 sh_27 (by decide) (by decide) ty_27_1 rfl rfl (fun r710 q711 g712 => ?_))
        refine wp_of e14 c14_73 (rw_iload_n (pc' := 74) (z := v702) rfl rfl ?_)
        refine wp_of e14 c14_74 (rw_bipush (pc' := 76) (z := -2) rfl (by decide) ?_)
        refine wp_of e14 c14_76 (xs_I (pc' := 77) w704 g712 (by decide) sh_29 (by decide) (ty_29 _) (by omega) (by omega) ⟨by omega, by omega⟩ (by omega) (by omega) rfl (fun H713 e714 w715 => ?_))
        have f716 := f708.put' e714 g712 rfl
        have f717 := f705.put' e714 g712 rfl
        refine wp_of e14 c14_77 (rw_iinc (pc' := 80) (z := v702) (L' := [(1, vI (v702 + 1)), (0, .ref r0)]) rfl rfl rfl rfl ?_)
        refine wp_of e14 c14_80 (rw_goto (p1 := 63) (by decide) ?_)
        exact wp_lc (ks := [1, 0]) (wl_c rfl (wl_c rfl wl_n)) rfl (by decide) (ih701 _ (by omega) (v702 + 1) H713 w715 f717 ⟨by omega, by omega⟩ rfl)
  exact wp_lc (ks := [1, 0]) (wl_c rfl (wl_c rfl wl_n)) rfl (by decide) (lp699 _ 0 H630 w632 wfr.rf ⟨by omega, by omega⟩ rfl)
/-! StrikeAwake$Tokens.advance()V -/
theorem e16 : wq_en 16 = some (2, 4, false, none) := rfl
theorem c16_0 : mc_cd 16 0 = some (.aload_n 0, 1) := by decide +kernel
theorem c16_1 : mc_cd 16 1 = some (.getfield 23, 3) := by decide +kernel
theorem c16_4 : mc_cd 16 4 = some (.istore_n 1, 1) := by decide +kernel
theorem c16_5 : mc_cd 16 5 = some (.iload_n 1, 1) := by decide +kernel
theorem c16_6 : mc_cd 16 6 = some (.aload_n 0, 1) := by decide +kernel
theorem c16_7 : mc_cd 16 7 = some (.getfield 19, 3) := by decide +kernel
theorem c16_10 : mc_cd 16 10 = some (.if_icmp .ge 20, 3) := by decide +kernel
theorem c16_13 : mc_cd 16 13 = some (.aload_n 0, 1) := by decide +kernel
theorem c16_14 : mc_cd 16 14 = some (.getfield 7, 3) := by decide +kernel
theorem c16_17 : mc_cd 16 17 = some (.iload_n 1, 1) := by decide +kernel
theorem c16_18 : mc_cd 16 18 = some (.baload, 1) := by decide +kernel
theorem c16_19 : mc_cd 16 19 = some (.bipush 32, 2) := by decide +kernel
theorem c16_21 : mc_cd 16 21 = some (.if_icmp .ne 9, 3) := by decide +kernel
theorem c16_24 : mc_cd 16 24 = some (.iinc 1 1, 3) := by decide +kernel
theorem c16_27 : mc_cd 16 27 = some (.goto (-22), 3) := by decide +kernel
theorem c16_30 : mc_cd 16 30 = some (.aload_n 0, 1) := by decide +kernel
theorem c16_31 : mc_cd 16 31 = some (.iload_n 1, 1) := by decide +kernel
theorem c16_32 : mc_cd 16 32 = some (.putfield 29, 3) := by decide +kernel
theorem c16_35 : mc_cd 16 35 = some (.aload_n 0, 1) := by decide +kernel
theorem c16_36 : mc_cd 16 36 = some (.lconst 0, 1) := by decide +kernel
theorem c16_37 : mc_cd 16 37 = some (.putfield 32, 3) := by decide +kernel
theorem c16_40 : mc_cd 16 40 = some (.iload_n 1, 1) := by decide +kernel
theorem c16_41 : mc_cd 16 41 = some (.aload_n 0, 1) := by decide +kernel
theorem c16_42 : mc_cd 16 42 = some (.getfield 19, 3) := by decide +kernel
theorem c16_45 : mc_cd 16 45 = some (.if_icmp .ge 56, 3) := by decide +kernel
theorem c16_48 : mc_cd 16 48 = some (.aload_n 0, 1) := by decide +kernel
theorem c16_49 : mc_cd 16 49 = some (.getfield 7, 3) := by decide +kernel
theorem c16_52 : mc_cd 16 52 = some (.iload_n 1, 1) := by decide +kernel
theorem c16_53 : mc_cd 16 53 = some (.baload, 1) := by decide +kernel
theorem c16_54 : mc_cd 16 54 = some (.bipush 97, 2) := by decide +kernel
theorem c16_56 : mc_cd 16 56 = some (.if_icmp .lt 45, 3) := by decide +kernel
theorem c16_59 : mc_cd 16 59 = some (.aload_n 0, 1) := by decide +kernel
theorem c16_60 : mc_cd 16 60 = some (.getfield 7, 3) := by decide +kernel
theorem c16_63 : mc_cd 16 63 = some (.iload_n 1, 1) := by decide +kernel
theorem c16_64 : mc_cd 16 64 = some (.baload, 1) := by decide +kernel
theorem c16_65 : mc_cd 16 65 = some (.bipush 122, 2) := by decide +kernel
theorem c16_67 : mc_cd 16 67 = some (.if_icmp .gt 34, 3) := by decide +kernel
theorem c16_70 : mc_cd 16 70 = some (.aload_n 0, 1) := by decide +kernel
theorem c16_71 : mc_cd 16 71 = some (.aload_n 0, 1) := by decide +kernel
theorem c16_72 : mc_cd 16 72 = some (.getfield 32, 3) := by decide +kernel
theorem c16_75 : mc_cd 16 75 = some (.ldc2_w 36, 3) := by decide +kernel
theorem c16_78 : mc_cd 16 78 = some (.lmul, 1) := by decide +kernel
theorem c16_79 : mc_cd 16 79 = some (.aload_n 0, 1) := by decide +kernel
theorem c16_80 : mc_cd 16 80 = some (.getfield 7, 3) := by decide +kernel
theorem c16_83 : mc_cd 16 83 = some (.iload_n 1, 1) := by decide +kernel
theorem c16_84 : mc_cd 16 84 = some (.baload, 1) := by decide +kernel
theorem c16_85 : mc_cd 16 85 = some (.bipush 97, 2) := by decide +kernel
theorem c16_87 : mc_cd 16 87 = some (.isub, 1) := by decide +kernel
theorem c16_88 : mc_cd 16 88 = some (.iconst 1, 1) := by decide +kernel
theorem c16_89 : mc_cd 16 89 = some (.iadd, 1) := by decide +kernel
theorem c16_90 : mc_cd 16 90 = some (.i2l, 1) := by decide +kernel
theorem c16_91 : mc_cd 16 91 = some (.ladd, 1) := by decide +kernel
theorem c16_92 : mc_cd 16 92 = some (.putfield 32, 3) := by decide +kernel
theorem c16_95 : mc_cd 16 95 = some (.iinc 1 1, 3) := by decide +kernel
theorem c16_98 : mc_cd 16 98 = some (.goto (-58), 3) := by decide +kernel
theorem c16_101 : mc_cd 16 101 = some (.iload_n 1, 1) := by decide +kernel
theorem c16_102 : mc_cd 16 102 = some (.aload_n 0, 1) := by decide +kernel
theorem c16_103 : mc_cd 16 103 = some (.getfield 29, 3) := by decide +kernel
theorem c16_106 : mc_cd 16 106 = some (.isub, 1) := by decide +kernel
theorem c16_107 : mc_cd 16 107 = some (.istore_n 2, 1) := by decide +kernel
theorem c16_108 : mc_cd 16 108 = some (.aload_n 0, 1) := by decide +kernel
theorem c16_109 : mc_cd 16 109 = some (.iconst 0, 1) := by decide +kernel
theorem c16_110 : mc_cd 16 110 = some (.putfield 38, 3) := by decide +kernel
theorem c16_113 : mc_cd 16 113 = some (.iload_n 1, 1) := by decide +kernel
theorem c16_114 : mc_cd 16 114 = some (.aload_n 0, 1) := by decide +kernel
theorem c16_115 : mc_cd 16 115 = some (.getfield 19, 3) := by decide +kernel
theorem c16_118 : mc_cd 16 118 = some (.if_icmp .ge 56, 3) := by decide +kernel
theorem c16_121 : mc_cd 16 121 = some (.iload_n 2, 1) := by decide +kernel
theorem c16_122 : mc_cd 16 122 = some (.ifCond .ne 52, 3) := by decide +kernel
theorem c16_125 : mc_cd 16 125 = some (.aload_n 0, 1) := by decide +kernel
theorem c16_126 : mc_cd 16 126 = some (.getfield 7, 3) := by decide +kernel
theorem c16_129 : mc_cd 16 129 = some (.iload_n 1, 1) := by decide +kernel
theorem c16_130 : mc_cd 16 130 = some (.baload, 1) := by decide +kernel
theorem c16_131 : mc_cd 16 131 = some (.bipush 48, 2) := by decide +kernel
theorem c16_133 : mc_cd 16 133 = some (.if_icmp .lt 41, 3) := by decide +kernel
theorem c16_136 : mc_cd 16 136 = some (.aload_n 0, 1) := by decide +kernel
theorem c16_137 : mc_cd 16 137 = some (.getfield 7, 3) := by decide +kernel
theorem c16_140 : mc_cd 16 140 = some (.iload_n 1, 1) := by decide +kernel
theorem c16_141 : mc_cd 16 141 = some (.baload, 1) := by decide +kernel
theorem c16_142 : mc_cd 16 142 = some (.bipush 57, 2) := by decide +kernel
theorem c16_144 : mc_cd 16 144 = some (.if_icmp .gt 30, 3) := by decide +kernel
theorem c16_147 : mc_cd 16 147 = some (.aload_n 0, 1) := by decide +kernel
theorem c16_148 : mc_cd 16 148 = some (.aload_n 0, 1) := by decide +kernel
theorem c16_149 : mc_cd 16 149 = some (.getfield 38, 3) := by decide +kernel
theorem c16_152 : mc_cd 16 152 = some (.bipush 10, 2) := by decide +kernel
theorem c16_154 : mc_cd 16 154 = some (.imul, 1) := by decide +kernel
theorem c16_155 : mc_cd 16 155 = some (.aload_n 0, 1) := by decide +kernel
theorem c16_156 : mc_cd 16 156 = some (.getfield 7, 3) := by decide +kernel
theorem c16_159 : mc_cd 16 159 = some (.iload_n 1, 1) := by decide +kernel
theorem c16_160 : mc_cd 16 160 = some (.baload, 1) := by decide +kernel
theorem c16_161 : mc_cd 16 161 = some (.bipush 48, 2) := by decide +kernel
theorem c16_163 : mc_cd 16 163 = some (.isub, 1) := by decide +kernel
theorem c16_164 : mc_cd 16 164 = some (.iadd, 1) := by decide +kernel
theorem c16_165 : mc_cd 16 165 = some (.putfield 38, 3) := by decide +kernel
theorem c16_168 : mc_cd 16 168 = some (.iinc 1 1, 3) := by decide +kernel
theorem c16_171 : mc_cd 16 171 = some (.goto (-58), 3) := by decide +kernel
theorem c16_174 : mc_cd 16 174 = some (.iload_n 1, 1) := by decide +kernel
theorem c16_175 : mc_cd 16 175 = some (.aload_n 0, 1) := by decide +kernel
theorem c16_176 : mc_cd 16 176 = some (.getfield 29, 3) := by decide +kernel
theorem c16_179 : mc_cd 16 179 = some (.isub, 1) := by decide +kernel
theorem c16_180 : mc_cd 16 180 = some (.iload_n 2, 1) := by decide +kernel
theorem c16_181 : mc_cd 16 181 = some (.isub, 1) := by decide +kernel
theorem c16_182 : mc_cd 16 182 = some (.istore_n 3, 1) := by decide +kernel
theorem c16_183 : mc_cd 16 183 = some (.iload_n 2, 1) := by decide +kernel
theorem c16_184 : mc_cd 16 184 = some (.ifCond .le 21, 3) := by decide +kernel
theorem c16_187 : mc_cd 16 187 = some (.aload_n 0, 1) := by decide +kernel
theorem c16_188 : mc_cd 16 188 = some (.iload_n 2, 1) := by decide +kernel
theorem c16_189 : mc_cd 16 189 = some (.bipush 8, 2) := by decide +kernel
theorem c16_191 : mc_cd 16 191 = some (.if_icmp .gt 7, 3) := by decide +kernel
theorem c16_194 : mc_cd 16 194 = some (.iconst 1, 1) := by decide +kernel
theorem c16_195 : mc_cd 16 195 = some (.goto 4, 3) := by decide +kernel
theorem c16_198 : mc_cd 16 198 = some (.iconst 5, 1) := by decide +kernel
theorem c16_199 : mc_cd 16 199 = some (.putfield 41, 3) := by decide +kernel
theorem c16_202 : mc_cd 16 202 = some (.goto 78, 3) := by decide +kernel
theorem c16_205 : mc_cd 16 205 = some (.iload_n 3, 1) := by decide +kernel
theorem c16_206 : mc_cd 16 206 = some (.ifCond .le 20, 3) := by decide +kernel
theorem c16_209 : mc_cd 16 209 = some (.aload_n 0, 1) := by decide +kernel
theorem c16_210 : mc_cd 16 210 = some (.iload_n 3, 1) := by decide +kernel
theorem c16_211 : mc_cd 16 211 = some (.iconst 3, 1) := by decide +kernel
theorem c16_212 : mc_cd 16 212 = some (.if_icmp .gt 7, 3) := by decide +kernel
theorem c16_215 : mc_cd 16 215 = some (.iconst 2, 1) := by decide +kernel
theorem c16_216 : mc_cd 16 216 = some (.goto 4, 3) := by decide +kernel
theorem c16_219 : mc_cd 16 219 = some (.iconst 5, 1) := by decide +kernel
theorem c16_220 : mc_cd 16 220 = some (.putfield 41, 3) := by decide +kernel
theorem c16_223 : mc_cd 16 223 = some (.goto 57, 3) := by decide +kernel
theorem c16_226 : mc_cd 16 226 = some (.iload_n 1, 1) := by decide +kernel
theorem c16_227 : mc_cd 16 227 = some (.aload_n 0, 1) := by decide +kernel
theorem c16_228 : mc_cd 16 228 = some (.getfield 19, 3) := by decide +kernel
theorem c16_231 : mc_cd 16 231 = some (.if_icmp .ge 44, 3) := by decide +kernel
theorem c16_234 : mc_cd 16 234 = some (.aload_n 0, 1) := by decide +kernel
theorem c16_235 : mc_cd 16 235 = some (.aload_n 0, 1) := by decide +kernel
theorem c16_236 : mc_cd 16 236 = some (.getfield 7, 3) := by decide +kernel
theorem c16_239 : mc_cd 16 239 = some (.iload_n 1, 1) := by decide +kernel
theorem c16_240 : mc_cd 16 240 = some (.baload, 1) := by decide +kernel
theorem c16_241 : mc_cd 16 241 = some (.bipush 59, 2) := by decide +kernel
theorem c16_243 : mc_cd 16 243 = some (.if_icmp .ne 7, 3) := by decide +kernel
theorem c16_246 : mc_cd 16 246 = some (.iconst 3, 1) := by decide +kernel
theorem c16_247 : mc_cd 16 247 = some (.goto 19, 3) := by decide +kernel
theorem c16_250 : mc_cd 16 250 = some (.aload_n 0, 1) := by decide +kernel
theorem c16_251 : mc_cd 16 251 = some (.getfield 7, 3) := by decide +kernel
theorem c16_254 : mc_cd 16 254 = some (.iload_n 1, 1) := by decide +kernel
theorem c16_255 : mc_cd 16 255 = some (.baload, 1) := by decide +kernel
theorem c16_256 : mc_cd 16 256 = some (.bipush 44, 2) := by decide +kernel
theorem c16_258 : mc_cd 16 258 = some (.if_icmp .ne 7, 3) := by decide +kernel
theorem c16_261 : mc_cd 16 261 = some (.iconst 4, 1) := by decide +kernel
theorem c16_262 : mc_cd 16 262 = some (.goto 4, 3) := by decide +kernel
theorem c16_265 : mc_cd 16 265 = some (.iconst 5, 1) := by decide +kernel
theorem c16_266 : mc_cd 16 266 = some (.putfield 41, 3) := by decide +kernel
theorem c16_269 : mc_cd 16 269 = some (.iinc 1 1, 3) := by decide +kernel
theorem c16_272 : mc_cd 16 272 = some (.goto 8, 3) := by decide +kernel
theorem c16_275 : mc_cd 16 275 = some (.aload_n 0, 1) := by decide +kernel
theorem c16_276 : mc_cd 16 276 = some (.iconst 0, 1) := by decide +kernel
theorem c16_277 : mc_cd 16 277 = some (.putfield 41, 3) := by decide +kernel
theorem c16_280 : mc_cd 16 280 = some (.aload_n 0, 1) := by decide +kernel
theorem c16_281 : mc_cd 16 281 = some (.iload_n 1, 1) := by decide +kernel
theorem c16_282 : mc_cd 16 282 = some (.putfield 23, 3) := by decide +kernel
theorem c16_285 : mc_cd 16 285 = some (.return_, 1) := by decide +kernel
abbrev q_16 (r0 : Nat) (rb : Nat) (T : wq_T) (H : wq_H) : Option Value → wq_T → wq_H → Prop := fun r T' H' => T = T' ∧ WT T H' ∧ wfr [(4, 2), (4, 3), (4, 4), (4, 5), (4, 6)] T H H' ∧ none = r
set_option maxHeartbeats 4000000 in
theorem s_16 {kt : Nat → Option mc_E} {T : wq_T} {H : wq_H} {r0 : Nat} {rb : Nat} (hW : WT T H) (g0 : T.2.2.2 r0 = some 4) (qrb : H r0 0 = (rb : Int)) (grb : T.2.2.2 rb = some 2) : wpc kt 1 16 [.ref r0] T H (q_16 r0 rb T H) := by
  refine wp_enter e16 (Nat.le_of_ble_eq_true rfl) rfl ?_
  have f0 : wfr [(4, 2), (4, 3), (4, 4), (4, 5), (4, 6)] T H H := wfr.rf
  show wp _ _ 16 0 [(0, .ref r0)] [] _ H _
  refine wp_of e16 c16_0 (rw_aload_n (pc' := 1) (v := .ref r0) rfl rfl rfl ?_)
  refine wp_of e16 c16_1 (xg_I (pc' := 4) lf_2_23 hW g0 sh_4 (by decide) (by decide) ty_4_2 rfl rfl (fun b3361 b3362 => ?_))
  refine wp_of e16 c16_4 (rw_istore_n (pc' := 5) (z := H r0 2) (L' := [(1, vI (H r0 2)), (0, .ref r0)]) rfl rfl rfl ?_)
  have lp3371 : ∀ (n3372 : Nat) (v3374 : Int), (0 ≤ v3374 ∧ v3374 ≤ 900) → (900 - v3374).toNat = n3372 → wp kt 0 16 5 [(1, vI v3374), (0, .ref r0)] [] T H (q_16 r0 rb T H) := by
    intro n3372
    induction n3372 using Nat.strongRecOn with
    | _ n3372 ih3373 =>
      intro v3374 b3377 m3378
      refine wp_of e16 c16_5 (rw_iload_n (pc' := 6) (z := v3374) rfl rfl ?_)
      refine wp_of e16 c16_6 (rw_aload_n (pc' := 7) (v := .ref r0) rfl rfl rfl ?_)
      refine wp_of e16 c16_7 (xg_I (pc' := 10) lf_2_19 hW g0 sh_4 (by decide) (by decide) ty_4_1 rfl rfl (fun b3379 b3380 => ?_))
      refine wp_of e16 c16_10 (rw_icmp_ge (p1 := 30) (p2 := 13) (by decide) rfl ⟨by omega, by omega⟩ ⟨by omega, by omega⟩ (fun c3381 => ?_) (fun c3381 => ?_))
      · refine wp_of e16 c16_30 (rw_aload_n (pc' := 31) (v := .ref r0) rfl rfl rfl ?_)
        refine wp_of e16 c16_31 (rw_iload_n (pc' := 32) (z := v3374) rfl rfl ?_)
        refine wp_of e16 c16_32 (xp_I (pc' := 35) lf_2_29 hW g0 sh_4 (by decide) (by decide) ty_4_4 rfl rfl (by omega) (by omega) ⟨by omega, by omega⟩ rfl (fun H3382 e3383 w3384 => ?_))
        have f3385 := f0.put' e3383 g0 rfl
        have k3386 : H3382 r0 4 = v3374 := wq_u_s e3383
        refine wp_of e16 c16_35 (rw_aload_n (pc' := 36) (v := .ref r0) rfl rfl rfl ?_)
        refine wp_of e16 c16_36 (rw_lconst (pc' := 37) (z := 0) rfl rfl ?_)
        refine wp_of e16 c16_37 (xp_L (pc' := 40) lf_2_32 w3384 g0 sh_4 (by decide) (by decide) ty_4_6 rfl rfl (by omega) (by omega) ⟨by omega, by omega⟩ rfl (fun H3387 e3388 w3389 => ?_))
        have f3390 := f3385.put' e3388 g0 rfl
        have k3391 : H3387 r0 6 = 0 := wq_u_s e3388
        have lp3439 : ∀ (n3440 : Nat) (v3442 : Int) (H3443 : wq_H), WT T H3443 → wfr [(4, 6)] T H3387 H3443 → (0 ≤ v3442 ∧ v3442 ≤ 900) → (900 - v3442).toNat = n3440 → wp kt 0 16 40 [(1, vI v3442), (0, .ref r0)] [] T H3443 (q_16 r0 rb T H) := by
          intro n3440
          induction n3440 using Nat.strongRecOn with
          | _ n3440 ih3441 =>
            intro v3442 H3443 w3444 f3445 b3446 m3447
            have f3448 := f3390.tr f3445 rfl
            refine wp_of e16 c16_40 (rw_iload_n (pc' := 41) (z := v3442) rfl rfl ?_)
            refine wp_of e16 c16_41 (rw_aload_n (pc' := 42) (v := .ref r0) rfl rfl rfl ?_)
            have k3449 : H3443 r0 1 = H r0 1 := ((f3445 r0 1 _ g0 rfl).trans ((wq_u_j e3388 rfl).trans (wq_u_j e3383 rfl)))
            refine wp_of e16 c16_42 (xg_I (pc' := 45) lf_2_19 w3444 g0 sh_4 (by decide) (by decide) ty_4_1 rfl rfl (fun b3450 b3451 => ?_))
            refine wp_of e16 c16_45 (rw_icmp_ge (p1 := 101) (p2 := 48) (by decide) rfl ⟨by omega, by omega⟩ ⟨by omega, by omega⟩ (fun c3452 => ?_) (fun c3452 => ?_))
            · refine wp_of e16 c16_101 (rw_iload_n (pc' := 102) (z := v3442) rfl rfl ?_)
              refine wp_of e16 c16_102 (rw_aload_n (pc' := 103) (v := .ref r0) rfl rfl rfl ?_)
              have k3453 : H3443 r0 4 = H3382 r0 4 := ((f3445 r0 4 _ g0 rfl).trans (wq_u_j e3388 rfl))
              refine wp_of e16 c16_103 (xg_I (pc' := 106) lf_2_29 w3444 g0 sh_4 (by decide) (by decide) ty_4_4 rfl rfl (fun b3454 b3455 => ?_))
              refine wp_of e16 c16_106 (rw_isub (pc' := 107) rfl ?_)
              refine wp_of e16 c16_107 (rw_istore_n (pc' := 108) (z := v3442 - (H3443 r0 4)) (L' := [(2, vI (v3442 - (H3443 r0 4))), (1, vI v3442), (0, .ref r0)]) rfl rfl rfl ?_)
              refine wp_of e16 c16_108 (rw_aload_n (pc' := 109) (v := .ref r0) rfl rfl rfl ?_)
              refine wp_of e16 c16_109 (rw_iconst (pc' := 110) rfl ?_)
              refine wp_of e16 c16_110 (xp_I (pc' := 113) lf_2_38 w3444 g0 sh_4 (by decide) (by decide) ty_4_5 rfl rfl (by omega) (by omega) ⟨by omega, by omega⟩ rfl (fun H3456 e3457 w3458 => ?_))
              have f3459 := f3448.put' e3457 g0 rfl
              have k3460 : H3456 r0 5 = 0 := wq_u_s e3457
              have lp3510 : ∀ (n3511 : Nat) (v3513 : Int) (H3514 : wq_H), WT T H3514 → wfr [(4, 5)] T H3456 H3514 → (0 ≤ v3513 ∧ v3513 ≤ 900) → (900 - v3513).toNat = n3511 → wp kt 0 16 113 [(1, vI v3513), (2, vI (v3442 - (H3443 r0 4))), (0, .ref r0)] [] T H3514 (q_16 r0 rb T H) := by
                intro n3511
                induction n3511 using Nat.strongRecOn with
                | _ n3511 ih3512 =>
                  intro v3513 H3514 w3515 f3516 b3517 m3518
                  have f3519 := f3459.tr f3516 rfl
                  refine wp_of e16 c16_113 (rw_iload_n (pc' := 114) (z := v3513) rfl rfl ?_)
                  refine wp_of e16 c16_114 (rw_aload_n (pc' := 115) (v := .ref r0) rfl rfl rfl ?_)
                  have k3520 : H3514 r0 1 = H3443 r0 1 := ((f3516 r0 1 _ g0 rfl).trans (wq_u_j e3457 rfl))
                  refine wp_of e16 c16_115 (xg_I (pc' := 118) lf_2_19 w3515 g0 sh_4 (by decide) (by decide) ty_4_1 rfl rfl (fun b3521 b3522 => ?_))
                  refine wp_of e16 c16_118 (rw_icmp_ge (p1 := 174) (p2 := 121) (by decide) rfl ⟨by omega, by omega⟩ ⟨by omega, by omega⟩ (fun c3523 => ?_) (fun c3523 => ?_))
                  · refine wp_of e16 c16_174 (rw_iload_n (pc' := 175) (z := v3513) rfl rfl ?_)
                    refine wp_of e16 c16_175 (rw_aload_n (pc' := 176) (v := .ref r0) rfl rfl rfl ?_)
                    have k3524 : H3514 r0 4 = H3443 r0 4 := ((f3516 r0 4 _ g0 rfl).trans (wq_u_j e3457 rfl))
                    refine wp_of e16 c16_176 (xg_I (pc' := 179) lf_2_29 w3515 g0 sh_4 (by decide) (by decide) ty_4_4 rfl rfl (fun b3525 b3526 => ?_))
                    refine wp_of e16 c16_179 (rw_isub (pc' := 180) rfl ?_)
                    refine wp_of e16 c16_180 (rw_iload_n (pc' := 181) (z := v3442 - (H3443 r0 4)) rfl rfl ?_)
                    refine wp_of e16 c16_181 (rw_isub (pc' := 182) rfl ?_)
                    refine wp_of e16 c16_182 (rw_istore_n (pc' := 183) (z := (v3513 - (H3514 r0 4)) - (v3442 - (H3443 r0 4))) (L' := [(3, vI ((v3513 - (H3514 r0 4)) - (v3442 - (H3443 r0 4)))), (1, vI v3513), (2, vI (v3442 - (H3443 r0 4))), (0, .ref r0)]) rfl rfl rfl ?_)
                    refine wp_of e16 c16_183 (rw_iload_n (pc' := 184) (z := v3442 - (H3443 r0 4)) rfl rfl ?_)
                    refine wp_of e16 c16_184 (rw_if_le (p1 := 205) (p2 := 187) (by decide) rfl ⟨by omega, by omega⟩ (fun c3527 => ?_) (fun c3527 => ?_))
                    · refine wp_of e16 c16_205 (rw_iload_n (pc' := 206) (z := (v3513 - (H3514 r0 4)) - (v3442 - (H3443 r0 4))) rfl rfl ?_)
                      refine wp_of e16 c16_206 (rw_if_le (p1 := 226) (p2 := 209) (by decide) rfl ⟨by omega, by omega⟩ (fun c3528 => ?_) (fun c3528 => ?_))
                      · refine wp_of e16 c16_226 (rw_iload_n (pc' := 227) (z := v3513) rfl rfl ?_)
                        refine wp_of e16 c16_227 (rw_aload_n (pc' := 228) (v := .ref r0) rfl rfl rfl ?_)
                        refine wp_of e16 c16_228 (xg_I (pc' := 231) lf_2_19 w3515 g0 sh_4 (by decide) (by decide) ty_4_1 rfl rfl (fun b3529 b3530 => ?_))
                        refine wp_of e16 c16_231 (rw_icmp_ge (p1 := 275) (p2 := 234) (by decide) rfl ⟨by omega, by omega⟩ ⟨by omega, by omega⟩ (fun c3531 => ?_) (fun c3531 => ?_))
                        · refine wp_of e16 c16_275 (rw_aload_n (pc' := 276) (v := .ref r0) rfl rfl rfl ?_)
                          refine wp_of e16 c16_276 (rw_iconst (pc' := 277) rfl ?_)
                          refine wp_of e16 c16_277 (xp_I (pc' := 280) lf_2_41 w3515 g0 sh_4 (by decide) (by decide) ty_4_3 rfl rfl (by omega) (by omega) ⟨by omega, by omega⟩ rfl (fun H3532 e3533 w3534 => ?_))
                          have f3535 := f3519.put' e3533 g0 rfl
                          have k3536 : H3532 r0 3 = 0 := wq_u_s e3533
                          refine wp_of e16 c16_280 (rw_aload_n (pc' := 281) (v := .ref r0) rfl rfl rfl ?_)
                          refine wp_of e16 c16_281 (rw_iload_n (pc' := 282) (z := v3513) rfl rfl ?_)
                          refine wp_of e16 c16_282 (xp_I (pc' := 285) lf_2_23 w3534 g0 sh_4 (by decide) (by decide) ty_4_2 rfl rfl (by omega) (by omega) ⟨by omega, by omega⟩ rfl (fun H3537 e3538 w3539 => ?_))
                          have f3540 := f3535.put' e3538 g0 rfl
                          have k3541 : H3537 r0 2 = v3513 := wq_u_s e3538
                          exact wp_return e16 c16_285 rfl ⟨rfl, w3539, f3540, rfl⟩
                        · refine wp_of e16 c16_234 (rw_aload_n (pc' := 235) (v := .ref r0) rfl rfl rfl ?_)
                          refine wp_of e16 c16_235 (rw_aload_n (pc' := 236) (v := .ref r0) rfl rfl rfl ?_)
                          have k3542 : H3514 r0 0 = H r0 0 := ((f3516 r0 0 _ g0 rfl).trans ((wq_u_j e3457 rfl).trans ((f3445 r0 0 _ g0 rfl).trans ((wq_u_j e3388 rfl).trans (wq_u_j e3383 rfl)))))
                          have q3543 : H3514 r0 0 = (rb : Int) := k3542.trans qrb
                          refine wp_of e16 c16_236 (xg_K (pc' := 239) lf_2_7 w3515 g0 sh_4 (by decide) (by decide) rfl q3543 rfl ?_)
                          refine wp_of e16 c16_239 (rw_iload_n (pc' := 240) (z := v3513) rfl rfl ?_)
                          refine wp_of e16 c16_240 (xa_B (by decide) (pc' := 241) w3515 grb sh_2 (by decide) (ty_2 _) (by omega) (by omega) rfl (fun b3544 b3545 => ?_))
                          refine wp_of e16 c16_241 (rw_bipush (pc' := 243) (z := 59) rfl (by decide) ?_)
                          refine wp_of e16 c16_243 (rw_icmp_ne (p1 := 250) (p2 := 246) (by decide) rfl ⟨by omega, by omega⟩ ⟨by omega, by omega⟩ (fun c3546 => ?_) (fun c3546 => ?_))
                          · refine wp_of e16 c16_250 (rw_aload_n (pc' := 251) (v := .ref r0) rfl rfl rfl ?_)
                            refine wp_of e16 c16_251 (xg_K (pc' := 254) lf_2_7 w3515 g0 sh_4 (by decide) (by decide) rfl q3543 rfl ?_)
                            refine wp_of e16 c16_254 (rw_iload_n (pc' := 255) (z := v3513) rfl rfl ?_)
                            refine wp_of e16 c16_255 (xa_B (by decide) (pc' := 256) w3515 grb sh_2 (by decide) (ty_2 _) (by omega) (by omega) rfl (fun b3547 b3548 => ?_))
                            refine wp_of e16 c16_256 (rw_bipush (pc' := 258) (z := 44) rfl (by decide) ?_)
                            refine wp_of e16 c16_258 (rw_icmp_ne (p1 := 265) (p2 := 261) (by decide) rfl ⟨by omega, by omega⟩ ⟨by omega, by omega⟩ (fun c3549 => ?_) (fun c3549 => ?_))
                            · refine wp_of e16 c16_265 (rw_iconst (pc' := 266) rfl ?_)
                              refine wp_of e16 c16_266 (xp_I (pc' := 269) lf_2_41 w3515 g0 sh_4 (by decide) (by decide) ty_4_3 rfl rfl (by omega) (by omega) ⟨by omega, by omega⟩ rfl (fun H3550 e3551 w3552 => ?_))
                              have f3553 := f3519.put' e3551 g0 rfl
                              have k3554 : H3550 r0 3 = 5 := wq_u_s e3551
                              refine wp_of e16 c16_269 (rw_iinc (pc' := 272) (z := v3513) (L' := [(1, vI (v3513 + 1)), (3, vI ((v3513 - (H3514 r0 4)) - (v3442 - (H3443 r0 4)))), (2, vI (v3442 - (H3443 r0 4))), (0, .ref r0)]) rfl rfl rfl rfl ?_)
                              refine wp_of e16 c16_272 (rw_goto (p1 := 280) (by decide) ?_)
                              refine wp_of e16 c16_280 (rw_aload_n (pc' := 281) (v := .ref r0) rfl rfl rfl ?_)
                              refine wp_of e16 c16_281 (rw_iload_n (pc' := 282) (z := v3513 + 1) rfl rfl ?_)
                              refine wp_of e16 c16_282 (xp_I (pc' := 285) lf_2_23 w3552 g0 sh_4 (by decide) (by decide) ty_4_2 rfl rfl (by omega) (by omega) ⟨by omega, by omega⟩ rfl (fun H3555 e3556 w3557 => ?_))
                              have f3558 := f3553.put' e3556 g0 rfl
                              have k3559 : H3555 r0 2 = v3513 + 1 := wq_u_s e3556
                              exact wp_return e16 c16_285 rfl ⟨rfl, w3557, f3558, rfl⟩
                            · refine wp_of e16 c16_261 (rw_iconst (pc' := 262) rfl ?_)
                              refine wp_of e16 c16_262 (rw_goto (p1 := 266) (by decide) ?_)
                              refine wp_of e16 c16_266 (xp_I (pc' := 269) lf_2_41 w3515 g0 sh_4 (by decide) (by decide) ty_4_3 rfl rfl (by omega) (by omega) ⟨by omega, by omega⟩ rfl (fun H3560 e3561 w3562 => ?_))
                              have f3563 := f3519.put' e3561 g0 rfl
                              have k3564 : H3560 r0 3 = 4 := wq_u_s e3561
                              refine wp_of e16 c16_269 (rw_iinc (pc' := 272) (z := v3513) (L' := [(1, vI (v3513 + 1)), (3, vI ((v3513 - (H3514 r0 4)) - (v3442 - (H3443 r0 4)))), (2, vI (v3442 - (H3443 r0 4))), (0, .ref r0)]) rfl rfl rfl rfl ?_)
                              refine wp_of e16 c16_272 (rw_goto (p1 := 280) (by decide) ?_)
                              refine wp_of e16 c16_280 (rw_aload_n (pc' := 281) (v := .ref r0) rfl rfl rfl ?_)
                              refine wp_of e16 c16_281 (rw_iload_n (pc' := 282) (z := v3513 + 1) rfl rfl ?_)
                              refine wp_of e16 c16_282 (xp_I (pc' := 285) lf_2_23 w3562 g0 sh_4 (by decide) (by decide) ty_4_2 rfl rfl (by omega) (by omega) ⟨by omega, by omega⟩ rfl (fun H3565 e3566 w3567 => ?_))
                              have f3568 := f3563.put' e3566 g0 rfl
                              have k3569 : H3565 r0 2 = v3513 + 1 := wq_u_s e3566
                              exact wp_return e16 c16_285 rfl ⟨rfl, w3567, f3568, rfl⟩
                          · refine wp_of e16 c16_246 (rw_iconst (pc' := 247) rfl ?_)
                            refine wp_of e16 c16_247 (rw_goto (p1 := 266) (by decide) ?_)
                            refine wp_of e16 c16_266 (xp_I (pc' := 269) lf_2_41 w3515 g0 sh_4 (by decide) (by decide) ty_4_3 rfl rfl (by omega) (by omega) ⟨by omega, by omega⟩ rfl (fun H3570 e3571 w3572 => ?_))
                            have f3573 := f3519.put' e3571 g0 rfl
                            have k3574 : H3570 r0 3 = 3 := wq_u_s e3571
                            refine wp_of e16 c16_269 (rw_iinc (pc' := 272) (z := v3513) (L' := [(1, vI (v3513 + 1)), (3, vI ((v3513 - (H3514 r0 4)) - (v3442 - (H3443 r0 4)))), (2, vI (v3442 - (H3443 r0 4))), (0, .ref r0)]) rfl rfl rfl rfl ?_)
                            refine wp_of e16 c16_272 (rw_goto (p1 := 280) (by decide) ?_)
                            refine wp_of e16 c16_280 (rw_aload_n (pc' := 281) (v := .ref r0) rfl rfl rfl ?_)
                            refine wp_of e16 c16_281 (rw_iload_n (pc' := 282) (z := v3513 + 1) rfl rfl ?_)
                            refine wp_of e16 c16_282 (xp_I (pc' := 285) lf_2_23 w3572 g0 sh_4 (by decide) (by decide) ty_4_2 rfl rfl (by omega) (by omega) ⟨by omega, by omega⟩ rfl (fun H3575 e3576 w3577 => ?_))
                            have f3578 := f3573.put' e3576 g0 rfl
                            have k3579 : H3575 r0 2 = v3513 + 1 := wq_u_s e3576
                            exact wp_return e16 c16_285 rfl ⟨rfl, w3577, f3578, rfl⟩
                      · refine wp_of e16 c16_209 (rw_aload_n (pc' := 210) (v := .ref r0) rfl rfl rfl ?_)
                        refine wp_of e16 c16_210 (rw_iload_n (pc' := 211) (z := (v3513 - (H3514 r0 4)) - (v3442 - (H3443 r0 4))) rfl rfl ?_)
                        refine wp_of e16 c16_211 (rw_iconst (pc' := 212) rfl ?_)
                        refine wp_of e16 c16_212 (rw_icmp_gt (p1 := 219) (p2 := 215) (by decide) rfl ⟨by omega, by omega⟩ ⟨by omega, by omega⟩ (fun c3580 => ?_) (fun c3580 => ?_))
                        · refine wp_of e16 c16_219 (rw_iconst (pc' := 220) rfl ?_)
                          refine wp_of e16 c16_220 (xp_I (pc' := 223) lf_2_41 w3515 g0 sh_4 (by decide) (by decide) ty_4_3 rfl rfl (by omega) (by omega) ⟨by omega, by omega⟩ rfl (fun H3581 e3582 w3583 => ?_))
                          have f3584 := f3519.put' e3582 g0 rfl
                          have k3585 : H3581 r0 3 = 5 := wq_u_s e3582
                          refine wp_of e16 c16_223 (rw_goto (p1 := 280) (by decide) ?_)
                          refine wp_of e16 c16_280 (rw_aload_n (pc' := 281) (v := .ref r0) rfl rfl rfl ?_)
                          refine wp_of e16 c16_281 (rw_iload_n (pc' := 282) (z := v3513) rfl rfl ?_)
                          refine wp_of e16 c16_282 (xp_I (pc' := 285) lf_2_23 w3583 g0 sh_4 (by decide) (by decide) ty_4_2 rfl rfl (by omega) (by omega) ⟨by omega, by omega⟩ rfl (fun H3586 e3587 w3588 => ?_))
                          have f3589 := f3584.put' e3587 g0 rfl
                          have k3590 : H3586 r0 2 = v3513 := wq_u_s e3587
                          exact wp_return e16 c16_285 rfl ⟨rfl, w3588, f3589, rfl⟩
                        · refine wp_of e16 c16_215 (rw_iconst (pc' := 216) rfl ?_)
                          refine wp_of e16 c16_216 (rw_goto (p1 := 220) (by decide) ?_)
                          refine wp_of e16 c16_220 (xp_I (pc' := 223) lf_2_41 w3515 g0 sh_4 (by decide) (by decide) ty_4_3 rfl rfl (by omega) (by omega) ⟨by omega, by omega⟩ rfl (fun H3591 e3592 w3593 => ?_))
                          have f3594 := f3519.put' e3592 g0 rfl
                          have k3595 : H3591 r0 3 = 2 := wq_u_s e3592
                          refine wp_of e16 c16_223 (rw_goto (p1 := 280) (by decide) ?_)
                          refine wp_of e16 c16_280 (rw_aload_n (pc' := 281) (v := .ref r0) rfl rfl rfl ?_)
                          refine wp_of e16 c16_281 (rw_iload_n (pc' := 282) (z := v3513) rfl rfl ?_)
                          refine wp_of e16 c16_282 (xp_I (pc' := 285) lf_2_23 w3593 g0 sh_4 (by decide) (by decide) ty_4_2 rfl rfl (by omega) (by omega) ⟨by omega, by omega⟩ rfl (fun H3596 e3597 w3598 => ?_))
                          have f3599 := f3594.put' e3597 g0 rfl
                          have k3600 : H3596 r0 2 = v3513 := wq_u_s e3597
                          exact wp_return e16 c16_285 rfl ⟨rfl, w3598, f3599, rfl⟩
                    · refine wp_of e16 c16_187 (rw_aload_n (pc' := 188) (v := .ref r0) rfl rfl rfl ?_)
                      refine wp_of e16 c16_188 (rw_iload_n (pc' := 189) (z := v3442 - (H3443 r0 4)) rfl rfl ?_)
                      refine wp_of e16 c16_189 (rw_bipush (pc' := 191) (z := 8) rfl (by decide) ?_)
                      refine wp_of e16 c16_191 (rw_icmp_gt (p1 := 198) (p2 := 194) (by decide) rfl ⟨by omega, by omega⟩ ⟨by omega, by omega⟩ (fun c3601 => ?_) (fun c3601 => ?_))
                      · refine wp_of e16 c16_198 (rw_iconst (pc' := 199) rfl ?_)
                        refine wp_of e16 c16_199 (xp_I (pc' := 202) lf_2_41 w3515 g0 sh_4 (by decide) (by decide) ty_4_3 rfl rfl (by omega) (by omega) ⟨by omega, by omega⟩ rfl (fun H3602 e3603 w3604 => ?_))
                        have f3605 := f3519.put' e3603 g0 rfl
                        have k3606 : H3602 r0 3 = 5 := wq_u_s e3603
                        refine wp_of e16 c16_202 (rw_goto (p1 := 280) (by decide) ?_)
                        refine wp_of e16 c16_280 (rw_aload_n (pc' := 281) (v := .ref r0) rfl rfl rfl ?_)
                        refine wp_of e16 c16_281 (rw_iload_n (pc' := 282) (z := v3513) rfl rfl ?_)
                        refine wp_of e16 c16_282 (xp_I (pc' := 285) lf_2_23 w3604 g0 sh_4 (by decide) (by decide) ty_4_2 rfl rfl (by omega) (by omega) ⟨by omega, by omega⟩ rfl (fun H3607 e3608 w3609 => ?_))
                        have f3610 := f3605.put' e3608 g0 rfl
                        have k3611 : H3607 r0 2 = v3513 := wq_u_s e3608
                        exact wp_return e16 c16_285 rfl ⟨rfl, w3609, f3610, rfl⟩
                      · refine wp_of e16 c16_194 (rw_iconst (pc' := 195) rfl ?_)
                        refine wp_of e16 c16_195 (rw_goto (p1 := 199) (by decide) ?_)
                        refine wp_of e16 c16_199 (xp_I (pc' := 202) lf_2_41 w3515 g0 sh_4 (by decide) (by decide) ty_4_3 rfl rfl (by omega) (by omega) ⟨by omega, by omega⟩ rfl (fun H3612 e3613 w3614 => ?_))
                        have f3615 := f3519.put' e3613 g0 rfl
                        have k3616 : H3612 r0 3 = 1 := wq_u_s e3613
                        refine wp_of e16 c16_202 (rw_goto (p1 := 280) (by decide) ?_)
                        refine wp_of e16 c16_280 (rw_aload_n (pc' := 281) (v := .ref r0) rfl rfl rfl ?_)
                        refine wp_of e16 c16_281 (rw_iload_n (pc' := 282) (z := v3513) rfl rfl ?_)
                        refine wp_of e16 c16_282 (xp_I (pc' := 285) lf_2_23 w3614 g0 sh_4 (by decide) (by decide) ty_4_2 rfl rfl (by omega) (by omega) ⟨by omega, by omega⟩ rfl (fun H3617 e3618 w3619 => ?_))
                        have f3620 := f3615.put' e3618 g0 rfl
                        have k3621 : H3617 r0 2 = v3513 := wq_u_s e3618
                        exact wp_return e16 c16_285 rfl ⟨rfl, w3619, f3620, rfl⟩
                  · refine wp_of e16 c16_121 (rw_iload_n (pc' := 122) (z := v3442 - (H3443 r0 4)) rfl rfl ?_)
                    refine wp_of e16 c16_122 (rw_if_ne (p1 := 174) (p2 := 125) (by decide) rfl ⟨by omega, by omega⟩ (fun c3622 => ?_) (fun c3622 => ?_))
                    · refine wp_of e16 c16_174 (rw_iload_n (pc' := 175) (z := v3513) rfl rfl ?_)
                      refine wp_of e16 c16_175 (rw_aload_n (pc' := 176) (v := .ref r0) rfl rfl rfl ?_)
                      have k3623 : H3514 r0 4 = H3443 r0 4 := ((f3516 r0 4 _ g0 rfl).trans (wq_u_j e3457 rfl))
                      refine wp_of e16 c16_176 (xg_I (pc' := 179) lf_2_29 w3515 g0 sh_4 (by decide) (by decide) ty_4_4 rfl rfl (fun b3624 b3625 => ?_))
                      refine wp_of e16 c16_179 (rw_isub (pc' := 180) rfl ?_)
                      refine wp_of e16 c16_180 (rw_iload_n (pc' := 181) (z := v3442 - (H3443 r0 4)) rfl rfl ?_)
                      refine wp_of e16 c16_181 (rw_isub (pc' := 182) rfl ?_)
                      refine wp_of e16 c16_182 (rw_istore_n (pc' := 183) (z := (v3513 - (H3514 r0 4)) - (v3442 - (H3443 r0 4))) (L' := [(3, vI ((v3513 - (H3514 r0 4)) - (v3442 - (H3443 r0 4)))), (1, vI v3513), (2, vI (v3442 - (H3443 r0 4))), (0, .ref r0)]) rfl rfl rfl ?_)
                      refine wp_of e16 c16_183 (rw_iload_n (pc' := 184) (z := v3442 - (H3443 r0 4)) rfl rfl ?_)
                      refine wp_of e16 c16_184 (rw_if_le (p1 := 205) (p2 := 187) (by decide) rfl ⟨by omega, by omega⟩ (fun c3626 => ?_) (fun c3626 => ?_))
                      · refine wp_of e16 c16_205 (rw_iload_n (pc' := 206) (z := (v3513 - (H3514 r0 4)) - (v3442 - (H3443 r0 4))) rfl rfl ?_)
                        refine wp_of e16 c16_206 (rw_if_le (p1 := 226) (p2 := 209) (by decide) rfl ⟨by omega, by omega⟩ (fun c3627 => ?_) (fun c3627 => ?_))
                        · refine wp_of e16 c16_226 (rw_iload_n (pc' := 227) (z := v3513) rfl rfl ?_)
                          refine wp_of e16 c16_227 (rw_aload_n (pc' := 228) (v := .ref r0) rfl rfl rfl ?_)
                          refine wp_of e16 c16_228 (xg_I (pc' := 231) lf_2_19 w3515 g0 sh_4 (by decide) (by decide) ty_4_1 rfl rfl (fun b3628 b3629 => ?_))
                          refine wp_of e16 c16_231 (rw_icmp_ge (p1 := 275) (p2 := 234) (by decide) rfl ⟨by omega, by omega⟩ ⟨by omega, by omega⟩ (fun c3630 => ?_) (fun c3630 => ?_))
                          · refine wp_of e16 c16_275 (rw_aload_n (pc' := 276) (v := .ref r0) rfl rfl rfl ?_)
                            refine wp_of e16 c16_276 (rw_iconst (pc' := 277) rfl ?_)
                            refine wp_of e16 c16_277 (xp_I (pc' := 280) lf_2_41 w3515 g0 sh_4 (by decide) (by decide) ty_4_3 rfl rfl (by omega) (by omega) ⟨by omega, by omega⟩ rfl (fun H3631 e3632 w3633 => ?_))
                            have f3634 := f3519.put' e3632 g0 rfl
                            have k3635 : H3631 r0 3 = 0 := wq_u_s e3632
                            refine wp_of e16 c16_280 (rw_aload_n (pc' := 281) (v := .ref r0) rfl rfl rfl ?_)
                            refine wp_of e16 c16_281 (rw_iload_n (pc' := 282) (z := v3513) rfl rfl ?_)
                            refine wp_of e16 c16_282 (xp_I (pc' := 285) lf_2_23 w3633 g0 sh_4 (by decide) (by decide) ty_4_2 rfl rfl (by omega) (by omega) ⟨by omega, by omega⟩ rfl (fun H3636 e3637 w3638 => ?_))
                            have f3639 := f3634.put' e3637 g0 rfl
                            have k3640 : H3636 r0 2 = v3513 := wq_u_s e3637
                            exact wp_return e16 c16_285 rfl ⟨rfl, w3638, f3639, rfl⟩
                          · refine wp_of e16 c16_234 (rw_aload_n (pc' := 235) (v := .ref r0) rfl rfl rfl ?_)
                            refine wp_of e16 c16_235 (rw_aload_n (pc' := 236) (v := .ref r0) rfl rfl rfl ?_)
                            have k3641 : H3514 r0 0 = H r0 0 := ((f3516 r0 0 _ g0 rfl).trans ((wq_u_j e3457 rfl).trans ((f3445 r0 0 _ g0 rfl).trans ((wq_u_j e3388 rfl).trans (wq_u_j e3383 rfl)))))
                            have q3642 : H3514 r0 0 = (rb : Int) := k3641.trans qrb
                            refine wp_of e16 c16_236 (xg_K (pc' := 239) lf_2_7 w3515 g0 sh_4 (by decide) (by decide) rfl q3642 rfl ?_)
                            refine wp_of e16 c16_239 (rw_iload_n (pc' := 240) (z := v3513) rfl rfl ?_)
                            refine wp_of e16 c16_240 (xa_B (by decide) (pc' := 241) w3515 grb sh_2 (by decide) (ty_2 _) (by omega) (by omega) rfl (fun b3643 b3644 => ?_))
                            refine wp_of e16 c16_241 (rw_bipush (pc' := 243) (z := 59) rfl (by decide) ?_)
                            refine wp_of e16 c16_243 (rw_icmp_ne (p1 := 250) (p2 := 246) (by decide) rfl ⟨by omega, by omega⟩ ⟨by omega, by omega⟩ (fun c3645 => ?_) (fun c3645 => ?_))
                            · refine wp_of e16 c16_250 (rw_aload_n (pc' := 251) (v := .ref r0) rfl rfl rfl ?_)
                              refine wp_of e16 c16_251 (xg_K (pc' := 254) lf_2_7 w3515 g0 sh_4 (by decide) (by decide) rfl q3642 rfl ?_)
                              refine wp_of e16 c16_254 (rw_iload_n (pc' := 255) (z := v3513) rfl rfl ?_)
                              refine wp_of e16 c16_255 (xa_B (by decide) (pc' := 256) w3515 grb sh_2 (by decide) (ty_2 _) (by omega) (by omega) rfl (fun b3646 b3647 => ?_))
                              refine wp_of e16 c16_256 (rw_bipush (pc' := 258) (z := 44) rfl (by decide) ?_)
                              refine wp_of e16 c16_258 (rw_icmp_ne (p1 := 265) (p2 := 261) (by decide) rfl ⟨by omega, by omega⟩ ⟨by omega, by omega⟩ (fun c3648 => ?_) (fun c3648 => ?_))
                              · refine wp_of e16 c16_265 (rw_iconst (pc' := 266) rfl ?_)
                                refine wp_of e16 c16_266 (xp_I (pc' := 269) lf_2_41 w3515 g0 sh_4 (by decide) (by decide) ty_4_3 rfl rfl (by omega) (by omega) ⟨by omega, by omega⟩ rfl (fun H3649 e3650 w3651 => ?_))
                                have f3652 := f3519.put' e3650 g0 rfl
                                have k3653 : H3649 r0 3 = 5 := wq_u_s e3650
                                refine wp_of e16 c16_269 (rw_iinc (pc' := 272) (z := v3513) (L' := [(1, vI (v3513 + 1)), (3, vI ((v3513 - (H3514 r0 4)) - (v3442 - (H3443 r0 4)))), (2, vI (v3442 - (H3443 r0 4))), (0, .ref r0)]) rfl rfl rfl rfl ?_)
                                refine wp_of e16 c16_272 (rw_goto (p1 := 280) (by decide) ?_)
                                refine wp_of e16 c16_280 (rw_aload_n (pc' := 281) (v := .ref r0) rfl rfl rfl ?_)
                                refine wp_of e16 c16_281 (rw_iload_n (pc' := 282) (z := v3513 + 1) rfl rfl ?_)
                                refine wp_of e16 c16_282 (xp_I (pc' := 285) lf_2_23 w3651 g0 sh_4 (by decide) (by decide) ty_4_2 rfl rfl (by omega) (by omega) ⟨by omega, by omega⟩ rfl (fun H3654 e3655 w3656 => ?_))
                                have f3657 := f3652.put' e3655 g0 rfl
                                have k3658 : H3654 r0 2 = v3513 + 1 := wq_u_s e3655
                                exact wp_return e16 c16_285 rfl ⟨rfl, w3656, f3657, rfl⟩
                              · refine wp_of e16 c16_261 (rw_iconst (pc' := 262) rfl ?_)
                                refine wp_of e16 c16_262 (rw_goto (p1 := 266) (by decide) ?_)
                                refine wp_of e16 c16_266 (xp_I (pc' := 269) lf_2_41 w3515 g0 sh_4 (by decide) (by decide) ty_4_3 rfl rfl (by omega) (by omega) ⟨by omega, by omega⟩ rfl (fun H3659 e3660 w3661 => ?_))
                                have f3662 := f3519.put' e3660 g0 rfl
                                have k3663 : H3659 r0 3 = 4 := wq_u_s e3660
                                refine wp_of e16 c16_269 (rw_iinc (pc' := 272) (z := v3513) (L' := [(1, vI (v3513 + 1)), (3, vI ((v3513 - (H3514 r0 4)) - (v3442 - (H3443 r0 4)))), (2, vI (v3442 - (H3443 r0 4))), (0, .ref r0)]) rfl rfl rfl rfl ?_)
                                refine wp_of e16 c16_272 (rw_goto (p1 := 280) (by decide) ?_)
                                refine wp_of e16 c16_280 (rw_aload_n (pc' := 281) (v := .ref r0) rfl rfl rfl ?_)
                                refine wp_of e16 c16_281 (rw_iload_n (pc' := 282) (z := v3513 + 1) rfl rfl ?_)
                                refine wp_of e16 c16_282 (xp_I (pc' := 285) lf_2_23 w3661 g0 sh_4 (by decide) (by decide) ty_4_2 rfl rfl (by omega) (by omega) ⟨by omega, by omega⟩ rfl (fun H3664 e3665 w3666 => ?_))
                                have f3667 := f3662.put' e3665 g0 rfl
                                have k3668 : H3664 r0 2 = v3513 + 1 := wq_u_s e3665
                                exact wp_return e16 c16_285 rfl ⟨rfl, w3666, f3667, rfl⟩
                            · refine wp_of e16 c16_246 (rw_iconst (pc' := 247) rfl ?_)
                              refine wp_of e16 c16_247 (rw_goto (p1 := 266) (by decide) ?_)
                              refine wp_of e16 c16_266 (xp_I (pc' := 269) lf_2_41 w3515 g0 sh_4 (by decide) (by decide) ty_4_3 rfl rfl (by omega) (by omega) ⟨by omega, by omega⟩ rfl (fun H3669 e3670 w3671 => ?_))
                              have f3672 := f3519.put' e3670 g0 rfl
                              have k3673 : H3669 r0 3 = 3 := wq_u_s e3670
                              refine wp_of e16 c16_269 (rw_iinc (pc' := 272) (z := v3513) (L' := [(1, vI (v3513 + 1)), (3, vI ((v3513 - (H3514 r0 4)) - (v3442 - (H3443 r0 4)))), (2, vI (v3442 - (H3443 r0 4))), (0, .ref r0)]) rfl rfl rfl rfl ?_)
                              refine wp_of e16 c16_272 (rw_goto (p1 := 280) (by decide) ?_)
                              refine wp_of e16 c16_280 (rw_aload_n (pc' := 281) (v := .ref r0) rfl rfl rfl ?_)
                              refine wp_of e16 c16_281 (rw_iload_n (pc' := 282) (z := v3513 + 1) rfl rfl ?_)
                              refine wp_of e16 c16_282 (xp_I (pc' := 285) lf_2_23 w3671 g0 sh_4 (by decide) (by decide) ty_4_2 rfl rfl (by omega) (by omega) ⟨by omega, by omega⟩ rfl (fun H3674 e3675 w3676 => ?_))
                              have f3677 := f3672.put' e3675 g0 rfl
                              have k3678 : H3674 r0 2 = v3513 + 1 := wq_u_s e3675
                              exact wp_return e16 c16_285 rfl ⟨rfl, w3676, f3677, rfl⟩
                        · refine wp_of e16 c16_209 (rw_aload_n (pc' := 210) (v := .ref r0) rfl rfl rfl ?_)
                          refine wp_of e16 c16_210 (rw_iload_n (pc' := 211) (z := (v3513 - (H3514 r0 4)) - (v3442 - (H3443 r0 4))) rfl rfl ?_)
                          refine wp_of e16 c16_211 (rw_iconst (pc' := 212) rfl ?_)
                          refine wp_of e16 c16_212 (rw_icmp_gt (p1 := 219) (p2 := 215) (by decide) rfl ⟨by omega, by omega⟩ ⟨by omega, by omega⟩ (fun c3679 => ?_) (fun c3679 => ?_))
                          · refine wp_of e16 c16_219 (rw_iconst (pc' := 220) rfl ?_)
                            refine wp_of e16 c16_220 (xp_I (pc' := 223) lf_2_41 w3515 g0 sh_4 (by decide) (by decide) ty_4_3 rfl rfl (by omega) (by omega) ⟨by omega, by omega⟩ rfl (fun H3680 e3681 w3682 => ?_))
                            have f3683 := f3519.put' e3681 g0 rfl
                            have k3684 : H3680 r0 3 = 5 := wq_u_s e3681
                            refine wp_of e16 c16_223 (rw_goto (p1 := 280) (by decide) ?_)
                            refine wp_of e16 c16_280 (rw_aload_n (pc' := 281) (v := .ref r0) rfl rfl rfl ?_)
                            refine wp_of e16 c16_281 (rw_iload_n (pc' := 282) (z := v3513) rfl rfl ?_)
                            refine wp_of e16 c16_282 (xp_I (pc' := 285) lf_2_23 w3682 g0 sh_4 (by decide) (by decide) ty_4_2 rfl rfl (by omega) (by omega) ⟨by omega, by omega⟩ rfl (fun H3685 e3686 w3687 => ?_))
                            have f3688 := f3683.put' e3686 g0 rfl
                            have k3689 : H3685 r0 2 = v3513 := wq_u_s e3686
                            exact wp_return e16 c16_285 rfl ⟨rfl, w3687, f3688, rfl⟩
                          · refine wp_of e16 c16_215 (rw_iconst (pc' := 216) rfl ?_)
                            refine wp_of e16 c16_216 (rw_goto (p1 := 220) (by decide) ?_)
                            refine wp_of e16 c16_220 (xp_I (pc' := 223) lf_2_41 w3515 g0 sh_4 (by decide) (by decide) ty_4_3 rfl rfl (by omega) (by omega) ⟨by omega, by omega⟩ rfl (fun H3690 e3691 w3692 => ?_))
                            have f3693 := f3519.put' e3691 g0 rfl
                            have k3694 : H3690 r0 3 = 2 := wq_u_s e3691
                            refine wp_of e16 c16_223 (rw_goto (p1 := 280) (by decide) ?_)
                            refine wp_of e16 c16_280 (rw_aload_n (pc' := 281) (v := .ref r0) rfl rfl rfl ?_)
                            refine wp_of e16 c16_281 (rw_iload_n (pc' := 282) (z := v3513) rfl rfl ?_)
                            refine wp_of e16 c16_282 (xp_I (pc' := 285) lf_2_23 w3692 g0 sh_4 (by decide) (by decide) ty_4_2 rfl rfl (by omega) (by omega) ⟨by omega, by omega⟩ rfl (fun H3695 e3696 w3697 => ?_))
                            have f3698 := f3693.put' e3696 g0 rfl
                            have k3699 : H3695 r0 2 = v3513 := wq_u_s e3696
                            exact wp_return e16 c16_285 rfl ⟨rfl, w3697, f3698, rfl⟩
                      · refine wp_of e16 c16_187 (rw_aload_n (pc' := 188) (v := .ref r0) rfl rfl rfl ?_)
                        refine wp_of e16 c16_188 (rw_iload_n (pc' := 189) (z := v3442 - (H3443 r0 4)) rfl rfl ?_)
                        refine wp_of e16 c16_189 (rw_bipush (pc' := 191) (z := 8) rfl (by decide) ?_)
                        refine wp_of e16 c16_191 (rw_icmp_gt (p1 := 198) (p2 := 194) (by decide) rfl ⟨by omega, by omega⟩ ⟨by omega, by omega⟩ (fun c3700 => ?_) (fun c3700 => ?_))
                        · refine wp_of e16 c16_198 (rw_iconst (pc' := 199) rfl ?_)
                          refine wp_of e16 c16_199 (xp_I (pc' := 202) lf_2_41 w3515 g0 sh_4 (by decide) (by decide) ty_4_3 rfl rfl (by omega) (by omega) ⟨by omega, by omega⟩ rfl (fun H3701 e3702 w3703 => ?_))
                          have f3704 := f3519.put' e3702 g0 rfl
                          have k3705 : H3701 r0 3 = 5 := wq_u_s e3702
                          refine wp_of e16 c16_202 (rw_goto (p1 := 280) (by decide) ?_)
                          refine wp_of e16 c16_280 (rw_aload_n (pc' := 281) (v := .ref r0) rfl rfl rfl ?_)
                          refine wp_of e16 c16_281 (rw_iload_n (pc' := 282) (z := v3513) rfl rfl ?_)
                          refine wp_of e16 c16_282 (xp_I (pc' := 285) lf_2_23 w3703 g0 sh_4 (by decide) (by decide) ty_4_2 rfl rfl (by omega) (by omega) ⟨by omega, by omega⟩ rfl (fun H3706 e3707 w3708 => ?_))
                          have f3709 := f3704.put' e3707 g0 rfl
                          have k3710 : H3706 r0 2 = v3513 := wq_u_s e3707
                          exact wp_return e16 c16_285 rfl ⟨rfl, w3708, f3709, rfl⟩
                        · refine wp_of e16 c16_194 (rw_iconst (pc' := 195) rfl ?_)
                          refine wp_of e16 c16_195 (rw_goto (p1 := 199) (by decide) ?_)
                          refine wp_of e16 c16_199 (xp_I (pc' := 202) lf_2_41 w3515 g0 sh_4 (by decide) (by decide) ty_4_3 rfl rfl (by omega) (by omega) ⟨by omega, by omega⟩ rfl (fun H3711 e3712 w3713 => ?_))
                          have f3714 := f3519.put' e3712 g0 rfl
                          have k3715 : H3711 r0 3 = 1 := wq_u_s e3712
                          refine wp_of e16 c16_202 (rw_goto (p1 := 280) (by decide) ?_)
                          refine wp_of e16 c16_280 (rw_aload_n (pc' := 281) (v := .ref r0) rfl rfl rfl ?_)
                          refine wp_of e16 c16_281 (rw_iload_n (pc' := 282) (z := v3513) rfl rfl ?_)
                          refine wp_of e16 c16_282 (xp_I (pc' := 285) lf_2_23 w3713 g0 sh_4 (by decide) (by decide) ty_4_2 rfl rfl (by omega) (by omega) ⟨by omega, by omega⟩ rfl (fun H3716 e3717 w3718 => ?_))
                          have f3719 := f3714.put' e3717 g0 rfl
                          have k3720 : H3716 r0 2 = v3513 := wq_u_s e3717
                          exact wp_return e16 c16_285 rfl ⟨rfl, w3718, f3719, rfl⟩
                    · refine wp_of e16 c16_125 (rw_aload_n (pc' := 126) (v := .ref r0) rfl rfl rfl ?_)
                      have k3721 : H3514 r0 0 = H r0 0 := ((f3516 r0 0 _ g0 rfl).trans ((wq_u_j e3457 rfl).trans ((f3445 r0 0 _ g0 rfl).trans ((wq_u_j e3388 rfl).trans (wq_u_j e3383 rfl)))))
                      have q3722 : H3514 r0 0 = (rb : Int) := k3721.trans qrb
                      refine wp_of e16 c16_126 (xg_K (pc' := 129) lf_2_7 w3515 g0 sh_4 (by decide) (by decide) rfl q3722 rfl ?_)
                      refine wp_of e16 c16_129 (rw_iload_n (pc' := 130) (z := v3513) rfl rfl ?_)
                      refine wp_of e16 c16_130 (xa_B (by decide) (pc' := 131) w3515 grb sh_2 (by decide) (ty_2 _) (by omega) (by omega) rfl (fun b3723 b3724 => ?_))
                      refine wp_of e16 c16_131 (rw_bipush (pc' := 133) (z := 48) rfl (by decide) ?_)
                      refine wp_of e16 c16_133 (rw_icmp_lt (p1 := 174) (p2 := 136) (by decide) rfl ⟨by omega, by omega⟩ ⟨by omega, by omega⟩ (fun c3725 => ?_) (fun c3725 => ?_))
                      · refine wp_of e16 c16_174 (rw_iload_n (pc' := 175) (z := v3513) rfl rfl ?_)
                        refine wp_of e16 c16_175 (rw_aload_n (pc' := 176) (v := .ref r0) rfl rfl rfl ?_)
                        have k3726 : H3514 r0 4 = H3443 r0 4 := ((f3516 r0 4 _ g0 rfl).trans (wq_u_j e3457 rfl))
                        refine wp_of e16 c16_176 (xg_I (pc' := 179) lf_2_29 w3515 g0 sh_4 (by decide) (by decide) ty_4_4 rfl rfl (fun b3727 b3728 => ?_))
                        refine wp_of e16 c16_179 (rw_isub (pc' := 180) rfl ?_)
                        refine wp_of e16 c16_180 (rw_iload_n (pc' := 181) (z := v3442 - (H3443 r0 4)) rfl rfl ?_)
                        refine wp_of e16 c16_181 (rw_isub (pc' := 182) rfl ?_)
                        refine wp_of e16 c16_182 (rw_istore_n (pc' := 183) (z := (v3513 - (H3514 r0 4)) - (v3442 - (H3443 r0 4))) (L' := [(3, vI ((v3513 - (H3514 r0 4)) - (v3442 - (H3443 r0 4)))), (1, vI v3513), (2, vI (v3442 - (H3443 r0 4))), (0, .ref r0)]) rfl rfl rfl ?_)
                        refine wp_of e16 c16_183 (rw_iload_n (pc' := 184) (z := v3442 - (H3443 r0 4)) rfl rfl ?_)
                        refine wp_of e16 c16_184 (rw_if_le (p1 := 205) (p2 := 187) (by decide) rfl ⟨by omega, by omega⟩ (fun c3729 => ?_) (fun c3729 => ?_))
                        · refine wp_of e16 c16_205 (rw_iload_n (pc' := 206) (z := (v3513 - (H3514 r0 4)) - (v3442 - (H3443 r0 4))) rfl rfl ?_)
                          refine wp_of e16 c16_206 (rw_if_le (p1 := 226) (p2 := 209) (by decide) rfl ⟨by omega, by omega⟩ (fun c3730 => ?_) (fun c3730 => ?_))
                          · refine wp_of e16 c16_226 (rw_iload_n (pc' := 227) (z := v3513) rfl rfl ?_)
                            refine wp_of e16 c16_227 (rw_aload_n (pc' := 228) (v := .ref r0) rfl rfl rfl ?_)
                            refine wp_of e16 c16_228 (xg_I (pc' := 231) lf_2_19 w3515 g0 sh_4 (by decide) (by decide) ty_4_1 rfl rfl (fun b3731 b3732 => ?_))
                            refine wp_of e16 c16_231 (rw_icmp_ge (p1 := 275) (p2 := 234) (by decide) rfl ⟨by omega, by omega⟩ ⟨by omega, by omega⟩ (fun c3733 => ?_) (fun c3733 => ?_))
                            · refine wp_of e16 c16_275 (rw_aload_n (pc' := 276) (v := .ref r0) rfl rfl rfl ?_)
                              refine wp_of e16 c16_276 (rw_iconst (pc' := 277) rfl ?_)
                              refine wp_of e16 c16_277 (xp_I (pc' := 280) lf_2_41 w3515 g0 sh_4 (by decide) (by decide) ty_4_3 rfl rfl (by omega) (by omega) ⟨by omega, by omega⟩ rfl (fun H3734 e3735 w3736 => ?_))
                              have f3737 := f3519.put' e3735 g0 rfl
                              have k3738 : H3734 r0 3 = 0 := wq_u_s e3735
                              refine wp_of e16 c16_280 (rw_aload_n (pc' := 281) (v := .ref r0) rfl rfl rfl ?_)
                              refine wp_of e16 c16_281 (rw_iload_n (pc' := 282) (z := v3513) rfl rfl ?_)
                              refine wp_of e16 c16_282 (xp_I (pc' := 285) lf_2_23 w3736 g0 sh_4 (by decide) (by decide) ty_4_2 rfl rfl (by omega) (by omega) ⟨by omega, by omega⟩ rfl (fun H3739 e3740 w3741 => ?_))
                              have f3742 := f3737.put' e3740 g0 rfl
                              have k3743 : H3739 r0 2 = v3513 := wq_u_s e3740
                              exact wp_return e16 c16_285 rfl ⟨rfl, w3741, f3742, rfl⟩
                            · refine wp_of e16 c16_234 (rw_aload_n (pc' := 235) (v := .ref r0) rfl rfl rfl ?_)
                              refine wp_of e16 c16_235 (rw_aload_n (pc' := 236) (v := .ref r0) rfl rfl rfl ?_)
                              refine wp_of e16 c16_236 (xg_K (pc' := 239) lf_2_7 w3515 g0 sh_4 (by decide) (by decide) rfl q3722 rfl ?_)
                              refine wp_of e16 c16_239 (rw_iload_n (pc' := 240) (z := v3513) rfl rfl ?_)
                              refine wp_of e16 c16_240 (xa_B (by decide) (pc' := 241) w3515 grb sh_2 (by decide) (ty_2 _) (by omega) (by omega) rfl (fun b3744 b3745 => ?_))
                              refine wp_of e16 c16_241 (rw_bipush (pc' := 243) (z := 59) rfl (by decide) ?_)
                              refine wp_of e16 c16_243 (rw_icmp_ne (p1 := 250) (p2 := 246) (by decide) rfl ⟨by omega, by omega⟩ ⟨by omega, by omega⟩ (fun c3746 => ?_) (fun c3746 => ?_))
                              · refine wp_of e16 c16_250 (rw_aload_n (pc' := 251) (v := .ref r0) rfl rfl rfl ?_)
                                refine wp_of e16 c16_251 (xg_K (pc' := 254) lf_2_7 w3515 g0 sh_4 (by decide) (by decide) rfl q3722 rfl ?_)
                                refine wp_of e16 c16_254 (rw_iload_n (pc' := 255) (z := v3513) rfl rfl ?_)
                                refine wp_of e16 c16_255 (xa_B (by decide) (pc' := 256) w3515 grb sh_2 (by decide) (ty_2 _) (by omega) (by omega) rfl (fun b3747 b3748 => ?_))
                                refine wp_of e16 c16_256 (rw_bipush (pc' := 258) (z := 44) rfl (by decide) ?_)
                                refine wp_of e16 c16_258 (rw_icmp_ne (p1 := 265) (p2 := 261) (by decide) rfl ⟨by omega, by omega⟩ ⟨by omega, by omega⟩ (fun c3749 => ?_) (fun c3749 => ?_))
                                · refine wp_of e16 c16_265 (rw_iconst (pc' := 266) rfl ?_)
                                  refine wp_of e16 c16_266 (xp_I (pc' := 269) lf_2_41 w3515 g0 sh_4 (by decide) (by decide) ty_4_3 rfl rfl (by omega) (by omega) ⟨by omega, by omega⟩ rfl (fun H3750 e3751 w3752 => ?_))
                                  have f3753 := f3519.put' e3751 g0 rfl
                                  have k3754 : H3750 r0 3 = 5 := wq_u_s e3751
                                  refine wp_of e16 c16_269 (rw_iinc (pc' := 272) (z := v3513) (L' := [(1, vI (v3513 + 1)), (3, vI ((v3513 - (H3514 r0 4)) - (v3442 - (H3443 r0 4)))), (2, vI (v3442 - (H3443 r0 4))), (0, .ref r0)]) rfl rfl rfl rfl ?_)
                                  refine wp_of e16 c16_272 (rw_goto (p1 := 280) (by decide) ?_)
                                  refine wp_of e16 c16_280 (rw_aload_n (pc' := 281) (v := .ref r0) rfl rfl rfl ?_)
                                  refine wp_of e16 c16_281 (rw_iload_n (pc' := 282) (z := v3513 + 1) rfl rfl ?_)
                                  refine wp_of e16 c16_282 (xp_I (pc' := 285) lf_2_23 w3752 g0 sh_4 (by decide) (by decide) ty_4_2 rfl rfl (by omega) (by omega) ⟨by omega, by omega⟩ rfl (fun H3755 e3756 w3757 => ?_))
                                  have f3758 := f3753.put' e3756 g0 rfl
                                  have k3759 : H3755 r0 2 = v3513 + 1 := wq_u_s e3756
                                  exact wp_return e16 c16_285 rfl ⟨rfl, w3757, f3758, rfl⟩
                                · refine wp_of e16 c16_261 (rw_iconst (pc' := 262) rfl ?_)
                                  refine wp_of e16 c16_262 (rw_goto (p1 := 266) (by decide) ?_)
                                  refine wp_of e16 c16_266 (xp_I (pc' := 269) lf_2_41 w3515 g0 sh_4 (by decide) (by decide) ty_4_3 rfl rfl (by omega) (by omega) ⟨by omega, by omega⟩ rfl (fun H3760 e3761 w3762 => ?_))
                                  have f3763 := f3519.put' e3761 g0 rfl
                                  have k3764 : H3760 r0 3 = 4 := wq_u_s e3761
                                  refine wp_of e16 c16_269 (rw_iinc (pc' := 272) (z := v3513) (L' := [(1, vI (v3513 + 1)), (3, vI ((v3513 - (H3514 r0 4)) - (v3442 - (H3443 r0 4)))), (2, vI (v3442 - (H3443 r0 4))), (0, .ref r0)]) rfl rfl rfl rfl ?_)
                                  refine wp_of e16 c16_272 (rw_goto (p1 := 280) (by decide) ?_)
                                  refine wp_of e16 c16_280 (rw_aload_n (pc' := 281) (v := .ref r0) rfl rfl rfl ?_)
                                  refine wp_of e16 c16_281 (rw_iload_n (pc' := 282) (z := v3513 + 1) rfl rfl ?_)
                                  refine wp_of e16 c16_282 (xp_I (pc' := 285) lf_2_23 w3762 g0 sh_4 (by decide) (by decide) ty_4_2 rfl rfl (by omega) (by omega) ⟨by omega, by omega⟩ rfl (fun H3765 e3766 w3767 => ?_))
                                  have f3768 := f3763.put' e3766 g0 rfl
                                  have k3769 : H3765 r0 2 = v3513 + 1 := wq_u_s e3766
                                  exact wp_return e16 c16_285 rfl ⟨rfl, w3767, f3768, rfl⟩
                              · exfalso
                                omega
                          · refine wp_of e16 c16_209 (rw_aload_n (pc' := 210) (v := .ref r0) rfl rfl rfl ?_)
                            refine wp_of e16 c16_210 (rw_iload_n (pc' := 211) (z := (v3513 - (H3514 r0 4)) - (v3442 - (H3443 r0 4))) rfl rfl ?_)
                            refine wp_of e16 c16_211 (rw_iconst (pc' := 212) rfl ?_)
                            refine wp_of e16 c16_212 (rw_icmp_gt (p1 := 219) (p2 := 215) (by decide) rfl ⟨by omega, by omega⟩ ⟨by omega, by omega⟩ (fun c3770 => ?_) (fun c3770 => ?_))
                            · refine wp_of e16 c16_219 (rw_iconst (pc' := 220) rfl ?_)
                              refine wp_of e16 c16_220 (xp_I (pc' := 223) lf_2_41 w3515 g0 sh_4 (by decide) (by decide) ty_4_3 rfl rfl (by omega) (by omega) ⟨by omega, by omega⟩ rfl (fun H3771 e3772 w3773 => ?_))
                              have f3774 := f3519.put' e3772 g0 rfl
                              have k3775 : H3771 r0 3 = 5 := wq_u_s e3772
                              refine wp_of e16 c16_223 (rw_goto (p1 := 280) (by decide) ?_)
                              refine wp_of e16 c16_280 (rw_aload_n (pc' := 281) (v := .ref r0) rfl rfl rfl ?_)
                              refine wp_of e16 c16_281 (rw_iload_n (pc' := 282) (z := v3513) rfl rfl ?_)
                              refine wp_of e16 c16_282 (xp_I (pc' := 285) lf_2_23 w3773 g0 sh_4 (by decide) (by decide) ty_4_2 rfl rfl (by omega) (by omega) ⟨by omega, by omega⟩ rfl (fun H3776 e3777 w3778 => ?_))
                              have f3779 := f3774.put' e3777 g0 rfl
                              have k3780 : H3776 r0 2 = v3513 := wq_u_s e3777
                              exact wp_return e16 c16_285 rfl ⟨rfl, w3778, f3779, rfl⟩
                            · refine wp_of e16 c16_215 (rw_iconst (pc' := 216) rfl ?_)
                              refine wp_of e16 c16_216 (rw_goto (p1 := 220) (by decide) ?_)
                              refine wp_of e16 c16_220 (xp_I (pc' := 223) lf_2_41 w3515 g0 sh_4 (by decide) (by decide) ty_4_3 rfl rfl (by omega) (by omega) ⟨by omega, by omega⟩ rfl (fun H3781 e3782 w3783 => ?_))
                              have f3784 := f3519.put' e3782 g0 rfl
                              have k3785 : H3781 r0 3 = 2 := wq_u_s e3782
                              refine wp_of e16 c16_223 (rw_goto (p1 := 280) (by decide) ?_)
                              refine wp_of e16 c16_280 (rw_aload_n (pc' := 281) (v := .ref r0) rfl rfl rfl ?_)
                              refine wp_of e16 c16_281 (rw_iload_n (pc' := 282) (z := v3513) rfl rfl ?_)
                              refine wp_of e16 c16_282 (xp_I (pc' := 285) lf_2_23 w3783 g0 sh_4 (by decide) (by decide) ty_4_2 rfl rfl (by omega) (by omega) ⟨by omega, by omega⟩ rfl (fun H3786 e3787 w3788 => ?_))
                              have f3789 := f3784.put' e3787 g0 rfl
                              have k3790 : H3786 r0 2 = v3513 := wq_u_s e3787
                              exact wp_return e16 c16_285 rfl ⟨rfl, w3788, f3789, rfl⟩
                        · exfalso
                          omega
                      · refine wp_of e16 c16_136 (rw_aload_n (pc' := 137) (v := .ref r0) rfl rfl rfl ?_)
                        refine wp_of e16 c16_137 (xg_K (pc' := 140) lf_2_7 w3515 g0 sh_4 (by decide) (by decide) rfl q3722 rfl ?_)
                        refine wp_of e16 c16_140 (rw_iload_n (pc' := 141) (z := v3513) rfl rfl ?_)
                        refine wp_of e16 c16_141 (xa_B (by decide) (pc' := 142) w3515 grb sh_2 (by decide) (ty_2 _) (by omega) (by omega) rfl (fun b3791 b3792 => ?_))
                        refine wp_of e16 c16_142 (rw_bipush (pc' := 144) (z := 57) rfl (by decide) ?_)
                        refine wp_of e16 c16_144 (rw_icmp_gt (p1 := 174) (p2 := 147) (by decide) rfl ⟨by omega, by omega⟩ ⟨by omega, by omega⟩ (fun c3793 => ?_) (fun c3793 => ?_))
                        · refine wp_of e16 c16_174 (rw_iload_n (pc' := 175) (z := v3513) rfl rfl ?_)
                          refine wp_of e16 c16_175 (rw_aload_n (pc' := 176) (v := .ref r0) rfl rfl rfl ?_)
                          have k3794 : H3514 r0 4 = H3443 r0 4 := ((f3516 r0 4 _ g0 rfl).trans (wq_u_j e3457 rfl))
                          refine wp_of e16 c16_176 (xg_I (pc' := 179) lf_2_29 w3515 g0 sh_4 (by decide) (by decide) ty_4_4 rfl rfl (fun b3795 b3796 => ?_))
                          refine wp_of e16 c16_179 (rw_isub (pc' := 180) rfl ?_)
                          refine wp_of e16 c16_180 (rw_iload_n (pc' := 181) (z := v3442 - (H3443 r0 4)) rfl rfl ?_)
                          refine wp_of e16 c16_181 (rw_isub (pc' := 182) rfl ?_)
                          refine wp_of e16 c16_182 (rw_istore_n (pc' := 183) (z := (v3513 - (H3514 r0 4)) - (v3442 - (H3443 r0 4))) (L' := [(3, vI ((v3513 - (H3514 r0 4)) - (v3442 - (H3443 r0 4)))), (1, vI v3513), (2, vI (v3442 - (H3443 r0 4))), (0, .ref r0)]) rfl rfl rfl ?_)
                          refine wp_of e16 c16_183 (rw_iload_n (pc' := 184) (z := v3442 - (H3443 r0 4)) rfl rfl ?_)
                          refine wp_of e16 c16_184 (rw_if_le (p1 := 205) (p2 := 187) (by decide) rfl ⟨by omega, by omega⟩ (fun c3797 => ?_) (fun c3797 => ?_))
                          · refine wp_of e16 c16_205 (rw_iload_n (pc' := 206) (z := (v3513 - (H3514 r0 4)) - (v3442 - (H3443 r0 4))) rfl rfl ?_)
                            refine wp_of e16 c16_206 (rw_if_le (p1 := 226) (p2 := 209) (by decide) rfl ⟨by omega, by omega⟩ (fun c3798 => ?_) (fun c3798 => ?_))
                            · refine wp_of e16 c16_226 (rw_iload_n (pc' := 227) (z := v3513) rfl rfl ?_)
                              refine wp_of e16 c16_227 (rw_aload_n (pc' := 228) (v := .ref r0) rfl rfl rfl ?_)
                              refine wp_of e16 c16_228 (xg_I (pc' := 231) lf_2_19 w3515 g0 sh_4 (by decide) (by decide) ty_4_1 rfl rfl (fun b3799 b3800 => ?_))
                              refine wp_of e16 c16_231 (rw_icmp_ge (p1 := 275) (p2 := 234) (by decide) rfl ⟨by omega, by omega⟩ ⟨by omega, by omega⟩ (fun c3801 => ?_) (fun c3801 => ?_))
                              · refine wp_of e16 c16_275 (rw_aload_n (pc' := 276) (v := .ref r0) rfl rfl rfl ?_)
                                refine wp_of e16 c16_276 (rw_iconst (pc' := 277) rfl ?_)
                                refine wp_of e16 c16_277 (xp_I (pc' := 280) lf_2_41 w3515 g0 sh_4 (by decide) (by decide) ty_4_3 rfl rfl (by omega) (by omega) ⟨by omega, by omega⟩ rfl (fun H3802 e3803 w3804 => ?_))
                                have f3805 := f3519.put' e3803 g0 rfl
                                have k3806 : H3802 r0 3 = 0 := wq_u_s e3803
                                refine wp_of e16 c16_280 (rw_aload_n (pc' := 281) (v := .ref r0) rfl rfl rfl ?_)
                                refine wp_of e16 c16_281 (rw_iload_n (pc' := 282) (z := v3513) rfl rfl ?_)
                                refine wp_of e16 c16_282 (xp_I (pc' := 285) lf_2_23 w3804 g0 sh_4 (by decide) (by decide) ty_4_2 rfl rfl (by omega) (by omega) ⟨by omega, by omega⟩ rfl (fun H3807 e3808 w3809 => ?_))
                                have f3810 := f3805.put' e3808 g0 rfl
                                have k3811 : H3807 r0 2 = v3513 := wq_u_s e3808
                                exact wp_return e16 c16_285 rfl ⟨rfl, w3809, f3810, rfl⟩
                              · refine wp_of e16 c16_234 (rw_aload_n (pc' := 235) (v := .ref r0) rfl rfl rfl ?_)
                                refine wp_of e16 c16_235 (rw_aload_n (pc' := 236) (v := .ref r0) rfl rfl rfl ?_)
                                refine wp_of e16 c16_236 (xg_K (pc' := 239) lf_2_7 w3515 g0 sh_4 (by decide) (by decide) rfl q3722 rfl ?_)
                                refine wp_of e16 c16_239 (rw_iload_n (pc' := 240) (z := v3513) rfl rfl ?_)
                                refine wp_of e16 c16_240 (xa_B (by decide) (pc' := 241) w3515 grb sh_2 (by decide) (ty_2 _) (by omega) (by omega) rfl (fun b3812 b3813 => ?_))
                                refine wp_of e16 c16_241 (rw_bipush (pc' := 243) (z := 59) rfl (by decide) ?_)
                                refine wp_of e16 c16_243 (rw_icmp_ne (p1 := 250) (p2 := 246) (by decide) rfl ⟨by omega, by omega⟩ ⟨by omega, by omega⟩ (fun c3814 => ?_) (fun c3814 => ?_))
                                · refine wp_of e16 c16_250 (rw_aload_n (pc' := 251) (v := .ref r0) rfl rfl rfl ?_)
                                  refine wp_of e16 c16_251 (xg_K (pc' := 254) lf_2_7 w3515 g0 sh_4 (by decide) (by decide) rfl q3722 rfl ?_)
                                  refine wp_of e16 c16_254 (rw_iload_n (pc' := 255) (z := v3513) rfl rfl ?_)
                                  refine wp_of e16 c16_255 (xa_B (by decide) (pc' := 256) w3515 grb sh_2 (by decide) (ty_2 _) (by omega) (by omega) rfl (fun b3815 b3816 => ?_))
                                  refine wp_of e16 c16_256 (rw_bipush (pc' := 258) (z := 44) rfl (by decide) ?_)
                                  refine wp_of e16 c16_258 (rw_icmp_ne (p1 := 265) (p2 := 261) (by decide) rfl ⟨by omega, by omega⟩ ⟨by omega, by omega⟩ (fun c3817 => ?_) (fun c3817 => ?_))
                                  · refine wp_of e16 c16_265 (rw_iconst (pc' := 266) rfl ?_)
                                    refine wp_of e16 c16_266 (xp_I (pc' := 269) lf_2_41 w3515 g0 sh_4 (by decide) (by decide) ty_4_3 rfl rfl (by omega) (by omega) ⟨by omega, by omega⟩ rfl (fun H3818 e3819 w3820 => ?_))
                                    have f3821 := f3519.put' e3819 g0 rfl
                                    have k3822 : H3818 r0 3 = 5 := wq_u_s e3819
                                    refine wp_of e16 c16_269 (rw_iinc (pc' := 272) (z := v3513) (L' := [(1, vI (v3513 + 1)), (3, vI ((v3513 - (H3514 r0 4)) - (v3442 - (H3443 r0 4)))), (2, vI (v3442 - (H3443 r0 4))), (0, .ref r0)]) rfl rfl rfl rfl ?_)
                                    refine wp_of e16 c16_272 (rw_goto (p1 := 280) (by decide) ?_)
                                    refine wp_of e16 c16_280 (rw_aload_n (pc' := 281) (v := .ref r0) rfl rfl rfl ?_)
                                    refine wp_of e16 c16_281 (rw_iload_n (pc' := 282) (z := v3513 + 1) rfl rfl ?_)
                                    refine wp_of e16 c16_282 (xp_I (pc' := 285) lf_2_23 w3820 g0 sh_4 (by decide) (by decide) ty_4_2 rfl rfl (by omega) (by omega) ⟨by omega, by omega⟩ rfl (fun H3823 e3824 w3825 => ?_))
                                    have f3826 := f3821.put' e3824 g0 rfl
                                    have k3827 : H3823 r0 2 = v3513 + 1 := wq_u_s e3824
                                    exact wp_return e16 c16_285 rfl ⟨rfl, w3825, f3826, rfl⟩
                                  · exfalso
                                    omega
                                · refine wp_of e16 c16_246 (rw_iconst (pc' := 247) rfl ?_)
                                  refine wp_of e16 c16_247 (rw_goto (p1 := 266) (by decide) ?_)
                                  refine wp_of e16 c16_266 (xp_I (pc' := 269) lf_2_41 w3515 g0 sh_4 (by decide) (by decide) ty_4_3 rfl rfl (by omega) (by omega) ⟨by omega, by omega⟩ rfl (fun H3828 e3829 w3830 => ?_))
                                  have f3831 := f3519.put' e3829 g0 rfl
                                  have k3832 : H3828 r0 3 = 3 := wq_u_s e3829
                                  refine wp_of e16 c16_269 (rw_iinc (pc' := 272) (z := v3513) (L' := [(1, vI (v3513 + 1)), (3, vI ((v3513 - (H3514 r0 4)) - (v3442 - (H3443 r0 4)))), (2, vI (v3442 - (H3443 r0 4))), (0, .ref r0)]) rfl rfl rfl rfl ?_)
                                  refine wp_of e16 c16_272 (rw_goto (p1 := 280) (by decide) ?_)
                                  refine wp_of e16 c16_280 (rw_aload_n (pc' := 281) (v := .ref r0) rfl rfl rfl ?_)
                                  refine wp_of e16 c16_281 (rw_iload_n (pc' := 282) (z := v3513 + 1) rfl rfl ?_)
                                  refine wp_of e16 c16_282 (xp_I (pc' := 285) lf_2_23 w3830 g0 sh_4 (by decide) (by decide) ty_4_2 rfl rfl (by omega) (by omega) ⟨by omega, by omega⟩ rfl (fun H3833 e3834 w3835 => ?_))
                                  have f3836 := f3831.put' e3834 g0 rfl
                                  have k3837 : H3833 r0 2 = v3513 + 1 := wq_u_s e3834
                                  exact wp_return e16 c16_285 rfl ⟨rfl, w3835, f3836, rfl⟩
                            · refine wp_of e16 c16_209 (rw_aload_n (pc' := 210) (v := .ref r0) rfl rfl rfl ?_)
                              refine wp_of e16 c16_210 (rw_iload_n (pc' := 211) (z := (v3513 - (H3514 r0 4)) - (v3442 - (H3443 r0 4))) rfl rfl ?_)
                              refine wp_of e16 c16_211 (rw_iconst (pc' := 212) rfl ?_)
                              refine wp_of e16 c16_212 (rw_icmp_gt (p1 := 219) (p2 := 215) (by decide) rfl ⟨by omega, by omega⟩ ⟨by omega, by omega⟩ (fun c3838 => ?_) (fun c3838 => ?_))
                              · refine wp_of e16 c16_219 (rw_iconst (pc' := 220) rfl ?_)
                                refine wp_of e16 c16_220 (xp_I (pc' := 223) lf_2_41 w3515 g0 sh_4 (by decide) (by decide) ty_4_3 rfl rfl (by omega) (by omega) ⟨by omega, by omega⟩ rfl (fun H3839 e3840 w3841 => ?_))
                                have f3842 := f3519.put' e3840 g0 rfl
                                have k3843 : H3839 r0 3 = 5 := wq_u_s e3840
                                refine wp_of e16 c16_223 (rw_goto (p1 := 280) (by decide) ?_)
                                refine wp_of e16 c16_280 (rw_aload_n (pc' := 281) (v := .ref r0) rfl rfl rfl ?_)
                                refine wp_of e16 c16_281 (rw_iload_n (pc' := 282) (z := v3513) rfl rfl ?_)
                                refine wp_of e16 c16_282 (xp_I (pc' := 285) lf_2_23 w3841 g0 sh_4 (by decide) (by decide) ty_4_2 rfl rfl (by omega) (by omega) ⟨by omega, by omega⟩ rfl (fun H3844 e3845 w3846 => ?_))
                                have f3847 := f3842.put' e3845 g0 rfl
                                have k3848 : H3844 r0 2 = v3513 := wq_u_s e3845
                                exact wp_return e16 c16_285 rfl ⟨rfl, w3846, f3847, rfl⟩
                              · refine wp_of e16 c16_215 (rw_iconst (pc' := 216) rfl ?_)
                                refine wp_of e16 c16_216 (rw_goto (p1 := 220) (by decide) ?_)
                                refine wp_of e16 c16_220 (xp_I (pc' := 223) lf_2_41 w3515 g0 sh_4 (by decide) (by decide) ty_4_3 rfl rfl (by omega) (by omega) ⟨by omega, by omega⟩ rfl (fun H3849 e3850 w3851 => ?_))
                                have f3852 := f3519.put' e3850 g0 rfl
                                have k3853 : H3849 r0 3 = 2 := wq_u_s e3850
                                refine wp_of e16 c16_223 (rw_goto (p1 := 280) (by decide) ?_)
                                refine wp_of e16 c16_280 (rw_aload_n (pc' := 281) (v := .ref r0) rfl rfl rfl ?_)
                                refine wp_of e16 c16_281 (rw_iload_n (pc' := 282) (z := v3513) rfl rfl ?_)
                                refine wp_of e16 c16_282 (xp_I (pc' := 285) lf_2_23 w3851 g0 sh_4 (by decide) (by decide) ty_4_2 rfl rfl (by omega) (by omega) ⟨by omega, by omega⟩ rfl (fun H3854 e3855 w3856 => ?_))
                                have f3857 := f3852.put' e3855 g0 rfl
                                have k3858 : H3854 r0 2 = v3513 := wq_u_s e3855
                                exact wp_return e16 c16_285 rfl ⟨rfl, w3856, f3857, rfl⟩
                          · exfalso
                            omega
                        · refine wp_of e16 c16_147 (rw_aload_n (pc' := 148) (v := .ref r0) rfl rfl rfl ?_)
                          refine wp_of e16 c16_148 (rw_aload_n (pc' := 149) (v := .ref r0) rfl rfl rfl ?_)
                          refine wp_of e16 c16_149 (xg_I (pc' := 152) lf_2_38 w3515 g0 sh_4 (by decide) (by decide) ty_4_5 rfl rfl (fun b3859 b3860 => ?_))
                          refine wp_of e16 c16_152 (rw_bipush (pc' := 154) (z := 10) rfl (by decide) ?_)
                          refine wp_of e16 c16_154 (rw_imulw (pc' := 155) rfl ?_)
                          obtain ⟨v3861, e3862⟩ : ∃ x : Int, x = wq_w ((H3514 r0 5) * 10) := ⟨_, rfl⟩
                          rw [← e3862]
                          have b3863 : -2147483648 ≤ v3861 ∧ v3861 ≤ 2147483647 := by
                            rw [e3862]
                            exact wI_w _
                          refine wp_of e16 c16_155 (rw_aload_n (pc' := 156) (v := .ref r0) rfl rfl rfl ?_)
                          refine wp_of e16 c16_156 (xg_K (pc' := 159) lf_2_7 w3515 g0 sh_4 (by decide) (by decide) rfl q3722 rfl ?_)
                          refine wp_of e16 c16_159 (rw_iload_n (pc' := 160) (z := v3513) rfl rfl ?_)
                          refine wp_of e16 c16_160 (xa_B (by decide) (pc' := 161) w3515 grb sh_2 (by decide) (ty_2 _) (by omega) (by omega) rfl (fun b3864 b3865 => ?_))
                          refine wp_of e16 c16_161 (rw_bipush (pc' := 163) (z := 48) rfl (by decide) ?_)
                          refine wp_of e16 c16_163 (rw_isub (pc' := 164) rfl ?_)
                          refine wp_of e16 c16_164 (rw_iaddw (pc' := 165) rfl ?_)
                          obtain ⟨v3866, e3867⟩ : ∃ x : Int, x = wq_w (v3861 + ((H3514 rb (v3513.toNat)) - 48)) := ⟨_, rfl⟩
                          rw [← e3867]
                          have b3868 : -2147483648 ≤ v3866 ∧ v3866 ≤ 2147483647 := by
                            rw [e3867]
                            exact wI_w _
                          refine wp_of e16 c16_165 (xp_I (pc' := 168) lf_2_38 w3515 g0 sh_4 (by decide) (by decide) ty_4_5 rfl rfl (by omega) (by omega) ⟨by omega, by omega⟩ rfl (fun H3869 e3870 w3871 => ?_))
                          have f3872 := f3519.put' e3870 g0 rfl
                          have f3873 := f3516.put' e3870 g0 rfl
                          have k3874 : H3869 r0 5 = v3866 := wq_u_s e3870
                          refine wp_of e16 c16_168 (rw_iinc (pc' := 171) (z := v3513) (L' := [(1, vI (v3513 + 1)), (2, vI (v3442 - (H3443 r0 4))), (0, .ref r0)]) rfl rfl rfl rfl ?_)
                          refine wp_of e16 c16_171 (rw_goto (p1 := 113) (by decide) ?_)
                          exact wp_lc (ks := [1, 2, 0]) (wl_c rfl (wl_c rfl (wl_c rfl wl_n))) rfl (by decide) (ih3512 _ (by omega) (v3513 + 1) H3869 w3871 f3873 ⟨by omega, by omega⟩ rfl)
              exact wp_lc (ks := [2, 1, 0]) (wl_c rfl (wl_c rfl (wl_c rfl wl_n))) rfl (by decide) (lp3510 _ v3442 H3456 w3458 wfr.rf ⟨by omega, by omega⟩ rfl)
            · refine wp_of e16 c16_48 (rw_aload_n (pc' := 49) (v := .ref r0) rfl rfl rfl ?_)
              have k3875 : H3443 r0 0 = H r0 0 := ((f3445 r0 0 _ g0 rfl).trans ((wq_u_j e3388 rfl).trans (wq_u_j e3383 rfl)))
              have q3876 : H3443 r0 0 = (rb : Int) := k3875.trans qrb
              refine wp_of e16 c16_49 (xg_K (pc' := 52) lf_2_7 w3444 g0 sh_4 (by decide) (by decide) rfl q3876 rfl ?_)
              refine wp_of e16 c16_52 (rw_iload_n (pc' := 53) (z := v3442) rfl rfl ?_)
              refine wp_of e16 c16_53 (xa_B (by decide) (pc' := 54) w3444 grb sh_2 (by decide) (ty_2 _) (by omega) (by omega) rfl (fun b3877 b3878 => ?_))
              refine wp_of e16 c16_54 (rw_bipush (pc' := 56) (z := 97) rfl (by decide) ?_)
              refine wp_of e16 c16_56 (rw_icmp_lt (p1 := 101) (p2 := 59) (by decide) rfl ⟨by omega, by omega⟩ ⟨by omega, by omega⟩ (fun c3879 => ?_) (fun c3879 => ?_))
              · refine wp_of e16 c16_101 (rw_iload_n (pc' := 102) (z := v3442) rfl rfl ?_)
                refine wp_of e16 c16_102 (rw_aload_n (pc' := 103) (v := .ref r0) rfl rfl rfl ?_)
                have k3880 : H3443 r0 4 = H3382 r0 4 := ((f3445 r0 4 _ g0 rfl).trans (wq_u_j e3388 rfl))
                refine wp_of e16 c16_103 (xg_I (pc' := 106) lf_2_29 w3444 g0 sh_4 (by decide) (by decide) ty_4_4 rfl rfl (fun b3881 b3882 => ?_))
                refine wp_of e16 c16_106 (rw_isub (pc' := 107) rfl ?_)
                refine wp_of e16 c16_107 (rw_istore_n (pc' := 108) (z := v3442 - (H3443 r0 4)) (L' := [(2, vI (v3442 - (H3443 r0 4))), (1, vI v3442), (0, .ref r0)]) rfl rfl rfl ?_)
                refine wp_of e16 c16_108 (rw_aload_n (pc' := 109) (v := .ref r0) rfl rfl rfl ?_)
                refine wp_of e16 c16_109 (rw_iconst (pc' := 110) rfl ?_)
                refine wp_of e16 c16_110 (xp_I (pc' := 113) lf_2_38 w3444 g0 sh_4 (by decide) (by decide) ty_4_5 rfl rfl (by omega) (by omega) ⟨by omega, by omega⟩ rfl (fun H3883 e3884 w3885 => ?_))
                have f3886 := f3448.put' e3884 g0 rfl
                have k3887 : H3883 r0 5 = 0 := wq_u_s e3884
                have lp3937 : ∀ (n3938 : Nat) (v3940 : Int) (H3941 : wq_H), WT T H3941 → wfr [(4, 5)] T H3883 H3941 → (0 ≤ v3940 ∧ v3940 ≤ 900) → (900 - v3940).toNat = n3938 → wp kt 0 16 113 [(1, vI v3940), (2, vI (v3442 - (H3443 r0 4))), (0, .ref r0)] [] T H3941 (q_16 r0 rb T H) := by
                  intro n3938
                  induction n3938 using Nat.strongRecOn with
                  | _ n3938 ih3939 =>
                    intro v3940 H3941 w3942 f3943 b3944 m3945
                    have f3946 := f3886.tr f3943 rfl
                    refine wp_of e16 c16_113 (rw_iload_n (pc' := 114) (z := v3940) rfl rfl ?_)
                    refine wp_of e16 c16_114 (rw_aload_n (pc' := 115) (v := .ref r0) rfl rfl rfl ?_)
                    have k3947 : H3941 r0 1 = H3443 r0 1 := ((f3943 r0 1 _ g0 rfl).trans (wq_u_j e3884 rfl))
                    refine wp_of e16 c16_115 (xg_I (pc' := 118) lf_2_19 w3942 g0 sh_4 (by decide) (by decide) ty_4_1 rfl rfl (fun b3948 b3949 => ?_))
                    refine wp_of e16 c16_118 (rw_icmp_ge (p1 := 174) (p2 := 121) (by decide) rfl ⟨by omega, by omega⟩ ⟨by omega, by omega⟩ (fun c3950 => ?_) (fun c3950 => ?_))
                    · refine wp_of e16 c16_174 (rw_iload_n (pc' := 175) (z := v3940) rfl rfl ?_)
                      refine wp_of e16 c16_175 (rw_aload_n (pc' := 176) (v := .ref r0) rfl rfl rfl ?_)
                      have k3951 : H3941 r0 4 = H3443 r0 4 := ((f3943 r0 4 _ g0 rfl).trans (wq_u_j e3884 rfl))
                      refine wp_of e16 c16_176 (xg_I (pc' := 179) lf_2_29 w3942 g0 sh_4 (by decide) (by decide) ty_4_4 rfl rfl (fun b3952 b3953 => ?_))
                      refine wp_of e16 c16_179 (rw_isub (pc' := 180) rfl ?_)
                      refine wp_of e16 c16_180 (rw_iload_n (pc' := 181) (z := v3442 - (H3443 r0 4)) rfl rfl ?_)
                      refine wp_of e16 c16_181 (rw_isub (pc' := 182) rfl ?_)
                      refine wp_of e16 c16_182 (rw_istore_n (pc' := 183) (z := (v3940 - (H3941 r0 4)) - (v3442 - (H3443 r0 4))) (L' := [(3, vI ((v3940 - (H3941 r0 4)) - (v3442 - (H3443 r0 4)))), (1, vI v3940), (2, vI (v3442 - (H3443 r0 4))), (0, .ref r0)]) rfl rfl rfl ?_)
                      refine wp_of e16 c16_183 (rw_iload_n (pc' := 184) (z := v3442 - (H3443 r0 4)) rfl rfl ?_)
                      refine wp_of e16 c16_184 (rw_if_le (p1 := 205) (p2 := 187) (by decide) rfl ⟨by omega, by omega⟩ (fun c3954 => ?_) (fun c3954 => ?_))
                      · refine wp_of e16 c16_205 (rw_iload_n (pc' := 206) (z := (v3940 - (H3941 r0 4)) - (v3442 - (H3443 r0 4))) rfl rfl ?_)
                        refine wp_of e16 c16_206 (rw_if_le (p1 := 226) (p2 := 209) (by decide) rfl ⟨by omega, by omega⟩ (fun c3955 => ?_) (fun c3955 => ?_))
                        · refine wp_of e16 c16_226 (rw_iload_n (pc' := 227) (z := v3940) rfl rfl ?_)
                          refine wp_of e16 c16_227 (rw_aload_n (pc' := 228) (v := .ref r0) rfl rfl rfl ?_)
                          refine wp_of e16 c16_228 (xg_I (pc' := 231) lf_2_19 w3942 g0 sh_4 (by decide) (by decide) ty_4_1 rfl rfl (fun b3956 b3957 => ?_))
                          refine wp_of e16 c16_231 (rw_icmp_ge (p1 := 275) (p2 := 234) (by decide) rfl ⟨by omega, by omega⟩ ⟨by omega, by omega⟩ (fun c3958 => ?_) (fun c3958 => ?_))
                          · refine wp_of e16 c16_275 (rw_aload_n (pc' := 276) (v := .ref r0) rfl rfl rfl ?_)
                            refine wp_of e16 c16_276 (rw_iconst (pc' := 277) rfl ?_)
                            refine wp_of e16 c16_277 (xp_I (pc' := 280) lf_2_41 w3942 g0 sh_4 (by decide) (by decide) ty_4_3 rfl rfl (by omega) (by omega) ⟨by omega, by omega⟩ rfl (fun H3959 e3960 w3961 => ?_))
                            have f3962 := f3946.put' e3960 g0 rfl
                            have k3963 : H3959 r0 3 = 0 := wq_u_s e3960
                            refine wp_of e16 c16_280 (rw_aload_n (pc' := 281) (v := .ref r0) rfl rfl rfl ?_)
                            refine wp_of e16 c16_281 (rw_iload_n (pc' := 282) (z := v3940) rfl rfl ?_)
                            refine wp_of e16 c16_282 (xp_I (pc' := 285) lf_2_23 w3961 g0 sh_4 (by decide) (by decide) ty_4_2 rfl rfl (by omega) (by omega) ⟨by omega, by omega⟩ rfl (fun H3964 e3965 w3966 => ?_))
                            have f3967 := f3962.put' e3965 g0 rfl
                            have k3968 : H3964 r0 2 = v3940 := wq_u_s e3965
                            exact wp_return e16 c16_285 rfl ⟨rfl, w3966, f3967, rfl⟩
                          · refine wp_of e16 c16_234 (rw_aload_n (pc' := 235) (v := .ref r0) rfl rfl rfl ?_)
                            refine wp_of e16 c16_235 (rw_aload_n (pc' := 236) (v := .ref r0) rfl rfl rfl ?_)
                            have k3969 : H3941 r0 0 = H3443 r0 0 := ((f3943 r0 0 _ g0 rfl).trans (wq_u_j e3884 rfl))
                            have q3970 : H3941 r0 0 = (rb : Int) := k3969.trans q3876
                            refine wp_of e16 c16_236 (xg_K (pc' := 239) lf_2_7 w3942 g0 sh_4 (by decide) (by decide) rfl q3970 rfl ?_)
                            refine wp_of e16 c16_239 (rw_iload_n (pc' := 240) (z := v3940) rfl rfl ?_)
                            refine wp_of e16 c16_240 (xa_B (by decide) (pc' := 241) w3942 grb sh_2 (by decide) (ty_2 _) (by omega) (by omega) rfl (fun b3971 b3972 => ?_))
                            refine wp_of e16 c16_241 (rw_bipush (pc' := 243) (z := 59) rfl (by decide) ?_)
                            refine wp_of e16 c16_243 (rw_icmp_ne (p1 := 250) (p2 := 246) (by decide) rfl ⟨by omega, by omega⟩ ⟨by omega, by omega⟩ (fun c3973 => ?_) (fun c3973 => ?_))
                            · refine wp_of e16 c16_250 (rw_aload_n (pc' := 251) (v := .ref r0) rfl rfl rfl ?_)
                              refine wp_of e16 c16_251 (xg_K (pc' := 254) lf_2_7 w3942 g0 sh_4 (by decide) (by decide) rfl q3970 rfl ?_)
                              refine wp_of e16 c16_254 (rw_iload_n (pc' := 255) (z := v3940) rfl rfl ?_)
                              refine wp_of e16 c16_255 (xa_B (by decide) (pc' := 256) w3942 grb sh_2 (by decide) (ty_2 _) (by omega) (by omega) rfl (fun b3974 b3975 => ?_))
                              refine wp_of e16 c16_256 (rw_bipush (pc' := 258) (z := 44) rfl (by decide) ?_)
                              refine wp_of e16 c16_258 (rw_icmp_ne (p1 := 265) (p2 := 261) (by decide) rfl ⟨by omega, by omega⟩ ⟨by omega, by omega⟩ (fun c3976 => ?_) (fun c3976 => ?_))
                              · refine wp_of e16 c16_265 (rw_iconst (pc' := 266) rfl ?_)
                                refine wp_of e16 c16_266 (xp_I (pc' := 269) lf_2_41 w3942 g0 sh_4 (by decide) (by decide) ty_4_3 rfl rfl (by omega) (by omega) ⟨by omega, by omega⟩ rfl (fun H3977 e3978 w3979 => ?_))
                                have f3980 := f3946.put' e3978 g0 rfl
                                have k3981 : H3977 r0 3 = 5 := wq_u_s e3978
                                refine wp_of e16 c16_269 (rw_iinc (pc' := 272) (z := v3940) (L' := [(1, vI (v3940 + 1)), (3, vI ((v3940 - (H3941 r0 4)) - (v3442 - (H3443 r0 4)))), (2, vI (v3442 - (H3443 r0 4))), (0, .ref r0)]) rfl rfl rfl rfl ?_)
                                refine wp_of e16 c16_272 (rw_goto (p1 := 280) (by decide) ?_)
                                refine wp_of e16 c16_280 (rw_aload_n (pc' := 281) (v := .ref r0) rfl rfl rfl ?_)
                                refine wp_of e16 c16_281 (rw_iload_n (pc' := 282) (z := v3940 + 1) rfl rfl ?_)
                                refine wp_of e16 c16_282 (xp_I (pc' := 285) lf_2_23 w3979 g0 sh_4 (by decide) (by decide) ty_4_2 rfl rfl (by omega) (by omega) ⟨by omega, by omega⟩ rfl (fun H3982 e3983 w3984 => ?_))
                                have f3985 := f3980.put' e3983 g0 rfl
                                have k3986 : H3982 r0 2 = v3940 + 1 := wq_u_s e3983
                                exact wp_return e16 c16_285 rfl ⟨rfl, w3984, f3985, rfl⟩
                              · refine wp_of e16 c16_261 (rw_iconst (pc' := 262) rfl ?_)
                                refine wp_of e16 c16_262 (rw_goto (p1 := 266) (by decide) ?_)
                                refine wp_of e16 c16_266 (xp_I (pc' := 269) lf_2_41 w3942 g0 sh_4 (by decide) (by decide) ty_4_3 rfl rfl (by omega) (by omega) ⟨by omega, by omega⟩ rfl (fun H3987 e3988 w3989 => ?_))
                                have f3990 := f3946.put' e3988 g0 rfl
                                have k3991 : H3987 r0 3 = 4 := wq_u_s e3988
                                refine wp_of e16 c16_269 (rw_iinc (pc' := 272) (z := v3940) (L' := [(1, vI (v3940 + 1)), (3, vI ((v3940 - (H3941 r0 4)) - (v3442 - (H3443 r0 4)))), (2, vI (v3442 - (H3443 r0 4))), (0, .ref r0)]) rfl rfl rfl rfl ?_)
                                refine wp_of e16 c16_272 (rw_goto (p1 := 280) (by decide) ?_)
                                refine wp_of e16 c16_280 (rw_aload_n (pc' := 281) (v := .ref r0) rfl rfl rfl ?_)
                                refine wp_of e16 c16_281 (rw_iload_n (pc' := 282) (z := v3940 + 1) rfl rfl ?_)
                                refine wp_of e16 c16_282 (xp_I (pc' := 285) lf_2_23 w3989 g0 sh_4 (by decide) (by decide) ty_4_2 rfl rfl (by omega) (by omega) ⟨by omega, by omega⟩ rfl (fun H3992 e3993 w3994 => ?_))
                                have f3995 := f3990.put' e3993 g0 rfl
                                have k3996 : H3992 r0 2 = v3940 + 1 := wq_u_s e3993
                                exact wp_return e16 c16_285 rfl ⟨rfl, w3994, f3995, rfl⟩
                            · refine wp_of e16 c16_246 (rw_iconst (pc' := 247) rfl ?_)
                              refine wp_of e16 c16_247 (rw_goto (p1 := 266) (by decide) ?_)
                              refine wp_of e16 c16_266 (xp_I (pc' := 269) lf_2_41 w3942 g0 sh_4 (by decide) (by decide) ty_4_3 rfl rfl (by omega) (by omega) ⟨by omega, by omega⟩ rfl (fun H3997 e3998 w3999 => ?_))
                              have f4000 := f3946.put' e3998 g0 rfl
                              have k4001 : H3997 r0 3 = 3 := wq_u_s e3998
                              refine wp_of e16 c16_269 (rw_iinc (pc' := 272) (z := v3940) (L' := [(1, vI (v3940 + 1)), (3, vI ((v3940 - (H3941 r0 4)) - (v3442 - (H3443 r0 4)))), (2, vI (v3442 - (H3443 r0 4))), (0, .ref r0)]) rfl rfl rfl rfl ?_)
                              refine wp_of e16 c16_272 (rw_goto (p1 := 280) (by decide) ?_)
                              refine wp_of e16 c16_280 (rw_aload_n (pc' := 281) (v := .ref r0) rfl rfl rfl ?_)
                              refine wp_of e16 c16_281 (rw_iload_n (pc' := 282) (z := v3940 + 1) rfl rfl ?_)
                              refine wp_of e16 c16_282 (xp_I (pc' := 285) lf_2_23 w3999 g0 sh_4 (by decide) (by decide) ty_4_2 rfl rfl (by omega) (by omega) ⟨by omega, by omega⟩ rfl (fun H4002 e4003 w4004 => ?_))
                              have f4005 := f4000.put' e4003 g0 rfl
                              have k4006 : H4002 r0 2 = v3940 + 1 := wq_u_s e4003
                              exact wp_return e16 c16_285 rfl ⟨rfl, w4004, f4005, rfl⟩
                        · refine wp_of e16 c16_209 (rw_aload_n (pc' := 210) (v := .ref r0) rfl rfl rfl ?_)
                          refine wp_of e16 c16_210 (rw_iload_n (pc' := 211) (z := (v3940 - (H3941 r0 4)) - (v3442 - (H3443 r0 4))) rfl rfl ?_)
                          refine wp_of e16 c16_211 (rw_iconst (pc' := 212) rfl ?_)
                          refine wp_of e16 c16_212 (rw_icmp_gt (p1 := 219) (p2 := 215) (by decide) rfl ⟨by omega, by omega⟩ ⟨by omega, by omega⟩ (fun c4007 => ?_) (fun c4007 => ?_))
                          · refine wp_of e16 c16_219 (rw_iconst (pc' := 220) rfl ?_)
                            refine wp_of e16 c16_220 (xp_I (pc' := 223) lf_2_41 w3942 g0 sh_4 (by decide) (by decide) ty_4_3 rfl rfl (by omega) (by omega) ⟨by omega, by omega⟩ rfl (fun H4008 e4009 w4010 => ?_))
                            have f4011 := f3946.put' e4009 g0 rfl
                            have k4012 : H4008 r0 3 = 5 := wq_u_s e4009
                            refine wp_of e16 c16_223 (rw_goto (p1 := 280) (by decide) ?_)
                            refine wp_of e16 c16_280 (rw_aload_n (pc' := 281) (v := .ref r0) rfl rfl rfl ?_)
                            refine wp_of e16 c16_281 (rw_iload_n (pc' := 282) (z := v3940) rfl rfl ?_)
                            refine wp_of e16 c16_282 (xp_I (pc' := 285) lf_2_23 w4010 g0 sh_4 (by decide) (by decide) ty_4_2 rfl rfl (by omega) (by omega) ⟨by omega, by omega⟩ rfl (fun H4013 e4014 w4015 => ?_))
                            have f4016 := f4011.put' e4014 g0 rfl
                            have k4017 : H4013 r0 2 = v3940 := wq_u_s e4014
                            exact wp_return e16 c16_285 rfl ⟨rfl, w4015, f4016, rfl⟩
                          · refine wp_of e16 c16_215 (rw_iconst (pc' := 216) rfl ?_)
                            refine wp_of e16 c16_216 (rw_goto (p1 := 220) (by decide) ?_)
                            refine wp_of e16 c16_220 (xp_I (pc' := 223) lf_2_41 w3942 g0 sh_4 (by decide) (by decide) ty_4_3 rfl rfl (by omega) (by omega) ⟨by omega, by omega⟩ rfl (fun H4018 e4019 w4020 => ?_))
                            have f4021 := f3946.put' e4019 g0 rfl
                            have k4022 : H4018 r0 3 = 2 := wq_u_s e4019
                            refine wp_of e16 c16_223 (rw_goto (p1 := 280) (by decide) ?_)
                            refine wp_of e16 c16_280 (rw_aload_n (pc' := 281) (v := .ref r0) rfl rfl rfl ?_)
                            refine wp_of e16 c16_281 (rw_iload_n (pc' := 282) (z := v3940) rfl rfl ?_)
                            refine wp_of e16 c16_282 (xp_I (pc' := 285) lf_2_23 w4020 g0 sh_4 (by decide) (by decide) ty_4_2 rfl rfl (by omega) (by omega) ⟨by omega, by omega⟩ rfl (fun H4023 e4024 w4025 => ?_))
                            have f4026 := f4021.put' e4024 g0 rfl
                            have k4027 : H4023 r0 2 = v3940 := wq_u_s e4024
                            exact wp_return e16 c16_285 rfl ⟨rfl, w4025, f4026, rfl⟩
                      · refine wp_of e16 c16_187 (rw_aload_n (pc' := 188) (v := .ref r0) rfl rfl rfl ?_)
                        refine wp_of e16 c16_188 (rw_iload_n (pc' := 189) (z := v3442 - (H3443 r0 4)) rfl rfl ?_)
                        refine wp_of e16 c16_189 (rw_bipush (pc' := 191) (z := 8) rfl (by decide) ?_)
                        refine wp_of e16 c16_191 (rw_icmp_gt (p1 := 198) (p2 := 194) (by decide) rfl ⟨by omega, by omega⟩ ⟨by omega, by omega⟩ (fun c4028 => ?_) (fun c4028 => ?_))
                        · refine wp_of e16 c16_198 (rw_iconst (pc' := 199) rfl ?_)
                          refine wp_of e16 c16_199 (xp_I (pc' := 202) lf_2_41 w3942 g0 sh_4 (by decide) (by decide) ty_4_3 rfl rfl (by omega) (by omega) ⟨by omega, by omega⟩ rfl (fun H4029 e4030 w4031 => ?_))
                          have f4032 := f3946.put' e4030 g0 rfl
                          have k4033 : H4029 r0 3 = 5 := wq_u_s e4030
                          refine wp_of e16 c16_202 (rw_goto (p1 := 280) (by decide) ?_)
                          refine wp_of e16 c16_280 (rw_aload_n (pc' := 281) (v := .ref r0) rfl rfl rfl ?_)
                          refine wp_of e16 c16_281 (rw_iload_n (pc' := 282) (z := v3940) rfl rfl ?_)
                          refine wp_of e16 c16_282 (xp_I (pc' := 285) lf_2_23 w4031 g0 sh_4 (by decide) (by decide) ty_4_2 rfl rfl (by omega) (by omega) ⟨by omega, by omega⟩ rfl (fun H4034 e4035 w4036 => ?_))
                          have f4037 := f4032.put' e4035 g0 rfl
                          have k4038 : H4034 r0 2 = v3940 := wq_u_s e4035
                          exact wp_return e16 c16_285 rfl ⟨rfl, w4036, f4037, rfl⟩
                        · refine wp_of e16 c16_194 (rw_iconst (pc' := 195) rfl ?_)
                          refine wp_of e16 c16_195 (rw_goto (p1 := 199) (by decide) ?_)
                          refine wp_of e16 c16_199 (xp_I (pc' := 202) lf_2_41 w3942 g0 sh_4 (by decide) (by decide) ty_4_3 rfl rfl (by omega) (by omega) ⟨by omega, by omega⟩ rfl (fun H4039 e4040 w4041 => ?_))
                          have f4042 := f3946.put' e4040 g0 rfl
                          have k4043 : H4039 r0 3 = 1 := wq_u_s e4040
                          refine wp_of e16 c16_202 (rw_goto (p1 := 280) (by decide) ?_)
                          refine wp_of e16 c16_280 (rw_aload_n (pc' := 281) (v := .ref r0) rfl rfl rfl ?_)
                          refine wp_of e16 c16_281 (rw_iload_n (pc' := 282) (z := v3940) rfl rfl ?_)
                          refine wp_of e16 c16_282 (xp_I (pc' := 285) lf_2_23 w4041 g0 sh_4 (by decide) (by decide) ty_4_2 rfl rfl (by omega) (by omega) ⟨by omega, by omega⟩ rfl (fun H4044 e4045 w4046 => ?_))
                          have f4047 := f4042.put' e4045 g0 rfl
                          have k4048 : H4044 r0 2 = v3940 := wq_u_s e4045
                          exact wp_return e16 c16_285 rfl ⟨rfl, w4046, f4047, rfl⟩
                    · refine wp_of e16 c16_121 (rw_iload_n (pc' := 122) (z := v3442 - (H3443 r0 4)) rfl rfl ?_)
                      refine wp_of e16 c16_122 (rw_if_ne (p1 := 174) (p2 := 125) (by decide) rfl ⟨by omega, by omega⟩ (fun c4049 => ?_) (fun c4049 => ?_))
                      · refine wp_of e16 c16_174 (rw_iload_n (pc' := 175) (z := v3940) rfl rfl ?_)
                        refine wp_of e16 c16_175 (rw_aload_n (pc' := 176) (v := .ref r0) rfl rfl rfl ?_)
                        have k4050 : H3941 r0 4 = H3443 r0 4 := ((f3943 r0 4 _ g0 rfl).trans (wq_u_j e3884 rfl))
                        refine wp_of e16 c16_176 (xg_I (pc' := 179) lf_2_29 w3942 g0 sh_4 (by decide) (by decide) ty_4_4 rfl rfl (fun b4051 b4052 => ?_))
                        refine wp_of e16 c16_179 (rw_isub (pc' := 180) rfl ?_)
                        refine wp_of e16 c16_180 (rw_iload_n (pc' := 181) (z := v3442 - (H3443 r0 4)) rfl rfl ?_)
                        refine wp_of e16 c16_181 (rw_isub (pc' := 182) rfl ?_)
                        refine wp_of e16 c16_182 (rw_istore_n (pc' := 183) (z := (v3940 - (H3941 r0 4)) - (v3442 - (H3443 r0 4))) (L' := [(3, vI ((v3940 - (H3941 r0 4)) - (v3442 - (H3443 r0 4)))), (1, vI v3940), (2, vI (v3442 - (H3443 r0 4))), (0, .ref r0)]) rfl rfl rfl ?_)
                        refine wp_of e16 c16_183 (rw_iload_n (pc' := 184) (z := v3442 - (H3443 r0 4)) rfl rfl ?_)
                        refine wp_of e16 c16_184 (rw_if_le (p1 := 205) (p2 := 187) (by decide) rfl ⟨by omega, by omega⟩ (fun c4053 => ?_) (fun c4053 => ?_))
                        · refine wp_of e16 c16_205 (rw_iload_n (pc' := 206) (z := (v3940 - (H3941 r0 4)) - (v3442 - (H3443 r0 4))) rfl rfl ?_)
                          refine wp_of e16 c16_206 (rw_if_le (p1 := 226) (p2 := 209) (by decide) rfl ⟨by omega, by omega⟩ (fun c4054 => ?_) (fun c4054 => ?_))
                          · refine wp_of e16 c16_226 (rw_iload_n (pc' := 227) (z := v3940) rfl rfl ?_)
                            refine wp_of e16 c16_227 (rw_aload_n (pc' := 228) (v := .ref r0) rfl rfl rfl ?_)
                            refine wp_of e16 c16_228 (xg_I (pc' := 231) lf_2_19 w3942 g0 sh_4 (by decide) (by decide) ty_4_1 rfl rfl (fun b4055 b4056 => ?_))
                            refine wp_of e16 c16_231 (rw_icmp_ge (p1 := 275) (p2 := 234) (by decide) rfl ⟨by omega, by omega⟩ ⟨by omega, by omega⟩ (fun c4057 => ?_) (fun c4057 => ?_))
                            · refine wp_of e16 c16_275 (rw_aload_n (pc' := 276) (v := .ref r0) rfl rfl rfl ?_)
                              refine wp_of e16 c16_276 (rw_iconst (pc' := 277) rfl ?_)
                              refine wp_of e16 c16_277 (xp_I (pc' := 280) lf_2_41 w3942 g0 sh_4 (by decide) (by decide) ty_4_3 rfl rfl (by omega) (by omega) ⟨by omega, by omega⟩ rfl (fun H4058 e4059 w4060 => ?_))
                              have f4061 := f3946.put' e4059 g0 rfl
                              have k4062 : H4058 r0 3 = 0 := wq_u_s e4059
                              refine wp_of e16 c16_280 (rw_aload_n (pc' := 281) (v := .ref r0) rfl rfl rfl ?_)
                              refine wp_of e16 c16_281 (rw_iload_n (pc' := 282) (z := v3940) rfl rfl ?_)
                              refine wp_of e16 c16_282 (xp_I (pc' := 285) lf_2_23 w4060 g0 sh_4 (by decide) (by decide) ty_4_2 rfl rfl (by omega) (by omega) ⟨by omega, by omega⟩ rfl (fun H4063 e4064 w4065 => ?_))
                              have f4066 := f4061.put' e4064 g0 rfl
                              have k4067 : H4063 r0 2 = v3940 := wq_u_s e4064
                              exact wp_return e16 c16_285 rfl ⟨rfl, w4065, f4066, rfl⟩
                            · refine wp_of e16 c16_234 (rw_aload_n (pc' := 235) (v := .ref r0) rfl rfl rfl ?_)
                              refine wp_of e16 c16_235 (rw_aload_n (pc' := 236) (v := .ref r0) rfl rfl rfl ?_)
                              have k4068 : H3941 r0 0 = H3443 r0 0 := ((f3943 r0 0 _ g0 rfl).trans (wq_u_j e3884 rfl))
                              have q4069 : H3941 r0 0 = (rb : Int) := k4068.trans q3876
                              refine wp_of e16 c16_236 (xg_K (pc' := 239) lf_2_7 w3942 g0 sh_4 (by decide) (by decide) rfl q4069 rfl ?_)
                              refine wp_of e16 c16_239 (rw_iload_n (pc' := 240) (z := v3940) rfl rfl ?_)
                              refine wp_of e16 c16_240 (xa_B (by decide) (pc' := 241) w3942 grb sh_2 (by decide) (ty_2 _) (by omega) (by omega) rfl (fun b4070 b4071 => ?_))
                              refine wp_of e16 c16_241 (rw_bipush (pc' := 243) (z := 59) rfl (by decide) ?_)
                              refine wp_of e16 c16_243 (rw_icmp_ne (p1 := 250) (p2 := 246) (by decide) rfl ⟨by omega, by omega⟩ ⟨by omega, by omega⟩ (fun c4072 => ?_) (fun c4072 => ?_))
                              · refine wp_of e16 c16_250 (rw_aload_n (pc' := 251) (v := .ref r0) rfl rfl rfl ?_)
                                refine wp_of e16 c16_251 (xg_K (pc' := 254) lf_2_7 w3942 g0 sh_4 (by decide) (by decide) rfl q4069 rfl ?_)
                                refine wp_of e16 c16_254 (rw_iload_n (pc' := 255) (z := v3940) rfl rfl ?_)
                                refine wp_of e16 c16_255 (xa_B (by decide) (pc' := 256) w3942 grb sh_2 (by decide) (ty_2 _) (by omega) (by omega) rfl (fun b4073 b4074 => ?_))
                                refine wp_of e16 c16_256 (rw_bipush (pc' := 258) (z := 44) rfl (by decide) ?_)
                                refine wp_of e16 c16_258 (rw_icmp_ne (p1 := 265) (p2 := 261) (by decide) rfl ⟨by omega, by omega⟩ ⟨by omega, by omega⟩ (fun c4075 => ?_) (fun c4075 => ?_))
                                · refine wp_of e16 c16_265 (rw_iconst (pc' := 266) rfl ?_)
                                  refine wp_of e16 c16_266 (xp_I (pc' := 269) lf_2_41 w3942 g0 sh_4 (by decide) (by decide) ty_4_3 rfl rfl (by omega) (by omega) ⟨by omega, by omega⟩ rfl (fun H4076 e4077 w4078 => ?_))
                                  have f4079 := f3946.put' e4077 g0 rfl
                                  have k4080 : H4076 r0 3 = 5 := wq_u_s e4077
                                  refine wp_of e16 c16_269 (rw_iinc (pc' := 272) (z := v3940) (L' := [(1, vI (v3940 + 1)), (3, vI ((v3940 - (H3941 r0 4)) - (v3442 - (H3443 r0 4)))), (2, vI (v3442 - (H3443 r0 4))), (0, .ref r0)]) rfl rfl rfl rfl ?_)
                                  refine wp_of e16 c16_272 (rw_goto (p1 := 280) (by decide) ?_)
                                  refine wp_of e16 c16_280 (rw_aload_n (pc' := 281) (v := .ref r0) rfl rfl rfl ?_)
                                  refine wp_of e16 c16_281 (rw_iload_n (pc' := 282) (z := v3940 + 1) rfl rfl ?_)
                                  refine wp_of e16 c16_282 (xp_I (pc' := 285) lf_2_23 w4078 g0 sh_4 (by decide) (by decide) ty_4_2 rfl rfl (by omega) (by omega) ⟨by omega, by omega⟩ rfl (fun H4081 e4082 w4083 => ?_))
                                  have f4084 := f4079.put' e4082 g0 rfl
                                  have k4085 : H4081 r0 2 = v3940 + 1 := wq_u_s e4082
                                  exact wp_return e16 c16_285 rfl ⟨rfl, w4083, f4084, rfl⟩
                                · refine wp_of e16 c16_261 (rw_iconst (pc' := 262) rfl ?_)
                                  refine wp_of e16 c16_262 (rw_goto (p1 := 266) (by decide) ?_)
                                  refine wp_of e16 c16_266 (xp_I (pc' := 269) lf_2_41 w3942 g0 sh_4 (by decide) (by decide) ty_4_3 rfl rfl (by omega) (by omega) ⟨by omega, by omega⟩ rfl (fun H4086 e4087 w4088 => ?_))
                                  have f4089 := f3946.put' e4087 g0 rfl
                                  have k4090 : H4086 r0 3 = 4 := wq_u_s e4087
                                  refine wp_of e16 c16_269 (rw_iinc (pc' := 272) (z := v3940) (L' := [(1, vI (v3940 + 1)), (3, vI ((v3940 - (H3941 r0 4)) - (v3442 - (H3443 r0 4)))), (2, vI (v3442 - (H3443 r0 4))), (0, .ref r0)]) rfl rfl rfl rfl ?_)
                                  refine wp_of e16 c16_272 (rw_goto (p1 := 280) (by decide) ?_)
                                  refine wp_of e16 c16_280 (rw_aload_n (pc' := 281) (v := .ref r0) rfl rfl rfl ?_)
                                  refine wp_of e16 c16_281 (rw_iload_n (pc' := 282) (z := v3940 + 1) rfl rfl ?_)
                                  refine wp_of e16 c16_282 (xp_I (pc' := 285) lf_2_23 w4088 g0 sh_4 (by decide) (by decide) ty_4_2 rfl rfl (by omega) (by omega) ⟨by omega, by omega⟩ rfl (fun H4091 e4092 w4093 => ?_))
                                  have f4094 := f4089.put' e4092 g0 rfl
                                  have k4095 : H4091 r0 2 = v3940 + 1 := wq_u_s e4092
                                  exact wp_return e16 c16_285 rfl ⟨rfl, w4093, f4094, rfl⟩
                              · refine wp_of e16 c16_246 (rw_iconst (pc' := 247) rfl ?_)
                                refine wp_of e16 c16_247 (rw_goto (p1 := 266) (by decide) ?_)
                                refine wp_of e16 c16_266 (xp_I (pc' := 269) lf_2_41 w3942 g0 sh_4 (by decide) (by decide) ty_4_3 rfl rfl (by omega) (by omega) ⟨by omega, by omega⟩ rfl (fun H4096 e4097 w4098 => ?_))
                                have f4099 := f3946.put' e4097 g0 rfl
                                have k4100 : H4096 r0 3 = 3 := wq_u_s e4097
                                refine wp_of e16 c16_269 (rw_iinc (pc' := 272) (z := v3940) (L' := [(1, vI (v3940 + 1)), (3, vI ((v3940 - (H3941 r0 4)) - (v3442 - (H3443 r0 4)))), (2, vI (v3442 - (H3443 r0 4))), (0, .ref r0)]) rfl rfl rfl rfl ?_)
                                refine wp_of e16 c16_272 (rw_goto (p1 := 280) (by decide) ?_)
                                refine wp_of e16 c16_280 (rw_aload_n (pc' := 281) (v := .ref r0) rfl rfl rfl ?_)
                                refine wp_of e16 c16_281 (rw_iload_n (pc' := 282) (z := v3940 + 1) rfl rfl ?_)
                                refine wp_of e16 c16_282 (xp_I (pc' := 285) lf_2_23 w4098 g0 sh_4 (by decide) (by decide) ty_4_2 rfl rfl (by omega) (by omega) ⟨by omega, by omega⟩ rfl (fun H4101 e4102 w4103 => ?_))
                                have f4104 := f4099.put' e4102 g0 rfl
                                have k4105 : H4101 r0 2 = v3940 + 1 := wq_u_s e4102
                                exact wp_return e16 c16_285 rfl ⟨rfl, w4103, f4104, rfl⟩
                          · refine wp_of e16 c16_209 (rw_aload_n (pc' := 210) (v := .ref r0) rfl rfl rfl ?_)
                            refine wp_of e16 c16_210 (rw_iload_n (pc' := 211) (z := (v3940 - (H3941 r0 4)) - (v3442 - (H3443 r0 4))) rfl rfl ?_)
                            refine wp_of e16 c16_211 (rw_iconst (pc' := 212) rfl ?_)
                            refine wp_of e16 c16_212 (rw_icmp_gt (p1 := 219) (p2 := 215) (by decide) rfl ⟨by omega, by omega⟩ ⟨by omega, by omega⟩ (fun c4106 => ?_) (fun c4106 => ?_))
                            · refine wp_of e16 c16_219 (rw_iconst (pc' := 220) rfl ?_)
                              refine wp_of e16 c16_220 (xp_I (pc' := 223) lf_2_41 w3942 g0 sh_4 (by decide) (by decide) ty_4_3 rfl rfl (by omega) (by omega) ⟨by omega, by omega⟩ rfl (fun H4107 e4108 w4109 => ?_))
                              have f4110 := f3946.put' e4108 g0 rfl
                              have k4111 : H4107 r0 3 = 5 := wq_u_s e4108
                              refine wp_of e16 c16_223 (rw_goto (p1 := 280) (by decide) ?_)
                              refine wp_of e16 c16_280 (rw_aload_n (pc' := 281) (v := .ref r0) rfl rfl rfl ?_)
                              refine wp_of e16 c16_281 (rw_iload_n (pc' := 282) (z := v3940) rfl rfl ?_)
                              refine wp_of e16 c16_282 (xp_I (pc' := 285) lf_2_23 w4109 g0 sh_4 (by decide) (by decide) ty_4_2 rfl rfl (by omega) (by omega) ⟨by omega, by omega⟩ rfl (fun H4112 e4113 w4114 => ?_))
                              have f4115 := f4110.put' e4113 g0 rfl
                              have k4116 : H4112 r0 2 = v3940 := wq_u_s e4113
                              exact wp_return e16 c16_285 rfl ⟨rfl, w4114, f4115, rfl⟩
                            · refine wp_of e16 c16_215 (rw_iconst (pc' := 216) rfl ?_)
                              refine wp_of e16 c16_216 (rw_goto (p1 := 220) (by decide) ?_)
                              refine wp_of e16 c16_220 (xp_I (pc' := 223) lf_2_41 w3942 g0 sh_4 (by decide) (by decide) ty_4_3 rfl rfl (by omega) (by omega) ⟨by omega, by omega⟩ rfl (fun H4117 e4118 w4119 => ?_))
                              have f4120 := f3946.put' e4118 g0 rfl
                              have k4121 : H4117 r0 3 = 2 := wq_u_s e4118
                              refine wp_of e16 c16_223 (rw_goto (p1 := 280) (by decide) ?_)
                              refine wp_of e16 c16_280 (rw_aload_n (pc' := 281) (v := .ref r0) rfl rfl rfl ?_)
                              refine wp_of e16 c16_281 (rw_iload_n (pc' := 282) (z := v3940) rfl rfl ?_)
                              refine wp_of e16 c16_282 (xp_I (pc' := 285) lf_2_23 w4119 g0 sh_4 (by decide) (by decide) ty_4_2 rfl rfl (by omega) (by omega) ⟨by omega, by omega⟩ rfl (fun H4122 e4123 w4124 => ?_))
                              have f4125 := f4120.put' e4123 g0 rfl
                              have k4126 : H4122 r0 2 = v3940 := wq_u_s e4123
                              exact wp_return e16 c16_285 rfl ⟨rfl, w4124, f4125, rfl⟩
                        · refine wp_of e16 c16_187 (rw_aload_n (pc' := 188) (v := .ref r0) rfl rfl rfl ?_)
                          refine wp_of e16 c16_188 (rw_iload_n (pc' := 189) (z := v3442 - (H3443 r0 4)) rfl rfl ?_)
                          refine wp_of e16 c16_189 (rw_bipush (pc' := 191) (z := 8) rfl (by decide) ?_)
                          refine wp_of e16 c16_191 (rw_icmp_gt (p1 := 198) (p2 := 194) (by decide) rfl ⟨by omega, by omega⟩ ⟨by omega, by omega⟩ (fun c4127 => ?_) (fun c4127 => ?_))
                          · refine wp_of e16 c16_198 (rw_iconst (pc' := 199) rfl ?_)
                            refine wp_of e16 c16_199 (xp_I (pc' := 202) lf_2_41 w3942 g0 sh_4 (by decide) (by decide) ty_4_3 rfl rfl (by omega) (by omega) ⟨by omega, by omega⟩ rfl (fun H4128 e4129 w4130 => ?_))
                            have f4131 := f3946.put' e4129 g0 rfl
                            have k4132 : H4128 r0 3 = 5 := wq_u_s e4129
                            refine wp_of e16 c16_202 (rw_goto (p1 := 280) (by decide) ?_)
                            refine wp_of e16 c16_280 (rw_aload_n (pc' := 281) (v := .ref r0) rfl rfl rfl ?_)
                            refine wp_of e16 c16_281 (rw_iload_n (pc' := 282) (z := v3940) rfl rfl ?_)
                            refine wp_of e16 c16_282 (xp_I (pc' := 285) lf_2_23 w4130 g0 sh_4 (by decide) (by decide) ty_4_2 rfl rfl (by omega) (by omega) ⟨by omega, by omega⟩ rfl (fun H4133 e4134 w4135 => ?_))
                            have f4136 := f4131.put' e4134 g0 rfl
                            have k4137 : H4133 r0 2 = v3940 := wq_u_s e4134
                            exact wp_return e16 c16_285 rfl ⟨rfl, w4135, f4136, rfl⟩
                          · refine wp_of e16 c16_194 (rw_iconst (pc' := 195) rfl ?_)
                            refine wp_of e16 c16_195 (rw_goto (p1 := 199) (by decide) ?_)
                            refine wp_of e16 c16_199 (xp_I (pc' := 202) lf_2_41 w3942 g0 sh_4 (by decide) (by decide) ty_4_3 rfl rfl (by omega) (by omega) ⟨by omega, by omega⟩ rfl (fun H4138 e4139 w4140 => ?_))
                            have f4141 := f3946.put' e4139 g0 rfl
                            have k4142 : H4138 r0 3 = 1 := wq_u_s e4139
                            refine wp_of e16 c16_202 (rw_goto (p1 := 280) (by decide) ?_)
                            refine wp_of e16 c16_280 (rw_aload_n (pc' := 281) (v := .ref r0) rfl rfl rfl ?_)
                            refine wp_of e16 c16_281 (rw_iload_n (pc' := 282) (z := v3940) rfl rfl ?_)
                            refine wp_of e16 c16_282 (xp_I (pc' := 285) lf_2_23 w4140 g0 sh_4 (by decide) (by decide) ty_4_2 rfl rfl (by omega) (by omega) ⟨by omega, by omega⟩ rfl (fun H4143 e4144 w4145 => ?_))
                            have f4146 := f4141.put' e4144 g0 rfl
                            have k4147 : H4143 r0 2 = v3940 := wq_u_s e4144
                            exact wp_return e16 c16_285 rfl ⟨rfl, w4145, f4146, rfl⟩
                      · refine wp_of e16 c16_125 (rw_aload_n (pc' := 126) (v := .ref r0) rfl rfl rfl ?_)
                        have k4148 : H3941 r0 0 = H3443 r0 0 := ((f3943 r0 0 _ g0 rfl).trans (wq_u_j e3884 rfl))
                        have q4149 : H3941 r0 0 = (rb : Int) := k4148.trans q3876
                        refine wp_of e16 c16_126 (xg_K (pc' := 129) lf_2_7 w3942 g0 sh_4 (by decide) (by decide) rfl q4149 rfl ?_)
                        refine wp_of e16 c16_129 (rw_iload_n (pc' := 130) (z := v3940) rfl rfl ?_)
                        refine wp_of e16 c16_130 (xa_B (by decide) (pc' := 131) w3942 grb sh_2 (by decide) (ty_2 _) (by omega) (by omega) rfl (fun b4150 b4151 => ?_))
                        refine wp_of e16 c16_131 (rw_bipush (pc' := 133) (z := 48) rfl (by decide) ?_)
                        refine wp_of e16 c16_133 (rw_icmp_lt (p1 := 174) (p2 := 136) (by decide) rfl ⟨by omega, by omega⟩ ⟨by omega, by omega⟩ (fun c4152 => ?_) (fun c4152 => ?_))
                        · refine wp_of e16 c16_174 (rw_iload_n (pc' := 175) (z := v3940) rfl rfl ?_)
                          refine wp_of e16 c16_175 (rw_aload_n (pc' := 176) (v := .ref r0) rfl rfl rfl ?_)
                          have k4153 : H3941 r0 4 = H3443 r0 4 := ((f3943 r0 4 _ g0 rfl).trans (wq_u_j e3884 rfl))
                          refine wp_of e16 c16_176 (xg_I (pc' := 179) lf_2_29 w3942 g0 sh_4 (by decide) (by decide) ty_4_4 rfl rfl (fun b4154 b4155 => ?_))
                          refine wp_of e16 c16_179 (rw_isub (pc' := 180) rfl ?_)
                          refine wp_of e16 c16_180 (rw_iload_n (pc' := 181) (z := v3442 - (H3443 r0 4)) rfl rfl ?_)
                          refine wp_of e16 c16_181 (rw_isub (pc' := 182) rfl ?_)
                          refine wp_of e16 c16_182 (rw_istore_n (pc' := 183) (z := (v3940 - (H3941 r0 4)) - (v3442 - (H3443 r0 4))) (L' := [(3, vI ((v3940 - (H3941 r0 4)) - (v3442 - (H3443 r0 4)))), (1, vI v3940), (2, vI (v3442 - (H3443 r0 4))), (0, .ref r0)]) rfl rfl rfl ?_)
                          refine wp_of e16 c16_183 (rw_iload_n (pc' := 184) (z := v3442 - (H3443 r0 4)) rfl rfl ?_)
                          refine wp_of e16 c16_184 (rw_if_le (p1 := 205) (p2 := 187) (by decide) rfl ⟨by omega, by omega⟩ (fun c4156 => ?_) (fun c4156 => ?_))
                          · refine wp_of e16 c16_205 (rw_iload_n (pc' := 206) (z := (v3940 - (H3941 r0 4)) - (v3442 - (H3443 r0 4))) rfl rfl ?_)
                            refine wp_of e16 c16_206 (rw_if_le (p1 := 226) (p2 := 209) (by decide) rfl ⟨by omega, by omega⟩ (fun c4157 => ?_) (fun c4157 => ?_))
                            · refine wp_of e16 c16_226 (rw_iload_n (pc' := 227) (z := v3940) rfl rfl ?_)
                              refine wp_of e16 c16_227 (rw_aload_n (pc' := 228) (v := .ref r0) rfl rfl rfl ?_)
                              refine wp_of e16 c16_228 (xg_I (pc' := 231) lf_2_19 w3942 g0 sh_4 (by decide) (by decide) ty_4_1 rfl rfl (fun b4158 b4159 => ?_))
                              refine wp_of e16 c16_231 (rw_icmp_ge (p1 := 275) (p2 := 234) (by decide) rfl ⟨by omega, by omega⟩ ⟨by omega, by omega⟩ (fun c4160 => ?_) (fun c4160 => ?_))
                              · refine wp_of e16 c16_275 (rw_aload_n (pc' := 276) (v := .ref r0) rfl rfl rfl ?_)
                                refine wp_of e16 c16_276 (rw_iconst (pc' := 277) rfl ?_)
                                refine wp_of e16 c16_277 (xp_I (pc' := 280) lf_2_41 w3942 g0 sh_4 (by decide) (by decide) ty_4_3 rfl rfl (by omega) (by omega) ⟨by omega, by omega⟩ rfl (fun H4161 e4162 w4163 => ?_))
                                have f4164 := f3946.put' e4162 g0 rfl
                                have k4165 : H4161 r0 3 = 0 := wq_u_s e4162
                                refine wp_of e16 c16_280 (rw_aload_n (pc' := 281) (v := .ref r0) rfl rfl rfl ?_)
                                refine wp_of e16 c16_281 (rw_iload_n (pc' := 282) (z := v3940) rfl rfl ?_)
                                refine wp_of e16 c16_282 (xp_I (pc' := 285) lf_2_23 w4163 g0 sh_4 (by decide) (by decide) ty_4_2 rfl rfl (by omega) (by omega) ⟨by omega, by omega⟩ rfl (fun H4166 e4167 w4168 => ?_))
                                have f4169 := f4164.put' e4167 g0 rfl
                                have k4170 : H4166 r0 2 = v3940 := wq_u_s e4167
                                exact wp_return e16 c16_285 rfl ⟨rfl, w4168, f4169, rfl⟩
                              · refine wp_of e16 c16_234 (rw_aload_n (pc' := 235) (v := .ref r0) rfl rfl rfl ?_)
                                refine wp_of e16 c16_235 (rw_aload_n (pc' := 236) (v := .ref r0) rfl rfl rfl ?_)
                                refine wp_of e16 c16_236 (xg_K (pc' := 239) lf_2_7 w3942 g0 sh_4 (by decide) (by decide) rfl q4149 rfl ?_)
                                refine wp_of e16 c16_239 (rw_iload_n (pc' := 240) (z := v3940) rfl rfl ?_)
                                refine wp_of e16 c16_240 (xa_B (by decide) (pc' := 241) w3942 grb sh_2 (by decide) (ty_2 _) (by omega) (by omega) rfl (fun b4171 b4172 => ?_))
                                refine wp_of e16 c16_241 (rw_bipush (pc' := 243) (z := 59) rfl (by decide) ?_)
                                refine wp_of e16 c16_243 (rw_icmp_ne (p1 := 250) (p2 := 246) (by decide) rfl ⟨by omega, by omega⟩ ⟨by omega, by omega⟩ (fun c4173 => ?_) (fun c4173 => ?_))
                                · refine wp_of e16 c16_250 (rw_aload_n (pc' := 251) (v := .ref r0) rfl rfl rfl ?_)
                                  refine wp_of e16 c16_251 (xg_K (pc' := 254) lf_2_7 w3942 g0 sh_4 (by decide) (by decide) rfl q4149 rfl ?_)
                                  refine wp_of e16 c16_254 (rw_iload_n (pc' := 255) (z := v3940) rfl rfl ?_)
                                  refine wp_of e16 c16_255 (xa_B (by decide) (pc' := 256) w3942 grb sh_2 (by decide) (ty_2 _) (by omega) (by omega) rfl (fun b4174 b4175 => ?_))
                                  refine wp_of e16 c16_256 (rw_bipush (pc' := 258) (z := 44) rfl (by decide) ?_)
                                  refine wp_of e16 c16_258 (rw_icmp_ne (p1 := 265) (p2 := 261) (by decide) rfl ⟨by omega, by omega⟩ ⟨by omega, by omega⟩ (fun c4176 => ?_) (fun c4176 => ?_))
                                  · refine wp_of e16 c16_265 (rw_iconst (pc' := 266) rfl ?_)
                                    refine wp_of e16 c16_266 (xp_I (pc' := 269) lf_2_41 w3942 g0 sh_4 (by decide) (by decide) ty_4_3 rfl rfl (by omega) (by omega) ⟨by omega, by omega⟩ rfl (fun H4177 e4178 w4179 => ?_))
                                    have f4180 := f3946.put' e4178 g0 rfl
                                    have k4181 : H4177 r0 3 = 5 := wq_u_s e4178
                                    refine wp_of e16 c16_269 (rw_iinc (pc' := 272) (z := v3940) (L' := [(1, vI (v3940 + 1)), (3, vI ((v3940 - (H3941 r0 4)) - (v3442 - (H3443 r0 4)))), (2, vI (v3442 - (H3443 r0 4))), (0, .ref r0)]) rfl rfl rfl rfl ?_)
                                    refine wp_of e16 c16_272 (rw_goto (p1 := 280) (by decide) ?_)
                                    refine wp_of e16 c16_280 (rw_aload_n (pc' := 281) (v := .ref r0) rfl rfl rfl ?_)
                                    refine wp_of e16 c16_281 (rw_iload_n (pc' := 282) (z := v3940 + 1) rfl rfl ?_)
                                    refine wp_of e16 c16_282 (xp_I (pc' := 285) lf_2_23 w4179 g0 sh_4 (by decide) (by decide) ty_4_2 rfl rfl (by omega) (by omega) ⟨by omega, by omega⟩ rfl (fun H4182 e4183 w4184 => ?_))
                                    have f4185 := f4180.put' e4183 g0 rfl
                                    have k4186 : H4182 r0 2 = v3940 + 1 := wq_u_s e4183
                                    exact wp_return e16 c16_285 rfl ⟨rfl, w4184, f4185, rfl⟩
                                  · refine wp_of e16 c16_261 (rw_iconst (pc' := 262) rfl ?_)
                                    refine wp_of e16 c16_262 (rw_goto (p1 := 266) (by decide) ?_)
                                    refine wp_of e16 c16_266 (xp_I (pc' := 269) lf_2_41 w3942 g0 sh_4 (by decide) (by decide) ty_4_3 rfl rfl (by omega) (by omega) ⟨by omega, by omega⟩ rfl (fun H4187 e4188 w4189 => ?_))
                                    have f4190 := f3946.put' e4188 g0 rfl
                                    have k4191 : H4187 r0 3 = 4 := wq_u_s e4188
                                    refine wp_of e16 c16_269 (rw_iinc (pc' := 272) (z := v3940) (L' := [(1, vI (v3940 + 1)), (3, vI ((v3940 - (H3941 r0 4)) - (v3442 - (H3443 r0 4)))), (2, vI (v3442 - (H3443 r0 4))), (0, .ref r0)]) rfl rfl rfl rfl ?_)
                                    refine wp_of e16 c16_272 (rw_goto (p1 := 280) (by decide) ?_)
                                    refine wp_of e16 c16_280 (rw_aload_n (pc' := 281) (v := .ref r0) rfl rfl rfl ?_)
                                    refine wp_of e16 c16_281 (rw_iload_n (pc' := 282) (z := v3940 + 1) rfl rfl ?_)
                                    refine wp_of e16 c16_282 (xp_I (pc' := 285) lf_2_23 w4189 g0 sh_4 (by decide) (by decide) ty_4_2 rfl rfl (by omega) (by omega) ⟨by omega, by omega⟩ rfl (fun H4192 e4193 w4194 => ?_))
                                    have f4195 := f4190.put' e4193 g0 rfl
                                    have k4196 : H4192 r0 2 = v3940 + 1 := wq_u_s e4193
                                    exact wp_return e16 c16_285 rfl ⟨rfl, w4194, f4195, rfl⟩
                                · exfalso
                                  omega
                            · refine wp_of e16 c16_209 (rw_aload_n (pc' := 210) (v := .ref r0) rfl rfl rfl ?_)
                              refine wp_of e16 c16_210 (rw_iload_n (pc' := 211) (z := (v3940 - (H3941 r0 4)) - (v3442 - (H3443 r0 4))) rfl rfl ?_)
                              refine wp_of e16 c16_211 (rw_iconst (pc' := 212) rfl ?_)
                              refine wp_of e16 c16_212 (rw_icmp_gt (p1 := 219) (p2 := 215) (by decide) rfl ⟨by omega, by omega⟩ ⟨by omega, by omega⟩ (fun c4197 => ?_) (fun c4197 => ?_))
                              · refine wp_of e16 c16_219 (rw_iconst (pc' := 220) rfl ?_)
                                refine wp_of e16 c16_220 (xp_I (pc' := 223) lf_2_41 w3942 g0 sh_4 (by decide) (by decide) ty_4_3 rfl rfl (by omega) (by omega) ⟨by omega, by omega⟩ rfl (fun H4198 e4199 w4200 => ?_))
                                have f4201 := f3946.put' e4199 g0 rfl
                                have k4202 : H4198 r0 3 = 5 := wq_u_s e4199
                                refine wp_of e16 c16_223 (rw_goto (p1 := 280) (by decide) ?_)
                                refine wp_of e16 c16_280 (rw_aload_n (pc' := 281) (v := .ref r0) rfl rfl rfl ?_)
                                refine wp_of e16 c16_281 (rw_iload_n (pc' := 282) (z := v3940) rfl rfl ?_)
                                refine wp_of e16 c16_282 (xp_I (pc' := 285) lf_2_23 w4200 g0 sh_4 (by decide) (by decide) ty_4_2 rfl rfl (by omega) (by omega) ⟨by omega, by omega⟩ rfl (fun H4203 e4204 w4205 => ?_))
                                have f4206 := f4201.put' e4204 g0 rfl
                                have k4207 : H4203 r0 2 = v3940 := wq_u_s e4204
                                exact wp_return e16 c16_285 rfl ⟨rfl, w4205, f4206, rfl⟩
                              · refine wp_of e16 c16_215 (rw_iconst (pc' := 216) rfl ?_)
                                refine wp_of e16 c16_216 (rw_goto (p1 := 220) (by decide) ?_)
                                refine wp_of e16 c16_220 (xp_I (pc' := 223) lf_2_41 w3942 g0 sh_4 (by decide) (by decide) ty_4_3 rfl rfl (by omega) (by omega) ⟨by omega, by omega⟩ rfl (fun H4208 e4209 w4210 => ?_))
                                have f4211 := f3946.put' e4209 g0 rfl
                                have k4212 : H4208 r0 3 = 2 := wq_u_s e4209
                                refine wp_of e16 c16_223 (rw_goto (p1 := 280) (by decide) ?_)
                                refine wp_of e16 c16_280 (rw_aload_n (pc' := 281) (v := .ref r0) rfl rfl rfl ?_)
                                refine wp_of e16 c16_281 (rw_iload_n (pc' := 282) (z := v3940) rfl rfl ?_)
                                refine wp_of e16 c16_282 (xp_I (pc' := 285) lf_2_23 w4210 g0 sh_4 (by decide) (by decide) ty_4_2 rfl rfl (by omega) (by omega) ⟨by omega, by omega⟩ rfl (fun H4213 e4214 w4215 => ?_))
                                have f4216 := f4211.put' e4214 g0 rfl
                                have k4217 : H4213 r0 2 = v3940 := wq_u_s e4214
                                exact wp_return e16 c16_285 rfl ⟨rfl, w4215, f4216, rfl⟩
                          · exfalso
                            omega
                        · refine wp_of e16 c16_136 (rw_aload_n (pc' := 137) (v := .ref r0) rfl rfl rfl ?_)
                          refine wp_of e16 c16_137 (xg_K (pc' := 140) lf_2_7 w3942 g0 sh_4 (by decide) (by decide) rfl q4149 rfl ?_)
                          refine wp_of e16 c16_140 (rw_iload_n (pc' := 141) (z := v3940) rfl rfl ?_)
                          refine wp_of e16 c16_141 (xa_B (by decide) (pc' := 142) w3942 grb sh_2 (by decide) (ty_2 _) (by omega) (by omega) rfl (fun b4218 b4219 => ?_))
                          refine wp_of e16 c16_142 (rw_bipush (pc' := 144) (z := 57) rfl (by decide) ?_)
                          refine wp_of e16 c16_144 (rw_icmp_gt (p1 := 174) (p2 := 147) (by decide) rfl ⟨by omega, by omega⟩ ⟨by omega, by omega⟩ (fun c4220 => ?_) (fun c4220 => ?_))
                          · refine wp_of e16 c16_174 (rw_iload_n (pc' := 175) (z := v3940) rfl rfl ?_)
                            refine wp_of e16 c16_175 (rw_aload_n (pc' := 176) (v := .ref r0) rfl rfl rfl ?_)
                            have k4221 : H3941 r0 4 = H3443 r0 4 := ((f3943 r0 4 _ g0 rfl).trans (wq_u_j e3884 rfl))
                            refine wp_of e16 c16_176 (xg_I (pc' := 179) lf_2_29 w3942 g0 sh_4 (by decide) (by decide) ty_4_4 rfl rfl (fun b4222 b4223 => ?_))
                            refine wp_of e16 c16_179 (rw_isub (pc' := 180) rfl ?_)
                            refine wp_of e16 c16_180 (rw_iload_n (pc' := 181) (z := v3442 - (H3443 r0 4)) rfl rfl ?_)
                            refine wp_of e16 c16_181 (rw_isub (pc' := 182) rfl ?_)
                            refine wp_of e16 c16_182 (rw_istore_n (pc' := 183) (z := (v3940 - (H3941 r0 4)) - (v3442 - (H3443 r0 4))) (L' := [(3, vI ((v3940 - (H3941 r0 4)) - (v3442 - (H3443 r0 4)))), (1, vI v3940), (2, vI (v3442 - (H3443 r0 4))), (0, .ref r0)]) rfl rfl rfl ?_)
                            refine wp_of e16 c16_183 (rw_iload_n (pc' := 184) (z := v3442 - (H3443 r0 4)) rfl rfl ?_)
                            refine wp_of e16 c16_184 (rw_if_le (p1 := 205) (p2 := 187) (by decide) rfl ⟨by omega, by omega⟩ (fun c4224 => ?_) (fun c4224 => ?_))
                            · refine wp_of e16 c16_205 (rw_iload_n (pc' := 206) (z := (v3940 - (H3941 r0 4)) - (v3442 - (H3443 r0 4))) rfl rfl ?_)
                              refine wp_of e16 c16_206 (rw_if_le (p1 := 226) (p2 := 209) (by decide) rfl ⟨by omega, by omega⟩ (fun c4225 => ?_) (fun c4225 => ?_))
                              · refine wp_of e16 c16_226 (rw_iload_n (pc' := 227) (z := v3940) rfl rfl ?_)
                                refine wp_of e16 c16_227 (rw_aload_n (pc' := 228) (v := .ref r0) rfl rfl rfl ?_)
                                refine wp_of e16 c16_228 (xg_I (pc' := 231) lf_2_19 w3942 g0 sh_4 (by decide) (by decide) ty_4_1 rfl rfl (fun b4226 b4227 => ?_))
                                refine wp_of e16 c16_231 (rw_icmp_ge (p1 := 275) (p2 := 234) (by decide) rfl ⟨by omega, by omega⟩ ⟨by omega, by omega⟩ (fun c4228 => ?_) (fun c4228 => ?_))
                                · refine wp_of e16 c16_275 (rw_aload_n (pc' := 276) (v := .ref r0) rfl rfl rfl ?_)
                                  refine wp_of e16 c16_276 (rw_iconst (pc' := 277) rfl ?_)
                                  refine wp_of e16 c16_277 (xp_I (pc' := 280) lf_2_41 w3942 g0 sh_4 (by decide) (by decide) ty_4_3 rfl rfl (by omega) (by omega) ⟨by omega, by omega⟩ rfl (fun H4229 e4230 w4231 => ?_))
                                  have f4232 := f3946.put' e4230 g0 rfl
                                  have k4233 : H4229 r0 3 = 0 := wq_u_s e4230
                                  refine wp_of e16 c16_280 (rw_aload_n (pc' := 281) (v := .ref r0) rfl rfl rfl ?_)
                                  refine wp_of e16 c16_281 (rw_iload_n (pc' := 282) (z := v3940) rfl rfl ?_)
                                  refine wp_of e16 c16_282 (xp_I (pc' := 285) lf_2_23 w4231 g0 sh_4 (by decide) (by decide) ty_4_2 rfl rfl (by omega) (by omega) ⟨by omega, by omega⟩ rfl (fun H4234 e4235 w4236 => ?_))
                                  have f4237 := f4232.put' e4235 g0 rfl
                                  have k4238 : H4234 r0 2 = v3940 := wq_u_s e4235
                                  exact wp_return e16 c16_285 rfl ⟨rfl, w4236, f4237, rfl⟩
                                · refine wp_of e16 c16_234 (rw_aload_n (pc' := 235) (v := .ref r0) rfl rfl rfl ?_)
                                  refine wp_of e16 c16_235 (rw_aload_n (pc' := 236) (v := .ref r0) rfl rfl rfl ?_)
                                  refine wp_of e16 c16_236 (xg_K (pc' := 239) lf_2_7 w3942 g0 sh_4 (by decide) (by decide) rfl q4149 rfl ?_)
                                  refine wp_of e16 c16_239 (rw_iload_n (pc' := 240) (z := v3940) rfl rfl ?_)
                                  refine wp_of e16 c16_240 (xa_B (by decide) (pc' := 241) w3942 grb sh_2 (by decide) (ty_2 _) (by omega) (by omega) rfl (fun b4239 b4240 => ?_))
                                  refine wp_of e16 c16_241 (rw_bipush (pc' := 243) (z := 59) rfl (by decide) ?_)
                                  refine wp_of e16 c16_243 (rw_icmp_ne (p1 := 250) (p2 := 246) (by decide) rfl ⟨by omega, by omega⟩ ⟨by omega, by omega⟩ (fun c4241 => ?_) (fun c4241 => ?_))
                                  · refine wp_of e16 c16_250 (rw_aload_n (pc' := 251) (v := .ref r0) rfl rfl rfl ?_)
                                    refine wp_of e16 c16_251 (xg_K (pc' := 254) lf_2_7 w3942 g0 sh_4 (by decide) (by decide) rfl q4149 rfl ?_)
                                    refine wp_of e16 c16_254 (rw_iload_n (pc' := 255) (z := v3940) rfl rfl ?_)
                                    refine wp_of e16 c16_255 (xa_B (by decide) (pc' := 256) w3942 grb sh_2 (by decide) (ty_2 _) (by omega) (by omega) rfl (fun b4242 b4243 => ?_))
                                    refine wp_of e16 c16_256 (rw_bipush (pc' := 258) (z := 44) rfl (by decide) ?_)
                                    refine wp_of e16 c16_258 (rw_icmp_ne (p1 := 265) (p2 := 261) (by decide) rfl ⟨by omega, by omega⟩ ⟨by omega, by omega⟩ (fun c4244 => ?_) (fun c4244 => ?_))
                                    · refine wp_of e16 c16_265 (rw_iconst (pc' := 266) rfl ?_)
                                      refine wp_of e16 c16_266 (xp_I (pc' := 269) lf_2_41 w3942 g0 sh_4 (by decide) (by decide) ty_4_3 rfl rfl (by omega) (by omega) ⟨by omega, by omega⟩ rfl (fun H4245 e4246 w4247 => ?_))
                                      have f4248 := f3946.put' e4246 g0 rfl
                                      have k4249 : H4245 r0 3 = 5 := wq_u_s e4246
                                      refine wp_of e16 c16_269 (rw_iinc (pc' := 272) (z := v3940) (L' := [(1, vI (v3940 + 1)), (3, vI ((v3940 - (H3941 r0 4)) - (v3442 - (H3443 r0 4)))), (2, vI (v3442 - (H3443 r0 4))), (0, .ref r0)]) rfl rfl rfl rfl ?_)
                                      refine wp_of e16 c16_272 (rw_goto (p1 := 280) (by decide) ?_)
                                      refine wp_of e16 c16_280 (rw_aload_n (pc' := 281) (v := .ref r0) rfl rfl rfl ?_)
                                      refine wp_of e16 c16_281 (rw_iload_n (pc' := 282) (z := v3940 + 1) rfl rfl ?_)
                                      refine wp_of e16 c16_282 (xp_I (pc' := 285) lf_2_23 w4247 g0 sh_4 (by decide) (by decide) ty_4_2 rfl rfl (by omega) (by omega) ⟨by omega, by omega⟩ rfl (fun H4250 e4251 w4252 => ?_))
                                      have f4253 := f4248.put' e4251 g0 rfl
                                      have k4254 : H4250 r0 2 = v3940 + 1 := wq_u_s e4251
                                      exact wp_return e16 c16_285 rfl ⟨rfl, w4252, f4253, rfl⟩
                                    · exfalso
                                      omega
                                  · refine wp_of e16 c16_246 (rw_iconst (pc' := 247) rfl ?_)
                                    refine wp_of e16 c16_247 (rw_goto (p1 := 266) (by decide) ?_)
                                    refine wp_of e16 c16_266 (xp_I (pc' := 269) lf_2_41 w3942 g0 sh_4 (by decide) (by decide) ty_4_3 rfl rfl (by omega) (by omega) ⟨by omega, by omega⟩ rfl (fun H4255 e4256 w4257 => ?_))
                                    have f4258 := f3946.put' e4256 g0 rfl
                                    have k4259 : H4255 r0 3 = 3 := wq_u_s e4256
                                    refine wp_of e16 c16_269 (rw_iinc (pc' := 272) (z := v3940) (L' := [(1, vI (v3940 + 1)), (3, vI ((v3940 - (H3941 r0 4)) - (v3442 - (H3443 r0 4)))), (2, vI (v3442 - (H3443 r0 4))), (0, .ref r0)]) rfl rfl rfl rfl ?_)
                                    refine wp_of e16 c16_272 (rw_goto (p1 := 280) (by decide) ?_)
                                    refine wp_of e16 c16_280 (rw_aload_n (pc' := 281) (v := .ref r0) rfl rfl rfl ?_)
                                    refine wp_of e16 c16_281 (rw_iload_n (pc' := 282) (z := v3940 + 1) rfl rfl ?_)
                                    refine wp_of e16 c16_282 (xp_I (pc' := 285) lf_2_23 w4257 g0 sh_4 (by decide) (by decide) ty_4_2 rfl rfl (by omega) (by omega) ⟨by omega, by omega⟩ rfl (fun H4260 e4261 w4262 => ?_))
                                    have f4263 := f4258.put' e4261 g0 rfl
                                    have k4264 : H4260 r0 2 = v3940 + 1 := wq_u_s e4261
                                    exact wp_return e16 c16_285 rfl ⟨rfl, w4262, f4263, rfl⟩
                              · refine wp_of e16 c16_209 (rw_aload_n (pc' := 210) (v := .ref r0) rfl rfl rfl ?_)
                                refine wp_of e16 c16_210 (rw_iload_n (pc' := 211) (z := (v3940 - (H3941 r0 4)) - (v3442 - (H3443 r0 4))) rfl rfl ?_)
                                refine wp_of e16 c16_211 (rw_iconst (pc' := 212) rfl ?_)
                                refine wp_of e16 c16_212 (rw_icmp_gt (p1 := 219) (p2 := 215) (by decide) rfl ⟨by omega, by omega⟩ ⟨by omega, by omega⟩ (fun c4265 => ?_) (fun c4265 => ?_))
                                · refine wp_of e16 c16_219 (rw_iconst (pc' := 220) rfl ?_)
                                  refine wp_of e16 c16_220 (xp_I (pc' := 223) lf_2_41 w3942 g0 sh_4 (by decide) (by decide) ty_4_3 rfl rfl (by omega) (by omega) ⟨by omega, by omega⟩ rfl (fun H4266 e4267 w4268 => ?_))
                                  have f4269 := f3946.put' e4267 g0 rfl
                                  have k4270 : H4266 r0 3 = 5 := wq_u_s e4267
                                  refine wp_of e16 c16_223 (rw_goto (p1 := 280) (by decide) ?_)
                                  refine wp_of e16 c16_280 (rw_aload_n (pc' := 281) (v := .ref r0) rfl rfl rfl ?_)
                                  refine wp_of e16 c16_281 (rw_iload_n (pc' := 282) (z := v3940) rfl rfl ?_)
                                  refine wp_of e16 c16_282 (xp_I (pc' := 285) lf_2_23 w4268 g0 sh_4 (by decide) (by decide) ty_4_2 rfl rfl (by omega) (by omega) ⟨by omega, by omega⟩ rfl (fun H4271 e4272 w4273 => ?_))
                                  have f4274 := f4269.put' e4272 g0 rfl
                                  have k4275 : H4271 r0 2 = v3940 := wq_u_s e4272
                                  exact wp_return e16 c16_285 rfl ⟨rfl, w4273, f4274, rfl⟩
                                · refine wp_of e16 c16_215 (rw_iconst (pc' := 216) rfl ?_)
                                  refine wp_of e16 c16_216 (rw_goto (p1 := 220) (by decide) ?_)
                                  refine wp_of e16 c16_220 (xp_I (pc' := 223) lf_2_41 w3942 g0 sh_4 (by decide) (by decide) ty_4_3 rfl rfl (by omega) (by omega) ⟨by omega, by omega⟩ rfl (fun H4276 e4277 w4278 => ?_))
                                  have f4279 := f3946.put' e4277 g0 rfl
                                  have k4280 : H4276 r0 3 = 2 := wq_u_s e4277
                                  refine wp_of e16 c16_223 (rw_goto (p1 := 280) (by decide) ?_)
                                  refine wp_of e16 c16_280 (rw_aload_n (pc' := 281) (v := .ref r0) rfl rfl rfl ?_)
                                  refine wp_of e16 c16_281 (rw_iload_n (pc' := 282) (z := v3940) rfl rfl ?_)
                                  refine wp_of e16 c16_282 (xp_I (pc' := 285) lf_2_23 w4278 g0 sh_4 (by decide) (by decide) ty_4_2 rfl rfl (by omega) (by omega) ⟨by omega, by omega⟩ rfl (fun H4281 e4282 w4283 => ?_))
                                  have f4284 := f4279.put' e4282 g0 rfl
                                  have k4285 : H4281 r0 2 = v3940 := wq_u_s e4282
                                  exact wp_return e16 c16_285 rfl ⟨rfl, w4283, f4284, rfl⟩
                            · exfalso
                              omega
                          · refine wp_of e16 c16_147 (rw_aload_n (pc' := 148) (v := .ref r0) rfl rfl rfl ?_)
                            refine wp_of e16 c16_148 (rw_aload_n (pc' := 149) (v := .ref r0) rfl rfl rfl ?_)
                            refine wp_of e16 c16_149 (xg_I (pc' := 152) lf_2_38 w3942 g0 sh_4 (by decide) (by decide) ty_4_5 rfl rfl (fun b4286 b4287 => ?_))
                            refine wp_of e16 c16_152 (rw_bipush (pc' := 154) (z := 10) rfl (by decide) ?_)
                            refine wp_of e16 c16_154 (rw_imulw (pc' := 155) rfl ?_)
                            obtain ⟨v4288, e4289⟩ : ∃ x : Int, x = wq_w ((H3941 r0 5) * 10) := ⟨_, rfl⟩
                            rw [← e4289]
                            have b4290 : -2147483648 ≤ v4288 ∧ v4288 ≤ 2147483647 := by
                              rw [e4289]
                              exact wI_w _
                            refine wp_of e16 c16_155 (rw_aload_n (pc' := 156) (v := .ref r0) rfl rfl rfl ?_)
                            refine wp_of e16 c16_156 (xg_K (pc' := 159) lf_2_7 w3942 g0 sh_4 (by decide) (by decide) rfl q4149 rfl ?_)
                            refine wp_of e16 c16_159 (rw_iload_n (pc' := 160) (z := v3940) rfl rfl ?_)
                            refine wp_of e16 c16_160 (xa_B (by decide) (pc' := 161) w3942 grb sh_2 (by decide) (ty_2 _) (by omega) (by omega) rfl (fun b4291 b4292 => ?_))
                            refine wp_of e16 c16_161 (rw_bipush (pc' := 163) (z := 48) rfl (by decide) ?_)
                            refine wp_of e16 c16_163 (rw_isub (pc' := 164) rfl ?_)
                            refine wp_of e16 c16_164 (rw_iaddw (pc' := 165) rfl ?_)
                            obtain ⟨v4293, e4294⟩ : ∃ x : Int, x = wq_w (v4288 + ((H3941 rb (v3940.toNat)) - 48)) := ⟨_, rfl⟩
                            rw [← e4294]
                            have b4295 : -2147483648 ≤ v4293 ∧ v4293 ≤ 2147483647 := by
                              rw [e4294]
                              exact wI_w _
                            refine wp_of e16 c16_165 (xp_I (pc' := 168) lf_2_38 w3942 g0 sh_4 (by decide) (by decide) ty_4_5 rfl rfl (by omega) (by omega) ⟨by omega, by omega⟩ rfl (fun H4296 e4297 w4298 => ?_))
                            have f4299 := f3946.put' e4297 g0 rfl
                            have f4300 := f3943.put' e4297 g0 rfl
                            have k4301 : H4296 r0 5 = v4293 := wq_u_s e4297
                            refine wp_of e16 c16_168 (rw_iinc (pc' := 171) (z := v3940) (L' := [(1, vI (v3940 + 1)), (2, vI (v3442 - (H3443 r0 4))), (0, .ref r0)]) rfl rfl rfl rfl ?_)
                            refine wp_of e16 c16_171 (rw_goto (p1 := 113) (by decide) ?_)
                            exact wp_lc (ks := [1, 2, 0]) (wl_c rfl (wl_c rfl (wl_c rfl wl_n))) rfl (by decide) (ih3939 _ (by omega) (v3940 + 1) H4296 w4298 f4300 ⟨by omega, by omega⟩ rfl)
                exact wp_lc (ks := [2, 1, 0]) (wl_c rfl (wl_c rfl (wl_c rfl wl_n))) rfl (by decide) (lp3937 _ v3442 H3883 w3885 wfr.rf ⟨by omega, by omega⟩ rfl)
              · refine wp_of e16 c16_59 (rw_aload_n (pc' := 60) (v := .ref r0) rfl rfl rfl ?_)
                refine wp_of e16 c16_60 (xg_K (pc' := 63) lf_2_7 w3444 g0 sh_4 (by decide) (by decide) rfl q3876 rfl ?_)
                refine wp_of e16 c16_63 (rw_iload_n (pc' := 64) (z := v3442) rfl rfl ?_)
                refine wp_of e16 c16_64 (xa_B (by decide) (pc' := 65) w3444 grb sh_2 (by decide) (ty_2 _) (by omega) (by omega) rfl (fun b4302 b4303 => ?_))
                refine wp_of e16 c16_65 (rw_bipush (pc' := 67) (z := 122) rfl (by decide) ?_)
                refine wp_of e16 c16_67 (rw_icmp_gt (p1 := 101) (p2 := 70) (by decide) rfl ⟨by omega, by omega⟩ ⟨by omega, by omega⟩ (fun c4304 => ?_) (fun c4304 => ?_))
                · refine wp_of e16 c16_101 (rw_iload_n (pc' := 102) (z := v3442) rfl rfl ?_)
                  refine wp_of e16 c16_102 (rw_aload_n (pc' := 103) (v := .ref r0) rfl rfl rfl ?_)
                  have k4305 : H3443 r0 4 = H3382 r0 4 := ((f3445 r0 4 _ g0 rfl).trans (wq_u_j e3388 rfl))
                  refine wp_of e16 c16_103 (xg_I (pc' := 106) lf_2_29 w3444 g0 sh_4 (by decide) (by decide) ty_4_4 rfl rfl (fun b4306 b4307 => ?_))
                  refine wp_of e16 c16_106 (rw_isub (pc' := 107) rfl ?_)
                  refine wp_of e16 c16_107 (rw_istore_n (pc' := 108) (z := v3442 - (H3443 r0 4)) (L' := [(2, vI (v3442 - (H3443 r0 4))), (1, vI v3442), (0, .ref r0)]) rfl rfl rfl ?_)
                  refine wp_of e16 c16_108 (rw_aload_n (pc' := 109) (v := .ref r0) rfl rfl rfl ?_)
                  refine wp_of e16 c16_109 (rw_iconst (pc' := 110) rfl ?_)
                  refine wp_of e16 c16_110 (xp_I (pc' := 113) lf_2_38 w3444 g0 sh_4 (by decide) (by decide) ty_4_5 rfl rfl (by omega) (by omega) ⟨by omega, by omega⟩ rfl (fun H4308 e4309 w4310 => ?_))
                  have f4311 := f3448.put' e4309 g0 rfl
                  have k4312 : H4308 r0 5 = 0 := wq_u_s e4309
                  have lp4362 : ∀ (n4363 : Nat) (v4365 : Int) (H4366 : wq_H), WT T H4366 → wfr [(4, 5)] T H4308 H4366 → (0 ≤ v4365 ∧ v4365 ≤ 900) → (900 - v4365).toNat = n4363 → wp kt 0 16 113 [(1, vI v4365), (2, vI (v3442 - (H3443 r0 4))), (0, .ref r0)] [] T H4366 (q_16 r0 rb T H) := by
                    intro n4363
                    induction n4363 using Nat.strongRecOn with
                    | _ n4363 ih4364 =>
                      intro v4365 H4366 w4367 f4368 b4369 m4370
                      have f4371 := f4311.tr f4368 rfl
                      refine wp_of e16 c16_113 (rw_iload_n (pc' := 114) (z := v4365) rfl rfl ?_)
                      refine wp_of e16 c16_114 (rw_aload_n (pc' := 115) (v := .ref r0) rfl rfl rfl ?_)
                      have k4372 : H4366 r0 1 = H3443 r0 1 := ((f4368 r0 1 _ g0 rfl).trans (wq_u_j e4309 rfl))
                      refine wp_of e16 c16_115 (xg_I (pc' := 118) lf_2_19 w4367 g0 sh_4 (by decide) (by decide) ty_4_1 rfl rfl (fun b4373 b4374 => ?_))
                      refine wp_of e16 c16_118 (rw_icmp_ge (p1 := 174) (p2 := 121) (by decide) rfl ⟨by omega, by omega⟩ ⟨by omega, by omega⟩ (fun c4375 => ?_) (fun c4375 => ?_))
                      · refine wp_of e16 c16_174 (rw_iload_n (pc' := 175) (z := v4365) rfl rfl ?_)
                        refine wp_of e16 c16_175 (rw_aload_n (pc' := 176) (v := .ref r0) rfl rfl rfl ?_)
                        have k4376 : H4366 r0 4 = H3443 r0 4 := ((f4368 r0 4 _ g0 rfl).trans (wq_u_j e4309 rfl))
                        refine wp_of e16 c16_176 (xg_I (pc' := 179) lf_2_29 w4367 g0 sh_4 (by decide) (by decide) ty_4_4 rfl rfl (fun b4377 b4378 => ?_))
                        refine wp_of e16 c16_179 (rw_isub (pc' := 180) rfl ?_)
                        refine wp_of e16 c16_180 (rw_iload_n (pc' := 181) (z := v3442 - (H3443 r0 4)) rfl rfl ?_)
                        refine wp_of e16 c16_181 (rw_isub (pc' := 182) rfl ?_)
                        refine wp_of e16 c16_182 (rw_istore_n (pc' := 183) (z := (v4365 - (H4366 r0 4)) - (v3442 - (H3443 r0 4))) (L' := [(3, vI ((v4365 - (H4366 r0 4)) - (v3442 - (H3443 r0 4)))), (1, vI v4365), (2, vI (v3442 - (H3443 r0 4))), (0, .ref r0)]) rfl rfl rfl ?_)
                        refine wp_of e16 c16_183 (rw_iload_n (pc' := 184) (z := v3442 - (H3443 r0 4)) rfl rfl ?_)
                        refine wp_of e16 c16_184 (rw_if_le (p1 := 205) (p2 := 187) (by decide) rfl ⟨by omega, by omega⟩ (fun c4379 => ?_) (fun c4379 => ?_))
                        · refine wp_of e16 c16_205 (rw_iload_n (pc' := 206) (z := (v4365 - (H4366 r0 4)) - (v3442 - (H3443 r0 4))) rfl rfl ?_)
                          refine wp_of e16 c16_206 (rw_if_le (p1 := 226) (p2 := 209) (by decide) rfl ⟨by omega, by omega⟩ (fun c4380 => ?_) (fun c4380 => ?_))
                          · refine wp_of e16 c16_226 (rw_iload_n (pc' := 227) (z := v4365) rfl rfl ?_)
                            refine wp_of e16 c16_227 (rw_aload_n (pc' := 228) (v := .ref r0) rfl rfl rfl ?_)
                            refine wp_of e16 c16_228 (xg_I (pc' := 231) lf_2_19 w4367 g0 sh_4 (by decide) (by decide) ty_4_1 rfl rfl (fun b4381 b4382 => ?_))
                            refine wp_of e16 c16_231 (rw_icmp_ge (p1 := 275) (p2 := 234) (by decide) rfl ⟨by omega, by omega⟩ ⟨by omega, by omega⟩ (fun c4383 => ?_) (fun c4383 => ?_))
                            · refine wp_of e16 c16_275 (rw_aload_n (pc' := 276) (v := .ref r0) rfl rfl rfl ?_)
                              refine wp_of e16 c16_276 (rw_iconst (pc' := 277) rfl ?_)
                              refine wp_of e16 c16_277 (xp_I (pc' := 280) lf_2_41 w4367 g0 sh_4 (by decide) (by decide) ty_4_3 rfl rfl (by omega) (by omega) ⟨by omega, by omega⟩ rfl (fun H4384 e4385 w4386 => ?_))
                              have f4387 := f4371.put' e4385 g0 rfl
                              have k4388 : H4384 r0 3 = 0 := wq_u_s e4385
                              refine wp_of e16 c16_280 (rw_aload_n (pc' := 281) (v := .ref r0) rfl rfl rfl ?_)
                              refine wp_of e16 c16_281 (rw_iload_n (pc' := 282) (z := v4365) rfl rfl ?_)
                              refine wp_of e16 c16_282 (xp_I (pc' := 285) lf_2_23 w4386 g0 sh_4 (by decide) (by decide) ty_4_2 rfl rfl (by omega) (by omega) ⟨by omega, by omega⟩ rfl (fun H4389 e4390 w4391 => ?_))
                              have f4392 := f4387.put' e4390 g0 rfl
                              have k4393 : H4389 r0 2 = v4365 := wq_u_s e4390
                              exact wp_return e16 c16_285 rfl ⟨rfl, w4391, f4392, rfl⟩
                            · refine wp_of e16 c16_234 (rw_aload_n (pc' := 235) (v := .ref r0) rfl rfl rfl ?_)
                              refine wp_of e16 c16_235 (rw_aload_n (pc' := 236) (v := .ref r0) rfl rfl rfl ?_)
                              have k4394 : H4366 r0 0 = H3443 r0 0 := ((f4368 r0 0 _ g0 rfl).trans (wq_u_j e4309 rfl))
                              have q4395 : H4366 r0 0 = (rb : Int) := k4394.trans q3876
                              refine wp_of e16 c16_236 (xg_K (pc' := 239) lf_2_7 w4367 g0 sh_4 (by decide) (by decide) rfl q4395 rfl ?_)
                              refine wp_of e16 c16_239 (rw_iload_n (pc' := 240) (z := v4365) rfl rfl ?_)
                              refine wp_of e16 c16_240 (xa_B (by decide) (pc' := 241) w4367 grb sh_2 (by decide) (ty_2 _) (by omega) (by omega) rfl (fun b4396 b4397 => ?_))
                              refine wp_of e16 c16_241 (rw_bipush (pc' := 243) (z := 59) rfl (by decide) ?_)
                              refine wp_of e16 c16_243 (rw_icmp_ne (p1 := 250) (p2 := 246) (by decide) rfl ⟨by omega, by omega⟩ ⟨by omega, by omega⟩ (fun c4398 => ?_) (fun c4398 => ?_))
                              · refine wp_of e16 c16_250 (rw_aload_n (pc' := 251) (v := .ref r0) rfl rfl rfl ?_)
                                refine wp_of e16 c16_251 (xg_K (pc' := 254) lf_2_7 w4367 g0 sh_4 (by decide) (by decide) rfl q4395 rfl ?_)
                                refine wp_of e16 c16_254 (rw_iload_n (pc' := 255) (z := v4365) rfl rfl ?_)
                                refine wp_of e16 c16_255 (xa_B (by decide) (pc' := 256) w4367 grb sh_2 (by decide) (ty_2 _) (by omega) (by omega) rfl (fun b4399 b4400 => ?_))
                                refine wp_of e16 c16_256 (rw_bipush (pc' := 258) (z := 44) rfl (by decide) ?_)
                                refine wp_of e16 c16_258 (rw_icmp_ne (p1 := 265) (p2 := 261) (by decide) rfl ⟨by omega, by omega⟩ ⟨by omega, by omega⟩ (fun c4401 => ?_) (fun c4401 => ?_))
                                · refine wp_of e16 c16_265 (rw_iconst (pc' := 266) rfl ?_)
                                  refine wp_of e16 c16_266 (xp_I (pc' := 269) lf_2_41 w4367 g0 sh_4 (by decide) (by decide) ty_4_3 rfl rfl (by omega) (by omega) ⟨by omega, by omega⟩ rfl (fun H4402 e4403 w4404 => ?_))
                                  have f4405 := f4371.put' e4403 g0 rfl
                                  have k4406 : H4402 r0 3 = 5 := wq_u_s e4403
                                  refine wp_of e16 c16_269 (rw_iinc (pc' := 272) (z := v4365) (L' := [(1, vI (v4365 + 1)), (3, vI ((v4365 - (H4366 r0 4)) - (v3442 - (H3443 r0 4)))), (2, vI (v3442 - (H3443 r0 4))), (0, .ref r0)]) rfl rfl rfl rfl ?_)
                                  refine wp_of e16 c16_272 (rw_goto (p1 := 280) (by decide) ?_)
                                  refine wp_of e16 c16_280 (rw_aload_n (pc' := 281) (v := .ref r0) rfl rfl rfl ?_)
                                  refine wp_of e16 c16_281 (rw_iload_n (pc' := 282) (z := v4365 + 1) rfl rfl ?_)
                                  refine wp_of e16 c16_282 (xp_I (pc' := 285) lf_2_23 w4404 g0 sh_4 (by decide) (by decide) ty_4_2 rfl rfl (by omega) (by omega) ⟨by omega, by omega⟩ rfl (fun H4407 e4408 w4409 => ?_))
                                  have f4410 := f4405.put' e4408 g0 rfl
                                  have k4411 : H4407 r0 2 = v4365 + 1 := wq_u_s e4408
                                  exact wp_return e16 c16_285 rfl ⟨rfl, w4409, f4410, rfl⟩
                                · refine wp_of e16 c16_261 (rw_iconst (pc' := 262) rfl ?_)
                                  refine wp_of e16 c16_262 (rw_goto (p1 := 266) (by decide) ?_)
                                  refine wp_of e16 c16_266 (xp_I (pc' := 269) lf_2_41 w4367 g0 sh_4 (by decide) (by decide) ty_4_3 rfl rfl (by omega) (by omega) ⟨by omega, by omega⟩ rfl (fun H4412 e4413 w4414 => ?_))
                                  have f4415 := f4371.put' e4413 g0 rfl
                                  have k4416 : H4412 r0 3 = 4 := wq_u_s e4413
                                  refine wp_of e16 c16_269 (rw_iinc (pc' := 272) (z := v4365) (L' := [(1, vI (v4365 + 1)), (3, vI ((v4365 - (H4366 r0 4)) - (v3442 - (H3443 r0 4)))), (2, vI (v3442 - (H3443 r0 4))), (0, .ref r0)]) rfl rfl rfl rfl ?_)
                                  refine wp_of e16 c16_272 (rw_goto (p1 := 280) (by decide) ?_)
                                  refine wp_of e16 c16_280 (rw_aload_n (pc' := 281) (v := .ref r0) rfl rfl rfl ?_)
                                  refine wp_of e16 c16_281 (rw_iload_n (pc' := 282) (z := v4365 + 1) rfl rfl ?_)
                                  refine wp_of e16 c16_282 (xp_I (pc' := 285) lf_2_23 w4414 g0 sh_4 (by decide) (by decide) ty_4_2 rfl rfl (by omega) (by omega) ⟨by omega, by omega⟩ rfl (fun H4417 e4418 w4419 => ?_))
                                  have f4420 := f4415.put' e4418 g0 rfl
                                  have k4421 : H4417 r0 2 = v4365 + 1 := wq_u_s e4418
                                  exact wp_return e16 c16_285 rfl ⟨rfl, w4419, f4420, rfl⟩
                              · refine wp_of e16 c16_246 (rw_iconst (pc' := 247) rfl ?_)
                                refine wp_of e16 c16_247 (rw_goto (p1 := 266) (by decide) ?_)
                                refine wp_of e16 c16_266 (xp_I (pc' := 269) lf_2_41 w4367 g0 sh_4 (by decide) (by decide) ty_4_3 rfl rfl (by omega) (by omega) ⟨by omega, by omega⟩ rfl (fun H4422 e4423 w4424 => ?_))
                                have f4425 := f4371.put' e4423 g0 rfl
                                have k4426 : H4422 r0 3 = 3 := wq_u_s e4423
                                refine wp_of e16 c16_269 (rw_iinc (pc' := 272) (z := v4365) (L' := [(1, vI (v4365 + 1)), (3, vI ((v4365 - (H4366 r0 4)) - (v3442 - (H3443 r0 4)))), (2, vI (v3442 - (H3443 r0 4))), (0, .ref r0)]) rfl rfl rfl rfl ?_)
                                refine wp_of e16 c16_272 (rw_goto (p1 := 280) (by decide) ?_)
                                refine wp_of e16 c16_280 (rw_aload_n (pc' := 281) (v := .ref r0) rfl rfl rfl ?_)
                                refine wp_of e16 c16_281 (rw_iload_n (pc' := 282) (z := v4365 + 1) rfl rfl ?_)
                                refine wp_of e16 c16_282 (xp_I (pc' := 285) lf_2_23 w4424 g0 sh_4 (by decide) (by decide) ty_4_2 rfl rfl (by omega) (by omega) ⟨by omega, by omega⟩ rfl (fun H4427 e4428 w4429 => ?_))
                                have f4430 := f4425.put' e4428 g0 rfl
                                have k4431 : H4427 r0 2 = v4365 + 1 := wq_u_s e4428
                                exact wp_return e16 c16_285 rfl ⟨rfl, w4429, f4430, rfl⟩
                          · refine wp_of e16 c16_209 (rw_aload_n (pc' := 210) (v := .ref r0) rfl rfl rfl ?_)
                            refine wp_of e16 c16_210 (rw_iload_n (pc' := 211) (z := (v4365 - (H4366 r0 4)) - (v3442 - (H3443 r0 4))) rfl rfl ?_)
                            refine wp_of e16 c16_211 (rw_iconst (pc' := 212) rfl ?_)
                            refine wp_of e16 c16_212 (rw_icmp_gt (p1 := 219) (p2 := 215) (by decide) rfl ⟨by omega, by omega⟩ ⟨by omega, by omega⟩ (fun c4432 => ?_) (fun c4432 => ?_))
                            · refine wp_of e16 c16_219 (rw_iconst (pc' := 220) rfl ?_)
                              refine wp_of e16 c16_220 (xp_I (pc' := 223) lf_2_41 w4367 g0 sh_4 (by decide) (by decide) ty_4_3 rfl rfl (by omega) (by omega) ⟨by omega, by omega⟩ rfl (fun H4433 e4434 w4435 => ?_))
                              have f4436 := f4371.put' e4434 g0 rfl
                              have k4437 : H4433 r0 3 = 5 := wq_u_s e4434
                              refine wp_of e16 c16_223 (rw_goto (p1 := 280) (by decide) ?_)
                              refine wp_of e16 c16_280 (rw_aload_n (pc' := 281) (v := .ref r0) rfl rfl rfl ?_)
                              refine wp_of e16 c16_281 (rw_iload_n (pc' := 282) (z := v4365) rfl rfl ?_)
                              refine wp_of e16 c16_282 (xp_I (pc' := 285) lf_2_23 w4435 g0 sh_4 (by decide) (by decide) ty_4_2 rfl rfl (by omega) (by omega) ⟨by omega, by omega⟩ rfl (fun H4438 e4439 w4440 => ?_))
                              have f4441 := f4436.put' e4439 g0 rfl
                              have k4442 : H4438 r0 2 = v4365 := wq_u_s e4439
                              exact wp_return e16 c16_285 rfl ⟨rfl, w4440, f4441, rfl⟩
                            · refine wp_of e16 c16_215 (rw_iconst (pc' := 216) rfl ?_)
                              refine wp_of e16 c16_216 (rw_goto (p1 := 220) (by decide) ?_)
                              refine wp_of e16 c16_220 (xp_I (pc' := 223) lf_2_41 w4367 g0 sh_4 (by decide) (by decide) ty_4_3 rfl rfl (by omega) (by omega) ⟨by omega, by omega⟩ rfl (fun H4443 e4444 w4445 => ?_))
                              have f4446 := f4371.put' e4444 g0 rfl
                              have k4447 : H4443 r0 3 = 2 := wq_u_s e4444
                              refine wp_of e16 c16_223 (rw_goto (p1 := 280) (by decide) ?_)
                              refine wp_of e16 c16_280 (rw_aload_n (pc' := 281) (v := .ref r0) rfl rfl rfl ?_)
                              refine wp_of e16 c16_281 (rw_iload_n (pc' := 282) (z := v4365) rfl rfl ?_)
                              refine wp_of e16 c16_282 (xp_I (pc' := 285) lf_2_23 w4445 g0 sh_4 (by decide) (by decide) ty_4_2 rfl rfl (by omega) (by omega) ⟨by omega, by omega⟩ rfl (fun H4448 e4449 w4450 => ?_))
                              have f4451 := f4446.put' e4449 g0 rfl
                              have k4452 : H4448 r0 2 = v4365 := wq_u_s e4449
                              exact wp_return e16 c16_285 rfl ⟨rfl, w4450, f4451, rfl⟩
                        · refine wp_of e16 c16_187 (rw_aload_n (pc' := 188) (v := .ref r0) rfl rfl rfl ?_)
                          refine wp_of e16 c16_188 (rw_iload_n (pc' := 189) (z := v3442 - (H3443 r0 4)) rfl rfl ?_)
                          refine wp_of e16 c16_189 (rw_bipush (pc' := 191) (z := 8) rfl (by decide) ?_)
                          refine wp_of e16 c16_191 (rw_icmp_gt (p1 := 198) (p2 := 194) (by decide) rfl ⟨by omega, by omega⟩ ⟨by omega, by omega⟩ (fun c4453 => ?_) (fun c4453 => ?_))
                          · refine wp_of e16 c16_198 (rw_iconst (pc' := 199) rfl ?_)
                            refine wp_of e16 c16_199 (xp_I (pc' := 202) lf_2_41 w4367 g0 sh_4 (by decide) (by decide) ty_4_3 rfl rfl (by omega) (by omega) ⟨by omega, by omega⟩ rfl (fun H4454 e4455 w4456 => ?_))
                            have f4457 := f4371.put' e4455 g0 rfl
                            have k4458 : H4454 r0 3 = 5 := wq_u_s e4455
                            refine wp_of e16 c16_202 (rw_goto (p1 := 280) (by decide) ?_)
                            refine wp_of e16 c16_280 (rw_aload_n (pc' := 281) (v := .ref r0) rfl rfl rfl ?_)
                            refine wp_of e16 c16_281 (rw_iload_n (pc' := 282) (z := v4365) rfl rfl ?_)
                            refine wp_of e16 c16_282 (xp_I (pc' := 285) lf_2_23 w4456 g0 sh_4 (by decide) (by decide) ty_4_2 rfl rfl (by omega) (by omega) ⟨by omega, by omega⟩ rfl (fun H4459 e4460 w4461 => ?_))
                            have f4462 := f4457.put' e4460 g0 rfl
                            have k4463 : H4459 r0 2 = v4365 := wq_u_s e4460
                            exact wp_return e16 c16_285 rfl ⟨rfl, w4461, f4462, rfl⟩
                          · refine wp_of e16 c16_194 (rw_iconst (pc' := 195) rfl ?_)
                            refine wp_of e16 c16_195 (rw_goto (p1 := 199) (by decide) ?_)
                            refine wp_of e16 c16_199 (xp_I (pc' := 202) lf_2_41 w4367 g0 sh_4 (by decide) (by decide) ty_4_3 rfl rfl (by omega) (by omega) ⟨by omega, by omega⟩ rfl (fun H4464 e4465 w4466 => ?_))
                            have f4467 := f4371.put' e4465 g0 rfl
                            have k4468 : H4464 r0 3 = 1 := wq_u_s e4465
                            refine wp_of e16 c16_202 (rw_goto (p1 := 280) (by decide) ?_)
                            refine wp_of e16 c16_280 (rw_aload_n (pc' := 281) (v := .ref r0) rfl rfl rfl ?_)
                            refine wp_of e16 c16_281 (rw_iload_n (pc' := 282) (z := v4365) rfl rfl ?_)
                            refine wp_of e16 c16_282 (xp_I (pc' := 285) lf_2_23 w4466 g0 sh_4 (by decide) (by decide) ty_4_2 rfl rfl (by omega) (by omega) ⟨by omega, by omega⟩ rfl (fun H4469 e4470 w4471 => ?_))
                            have f4472 := f4467.put' e4470 g0 rfl
                            have k4473 : H4469 r0 2 = v4365 := wq_u_s e4470
                            exact wp_return e16 c16_285 rfl ⟨rfl, w4471, f4472, rfl⟩
                      · refine wp_of e16 c16_121 (rw_iload_n (pc' := 122) (z := v3442 - (H3443 r0 4)) rfl rfl ?_)
                        refine wp_of e16 c16_122 (rw_if_ne (p1 := 174) (p2 := 125) (by decide) rfl ⟨by omega, by omega⟩ (fun c4474 => ?_) (fun c4474 => ?_))
                        · refine wp_of e16 c16_174 (rw_iload_n (pc' := 175) (z := v4365) rfl rfl ?_)
                          refine wp_of e16 c16_175 (rw_aload_n (pc' := 176) (v := .ref r0) rfl rfl rfl ?_)
                          have k4475 : H4366 r0 4 = H3443 r0 4 := ((f4368 r0 4 _ g0 rfl).trans (wq_u_j e4309 rfl))
                          refine wp_of e16 c16_176 (xg_I (pc' := 179) lf_2_29 w4367 g0 sh_4 (by decide) (by decide) ty_4_4 rfl rfl (fun b4476 b4477 => ?_))
                          refine wp_of e16 c16_179 (rw_isub (pc' := 180) rfl ?_)
                          refine wp_of e16 c16_180 (rw_iload_n (pc' := 181) (z := v3442 - (H3443 r0 4)) rfl rfl ?_)
                          refine wp_of e16 c16_181 (rw_isub (pc' := 182) rfl ?_)
                          refine wp_of e16 c16_182 (rw_istore_n (pc' := 183) (z := (v4365 - (H4366 r0 4)) - (v3442 - (H3443 r0 4))) (L' := [(3, vI ((v4365 - (H4366 r0 4)) - (v3442 - (H3443 r0 4)))), (1, vI v4365), (2, vI (v3442 - (H3443 r0 4))), (0, .ref r0)]) rfl rfl rfl ?_)
                          refine wp_of e16 c16_183 (rw_iload_n (pc' := 184) (z := v3442 - (H3443 r0 4)) rfl rfl ?_)
                          refine wp_of e16 c16_184 (rw_if_le (p1 := 205) (p2 := 187) (by decide) rfl ⟨by omega, by omega⟩ (fun c4478 => ?_) (fun c4478 => ?_))
                          · refine wp_of e16 c16_205 (rw_iload_n (pc' := 206) (z := (v4365 - (H4366 r0 4)) - (v3442 - (H3443 r0 4))) rfl rfl ?_)
                            refine wp_of e16 c16_206 (rw_if_le (p1 := 226) (p2 := 209) (by decide) rfl ⟨by omega, by omega⟩ (fun c4479 => ?_) (fun c4479 => ?_))
                            · refine wp_of e16 c16_226 (rw_iload_n (pc' := 227) (z := v4365) rfl rfl ?_)
                              refine wp_of e16 c16_227 (rw_aload_n (pc' := 228) (v := .ref r0) rfl rfl rfl ?_)
                              refine wp_of e16 c16_228 (xg_I (pc' := 231) lf_2_19 w4367 g0 sh_4 (by decide) (by decide) ty_4_1 rfl rfl (fun b4480 b4481 => ?_))
                              refine wp_of e16 c16_231 (rw_icmp_ge (p1 := 275) (p2 := 234) (by decide) rfl ⟨by omega, by omega⟩ ⟨by omega, by omega⟩ (fun c4482 => ?_) (fun c4482 => ?_))
                              · refine wp_of e16 c16_275 (rw_aload_n (pc' := 276) (v := .ref r0) rfl rfl rfl ?_)
                                refine wp_of e16 c16_276 (rw_iconst (pc' := 277) rfl ?_)
                                refine wp_of e16 c16_277 (xp_I (pc' := 280) lf_2_41 w4367 g0 sh_4 (by decide) (by decide) ty_4_3 rfl rfl (by omega) (by omega) ⟨by omega, by omega⟩ rfl (fun H4483 e4484 w4485 => ?_))
                                have f4486 := f4371.put' e4484 g0 rfl
                                have k4487 : H4483 r0 3 = 0 := wq_u_s e4484
                                refine wp_of e16 c16_280 (rw_aload_n (pc' := 281) (v := .ref r0) rfl rfl rfl ?_)
                                refine wp_of e16 c16_281 (rw_iload_n (pc' := 282) (z := v4365) rfl rfl ?_)
                                refine wp_of e16 c16_282 (xp_I (pc' := 285) lf_2_23 w4485 g0 sh_4 (by decide) (by decide) ty_4_2 rfl rfl (by omega) (by omega) ⟨by omega, by omega⟩ rfl (fun H4488 e4489 w4490 => ?_))
                                have f4491 := f4486.put' e4489 g0 rfl
                                have k4492 : H4488 r0 2 = v4365 := wq_u_s e4489
                                exact wp_return e16 c16_285 rfl ⟨rfl, w4490, f4491, rfl⟩
                              · refine wp_of e16 c16_234 (rw_aload_n (pc' := 235) (v := .ref r0) rfl rfl rfl ?_)
                                refine wp_of e16 c16_235 (rw_aload_n (pc' := 236) (v := .ref r0) rfl rfl rfl ?_)
                                have k4493 : H4366 r0 0 = H3443 r0 0 := ((f4368 r0 0 _ g0 rfl).trans (wq_u_j e4309 rfl))
                                have q4494 : H4366 r0 0 = (rb : Int) := k4493.trans q3876
                                refine wp_of e16 c16_236 (xg_K (pc' := 239) lf_2_7 w4367 g0 sh_4 (by decide) (by decide) rfl q4494 rfl ?_)
                                refine wp_of e16 c16_239 (rw_iload_n (pc' := 240) (z := v4365) rfl rfl ?_)
                                refine wp_of e16 c16_240 (xa_B (by decide) (pc' := 241) w4367 grb sh_2 (by decide) (ty_2 _) (by omega) (by omega) rfl (fun b4495 b4496 => ?_))
                                refine wp_of e16 c16_241 (rw_bipush (pc' := 243) (z := 59) rfl (by decide) ?_)
                                refine wp_of e16 c16_243 (rw_icmp_ne (p1 := 250) (p2 := 246) (by decide) rfl ⟨by omega, by omega⟩ ⟨by omega, by omega⟩ (fun c4497 => ?_) (fun c4497 => ?_))
                                · refine wp_of e16 c16_250 (rw_aload_n (pc' := 251) (v := .ref r0) rfl rfl rfl ?_)
                                  refine wp_of e16 c16_251 (xg_K (pc' := 254) lf_2_7 w4367 g0 sh_4 (by decide) (by decide) rfl q4494 rfl ?_)
                                  refine wp_of e16 c16_254 (rw_iload_n (pc' := 255) (z := v4365) rfl rfl ?_)
                                  refine wp_of e16 c16_255 (xa_B (by decide) (pc' := 256) w4367 grb sh_2 (by decide) (ty_2 _) (by omega) (by omega) rfl (fun b4498 b4499 => ?_))
                                  refine wp_of e16 c16_256 (rw_bipush (pc' := 258) (z := 44) rfl (by decide) ?_)
                                  refine wp_of e16 c16_258 (rw_icmp_ne (p1 := 265) (p2 := 261) (by decide) rfl ⟨by omega, by omega⟩ ⟨by omega, by omega⟩ (fun c4500 => ?_) (fun c4500 => ?_))
                                  · refine wp_of e16 c16_265 (rw_iconst (pc' := 266) rfl ?_)
                                    refine wp_of e16 c16_266 (xp_I (pc' := 269) lf_2_41 w4367 g0 sh_4 (by decide) (by decide) ty_4_3 rfl rfl (by omega) (by omega) ⟨by omega, by omega⟩ rfl (fun H4501 e4502 w4503 => ?_))
                                    have f4504 := f4371.put' e4502 g0 rfl
                                    have k4505 : H4501 r0 3 = 5 := wq_u_s e4502
                                    refine wp_of e16 c16_269 (rw_iinc (pc' := 272) (z := v4365) (L' := [(1, vI (v4365 + 1)), (3, vI ((v4365 - (H4366 r0 4)) - (v3442 - (H3443 r0 4)))), (2, vI (v3442 - (H3443 r0 4))), (0, .ref r0)]) rfl rfl rfl rfl ?_)
                                    refine wp_of e16 c16_272 (rw_goto (p1 := 280) (by decide) ?_)
                                    refine wp_of e16 c16_280 (rw_aload_n (pc' := 281) (v := .ref r0) rfl rfl rfl ?_)
                                    refine wp_of e16 c16_281 (rw_iload_n (pc' := 282) (z := v4365 + 1) rfl rfl ?_)
                                    refine wp_of e16 c16_282 (xp_I (pc' := 285) lf_2_23 w4503 g0 sh_4 (by decide) (by decide) ty_4_2 rfl rfl (by omega) (by omega) ⟨by omega, by omega⟩ rfl (fun H4506 e4507 w4508 => ?_))
                                    have f4509 := f4504.put' e4507 g0 rfl
                                    have k4510 : H4506 r0 2 = v4365 + 1 := wq_u_s e4507
                                    exact wp_return e16 c16_285 rfl ⟨rfl, w4508, f4509, rfl⟩
                                  · refine wp_of e16 c16_261 (rw_iconst (pc' := 262) rfl ?_)
                                    refine wp_of e16 c16_262 (rw_goto (p1 := 266) (by decide) ?_)
                                    refine wp_of e16 c16_266 (xp_I (pc' := 269) lf_2_41 w4367 g0 sh_4 (by decide) (by decide) ty_4_3 rfl rfl (by omega) (by omega) ⟨by omega, by omega⟩ rfl (fun H4511 e4512 w4513 => ?_))
                                    have f4514 := f4371.put' e4512 g0 rfl
                                    have k4515 : H4511 r0 3 = 4 := wq_u_s e4512
                                    refine wp_of e16 c16_269 (rw_iinc (pc' := 272) (z := v4365) (L' := [(1, vI (v4365 + 1)), (3, vI ((v4365 - (H4366 r0 4)) - (v3442 - (H3443 r0 4)))), (2, vI (v3442 - (H3443 r0 4))), (0, .ref r0)]) rfl rfl rfl rfl ?_)
                                    refine wp_of e16 c16_272 (rw_goto (p1 := 280) (by decide) ?_)
                                    refine wp_of e16 c16_280 (rw_aload_n (pc' := 281) (v := .ref r0) rfl rfl rfl ?_)
                                    refine wp_of e16 c16_281 (rw_iload_n (pc' := 282) (z := v4365 + 1) rfl rfl ?_)
                                    refine wp_of e16 c16_282 (xp_I (pc' := 285) lf_2_23 w4513 g0 sh_4 (by decide) (by decide) ty_4_2 rfl rfl (by omega) (by omega) ⟨by omega, by omega⟩ rfl (fun H4516 e4517 w4518 => ?_))
                                    have f4519 := f4514.put' e4517 g0 rfl
                                    have k4520 : H4516 r0 2 = v4365 + 1 := wq_u_s e4517
                                    exact wp_return e16 c16_285 rfl ⟨rfl, w4518, f4519, rfl⟩
                                · refine wp_of e16 c16_246 (rw_iconst (pc' := 247) rfl ?_)
                                  refine wp_of e16 c16_247 (rw_goto (p1 := 266) (by decide) ?_)
                                  refine wp_of e16 c16_266 (xp_I (pc' := 269) lf_2_41 w4367 g0 sh_4 (by decide) (by decide) ty_4_3 rfl rfl (by omega) (by omega) ⟨by omega, by omega⟩ rfl (fun H4521 e4522 w4523 => ?_))
                                  have f4524 := f4371.put' e4522 g0 rfl
                                  have k4525 : H4521 r0 3 = 3 := wq_u_s e4522
                                  refine wp_of e16 c16_269 (rw_iinc (pc' := 272) (z := v4365) (L' := [(1, vI (v4365 + 1)), (3, vI ((v4365 - (H4366 r0 4)) - (v3442 - (H3443 r0 4)))), (2, vI (v3442 - (H3443 r0 4))), (0, .ref r0)]) rfl rfl rfl rfl ?_)
                                  refine wp_of e16 c16_272 (rw_goto (p1 := 280) (by decide) ?_)
                                  refine wp_of e16 c16_280 (rw_aload_n (pc' := 281) (v := .ref r0) rfl rfl rfl ?_)
                                  refine wp_of e16 c16_281 (rw_iload_n (pc' := 282) (z := v4365 + 1) rfl rfl ?_)
                                  refine wp_of e16 c16_282 (xp_I (pc' := 285) lf_2_23 w4523 g0 sh_4 (by decide) (by decide) ty_4_2 rfl rfl (by omega) (by omega) ⟨by omega, by omega⟩ rfl (fun H4526 e4527 w4528 => ?_))
                                  have f4529 := f4524.put' e4527 g0 rfl
                                  have k4530 : H4526 r0 2 = v4365 + 1 := wq_u_s e4527
                                  exact wp_return e16 c16_285 rfl ⟨rfl, w4528, f4529, rfl⟩
                            · refine wp_of e16 c16_209 (rw_aload_n (pc' := 210) (v := .ref r0) rfl rfl rfl ?_)
                              refine wp_of e16 c16_210 (rw_iload_n (pc' := 211) (z := (v4365 - (H4366 r0 4)) - (v3442 - (H3443 r0 4))) rfl rfl ?_)
                              refine wp_of e16 c16_211 (rw_iconst (pc' := 212) rfl ?_)
                              refine wp_of e16 c16_212 (rw_icmp_gt (p1 := 219) (p2 := 215) (by decide) rfl ⟨by omega, by omega⟩ ⟨by omega, by omega⟩ (fun c4531 => ?_) (fun c4531 => ?_))
                              · refine wp_of e16 c16_219 (rw_iconst (pc' := 220) rfl ?_)
                                refine wp_of e16 c16_220 (xp_I (pc' := 223) lf_2_41 w4367 g0 sh_4 (by decide) (by decide) ty_4_3 rfl rfl (by omega) (by omega) ⟨by omega, by omega⟩ rfl (fun H4532 e4533 w4534 => ?_))
                                have f4535 := f4371.put' e4533 g0 rfl
                                have k4536 : H4532 r0 3 = 5 := wq_u_s e4533
                                refine wp_of e16 c16_223 (rw_goto (p1 := 280) (by decide) ?_)
                                refine wp_of e16 c16_280 (rw_aload_n (pc' := 281) (v := .ref r0) rfl rfl rfl ?_)
                                refine wp_of e16 c16_281 (rw_iload_n (pc' := 282) (z := v4365) rfl rfl ?_)
                                refine wp_of e16 c16_282 (xp_I (pc' := 285) lf_2_23 w4534 g0 sh_4 (by decide) (by decide) ty_4_2 rfl rfl (by omega) (by omega) ⟨by omega, by omega⟩ rfl (fun H4537 e4538 w4539 => ?_))
                                have f4540 := f4535.put' e4538 g0 rfl
                                have k4541 : H4537 r0 2 = v4365 := wq_u_s e4538
                                exact wp_return e16 c16_285 rfl ⟨rfl, w4539, f4540, rfl⟩
                              · refine wp_of e16 c16_215 (rw_iconst (pc' := 216) rfl ?_)
                                refine wp_of e16 c16_216 (rw_goto (p1 := 220) (by decide) ?_)
                                refine wp_of e16 c16_220 (xp_I (pc' := 223) lf_2_41 w4367 g0 sh_4 (by decide) (by decide) ty_4_3 rfl rfl (by omega) (by omega) ⟨by omega, by omega⟩ rfl (fun H4542 e4543 w4544 => ?_))
                                have f4545 := f4371.put' e4543 g0 rfl
                                have k4546 : H4542 r0 3 = 2 := wq_u_s e4543
                                refine wp_of e16 c16_223 (rw_goto (p1 := 280) (by decide) ?_)
                                refine wp_of e16 c16_280 (rw_aload_n (pc' := 281) (v := .ref r0) rfl rfl rfl ?_)
                                refine wp_of e16 c16_281 (rw_iload_n (pc' := 282) (z := v4365) rfl rfl ?_)
                                refine wp_of e16 c16_282 (xp_I (pc' := 285) lf_2_23 w4544 g0 sh_4 (by decide) (by decide) ty_4_2 rfl rfl (by omega) (by omega) ⟨by omega, by omega⟩ rfl (fun H4547 e4548 w4549 => ?_))
                                have f4550 := f4545.put' e4548 g0 rfl
                                have k4551 : H4547 r0 2 = v4365 := wq_u_s e4548
                                exact wp_return e16 c16_285 rfl ⟨rfl, w4549, f4550, rfl⟩
                          · refine wp_of e16 c16_187 (rw_aload_n (pc' := 188) (v := .ref r0) rfl rfl rfl ?_)
                            refine wp_of e16 c16_188 (rw_iload_n (pc' := 189) (z := v3442 - (H3443 r0 4)) rfl rfl ?_)
                            refine wp_of e16 c16_189 (rw_bipush (pc' := 191) (z := 8) rfl (by decide) ?_)
                            refine wp_of e16 c16_191 (rw_icmp_gt (p1 := 198) (p2 := 194) (by decide) rfl ⟨by omega, by omega⟩ ⟨by omega, by omega⟩ (fun c4552 => ?_) (fun c4552 => ?_))
                            · refine wp_of e16 c16_198 (rw_iconst (pc' := 199) rfl ?_)
                              refine wp_of e16 c16_199 (xp_I (pc' := 202) lf_2_41 w4367 g0 sh_4 (by decide) (by decide) ty_4_3 rfl rfl (by omega) (by omega) ⟨by omega, by omega⟩ rfl (fun H4553 e4554 w4555 => ?_))
                              have f4556 := f4371.put' e4554 g0 rfl
                              have k4557 : H4553 r0 3 = 5 := wq_u_s e4554
                              refine wp_of e16 c16_202 (rw_goto (p1 := 280) (by decide) ?_)
                              refine wp_of e16 c16_280 (rw_aload_n (pc' := 281) (v := .ref r0) rfl rfl rfl ?_)
                              refine wp_of e16 c16_281 (rw_iload_n (pc' := 282) (z := v4365) rfl rfl ?_)
                              refine wp_of e16 c16_282 (xp_I (pc' := 285) lf_2_23 w4555 g0 sh_4 (by decide) (by decide) ty_4_2 rfl rfl (by omega) (by omega) ⟨by omega, by omega⟩ rfl (fun H4558 e4559 w4560 => ?_))
                              have f4561 := f4556.put' e4559 g0 rfl
                              have k4562 : H4558 r0 2 = v4365 := wq_u_s e4559
                              exact wp_return e16 c16_285 rfl ⟨rfl, w4560, f4561, rfl⟩
                            · refine wp_of e16 c16_194 (rw_iconst (pc' := 195) rfl ?_)
                              refine wp_of e16 c16_195 (rw_goto (p1 := 199) (by decide) ?_)
                              refine wp_of e16 c16_199 (xp_I (pc' := 202) lf_2_41 w4367 g0 sh_4 (by decide) (by decide) ty_4_3 rfl rfl (by omega) (by omega) ⟨by omega, by omega⟩ rfl (fun H4563 e4564 w4565 => ?_))
                              have f4566 := f4371.put' e4564 g0 rfl
                              have k4567 : H4563 r0 3 = 1 := wq_u_s e4564
                              refine wp_of e16 c16_202 (rw_goto (p1 := 280) (by decide) ?_)
                              refine wp_of e16 c16_280 (rw_aload_n (pc' := 281) (v := .ref r0) rfl rfl rfl ?_)
                              refine wp_of e16 c16_281 (rw_iload_n (pc' := 282) (z := v4365) rfl rfl ?_)
                              refine wp_of e16 c16_282 (xp_I (pc' := 285) lf_2_23 w4565 g0 sh_4 (by decide) (by decide) ty_4_2 rfl rfl (by omega) (by omega) ⟨by omega, by omega⟩ rfl (fun H4568 e4569 w4570 => ?_))
                              have f4571 := f4566.put' e4569 g0 rfl
                              have k4572 : H4568 r0 2 = v4365 := wq_u_s e4569
                              exact wp_return e16 c16_285 rfl ⟨rfl, w4570, f4571, rfl⟩
                        · refine wp_of e16 c16_125 (rw_aload_n (pc' := 126) (v := .ref r0) rfl rfl rfl ?_)
                          have k4573 : H4366 r0 0 = H3443 r0 0 := ((f4368 r0 0 _ g0 rfl).trans (wq_u_j e4309 rfl))
                          have q4574 : H4366 r0 0 = (rb : Int) := k4573.trans q3876
                          refine wp_of e16 c16_126 (xg_K (pc' := 129) lf_2_7 w4367 g0 sh_4 (by decide) (by decide) rfl q4574 rfl ?_)
                          refine wp_of e16 c16_129 (rw_iload_n (pc' := 130) (z := v4365) rfl rfl ?_)
                          refine wp_of e16 c16_130 (xa_B (by decide) (pc' := 131) w4367 grb sh_2 (by decide) (ty_2 _) (by omega) (by omega) rfl (fun b4575 b4576 => ?_))
                          refine wp_of e16 c16_131 (rw_bipush (pc' := 133) (z := 48) rfl (by decide) ?_)
                          refine wp_of e16 c16_133 (rw_icmp_lt (p1 := 174) (p2 := 136) (by decide) rfl ⟨by omega, by omega⟩ ⟨by omega, by omega⟩ (fun c4577 => ?_) (fun c4577 => ?_))
                          · refine wp_of e16 c16_174 (rw_iload_n (pc' := 175) (z := v4365) rfl rfl ?_)
                            refine wp_of e16 c16_175 (rw_aload_n (pc' := 176) (v := .ref r0) rfl rfl rfl ?_)
                            have k4578 : H4366 r0 4 = H3443 r0 4 := ((f4368 r0 4 _ g0 rfl).trans (wq_u_j e4309 rfl))
                            refine wp_of e16 c16_176 (xg_I (pc' := 179) lf_2_29 w4367 g0 sh_4 (by decide) (by decide) ty_4_4 rfl rfl (fun b4579 b4580 => ?_))
                            refine wp_of e16 c16_179 (rw_isub (pc' := 180) rfl ?_)
                            refine wp_of e16 c16_180 (rw_iload_n (pc' := 181) (z := v3442 - (H3443 r0 4)) rfl rfl ?_)
                            refine wp_of e16 c16_181 (rw_isub (pc' := 182) rfl ?_)
                            refine wp_of e16 c16_182 (rw_istore_n (pc' := 183) (z := (v4365 - (H4366 r0 4)) - (v3442 - (H3443 r0 4))) (L' := [(3, vI ((v4365 - (H4366 r0 4)) - (v3442 - (H3443 r0 4)))), (1, vI v4365), (2, vI (v3442 - (H3443 r0 4))), (0, .ref r0)]) rfl rfl rfl ?_)
                            refine wp_of e16 c16_183 (rw_iload_n (pc' := 184) (z := v3442 - (H3443 r0 4)) rfl rfl ?_)
                            refine wp_of e16 c16_184 (rw_if_le (p1 := 205) (p2 := 187) (by decide) rfl ⟨by omega, by omega⟩ (fun c4581 => ?_) (fun c4581 => ?_))
                            · refine wp_of e16 c16_205 (rw_iload_n (pc' := 206) (z := (v4365 - (H4366 r0 4)) - (v3442 - (H3443 r0 4))) rfl rfl ?_)
                              refine wp_of e16 c16_206 (rw_if_le (p1 := 226) (p2 := 209) (by decide) rfl ⟨by omega, by omega⟩ (fun c4582 => ?_) (fun c4582 => ?_))
                              · refine wp_of e16 c16_226 (rw_iload_n (pc' := 227) (z := v4365) rfl rfl ?_)
                                refine wp_of e16 c16_227 (rw_aload_n (pc' := 228) (v := .ref r0) rfl rfl rfl ?_)
                                refine wp_of e16 c16_228 (xg_I (pc' := 231) lf_2_19 w4367 g0 sh_4 (by decide) (by decide) ty_4_1 rfl rfl (fun b4583 b4584 => ?_))
                                refine wp_of e16 c16_231 (rw_icmp_ge (p1 := 275) (p2 := 234) (by decide) rfl ⟨by omega, by omega⟩ ⟨by omega, by omega⟩ (fun c4585 => ?_) (fun c4585 => ?_))
                                · refine wp_of e16 c16_275 (rw_aload_n (pc' := 276) (v := .ref r0) rfl rfl rfl ?_)
                                  refine wp_of e16 c16_276 (rw_iconst (pc' := 277) rfl ?_)
                                  refine wp_of e16 c16_277 (xp_I (pc' := 280) lf_2_41 w4367 g0 sh_4 (by decide) (by decide) ty_4_3 rfl rfl (by omega) (by omega) ⟨by omega, by omega⟩ rfl (fun H4586 e4587 w4588 => ?_))
                                  have f4589 := f4371.put' e4587 g0 rfl
                                  have k4590 : H4586 r0 3 = 0 := wq_u_s e4587
                                  refine wp_of e16 c16_280 (rw_aload_n (pc' := 281) (v := .ref r0) rfl rfl rfl ?_)
                                  refine wp_of e16 c16_281 (rw_iload_n (pc' := 282) (z := v4365) rfl rfl ?_)
                                  refine wp_of e16 c16_282 (xp_I (pc' := 285) lf_2_23 w4588 g0 sh_4 (by decide) (by decide) ty_4_2 rfl rfl (by omega) (by omega) ⟨by omega, by omega⟩ rfl (fun H4591 e4592 w4593 => ?_))
                                  have f4594 := f4589.put' e4592 g0 rfl
                                  have k4595 : H4591 r0 2 = v4365 := wq_u_s e4592
                                  exact wp_return e16 c16_285 rfl ⟨rfl, w4593, f4594, rfl⟩
                                · refine wp_of e16 c16_234 (rw_aload_n (pc' := 235) (v := .ref r0) rfl rfl rfl ?_)
                                  refine wp_of e16 c16_235 (rw_aload_n (pc' := 236) (v := .ref r0) rfl rfl rfl ?_)
                                  refine wp_of e16 c16_236 (xg_K (pc' := 239) lf_2_7 w4367 g0 sh_4 (by decide) (by decide) rfl q4574 rfl ?_)
                                  refine wp_of e16 c16_239 (rw_iload_n (pc' := 240) (z := v4365) rfl rfl ?_)
                                  refine wp_of e16 c16_240 (xa_B (by decide) (pc' := 241) w4367 grb sh_2 (by decide) (ty_2 _) (by omega) (by omega) rfl (fun b4596 b4597 => ?_))
                                  refine wp_of e16 c16_241 (rw_bipush (pc' := 243) (z := 59) rfl (by decide) ?_)
                                  refine wp_of e16 c16_243 (rw_icmp_ne (p1 := 250) (p2 := 246) (by decide) rfl ⟨by omega, by omega⟩ ⟨by omega, by omega⟩ (fun c4598 => ?_) (fun c4598 => ?_))
                                  · refine wp_of e16 c16_250 (rw_aload_n (pc' := 251) (v := .ref r0) rfl rfl rfl ?_)
                                    refine wp_of e16 c16_251 (xg_K (pc' := 254) lf_2_7 w4367 g0 sh_4 (by decide) (by decide) rfl q4574 rfl ?_)
                                    refine wp_of e16 c16_254 (rw_iload_n (pc' := 255) (z := v4365) rfl rfl ?_)
                                    refine wp_of e16 c16_255 (xa_B (by decide) (pc' := 256) w4367 grb sh_2 (by decide) (ty_2 _) (by omega) (by omega) rfl (fun b4599 b4600 => ?_))
                                    refine wp_of e16 c16_256 (rw_bipush (pc' := 258) (z := 44) rfl (by decide) ?_)
                                    refine wp_of e16 c16_258 (rw_icmp_ne (p1 := 265) (p2 := 261) (by decide) rfl ⟨by omega, by omega⟩ ⟨by omega, by omega⟩ (fun c4601 => ?_) (fun c4601 => ?_))
                                    · refine wp_of e16 c16_265 (rw_iconst (pc' := 266) rfl ?_)
                                      refine wp_of e16 c16_266 (xp_I (pc' := 269) lf_2_41 w4367 g0 sh_4 (by decide) (by decide) ty_4_3 rfl rfl (by omega) (by omega) ⟨by omega, by omega⟩ rfl (fun H4602 e4603 w4604 => ?_))
                                      have f4605 := f4371.put' e4603 g0 rfl
                                      have k4606 : H4602 r0 3 = 5 := wq_u_s e4603
                                      refine wp_of e16 c16_269 (rw_iinc (pc' := 272) (z := v4365) (L' := [(1, vI (v4365 + 1)), (3, vI ((v4365 - (H4366 r0 4)) - (v3442 - (H3443 r0 4)))), (2, vI (v3442 - (H3443 r0 4))), (0, .ref r0)]) rfl rfl rfl rfl ?_)
                                      refine wp_of e16 c16_272 (rw_goto (p1 := 280) (by decide) ?_)
                                      refine wp_of e16 c16_280 (rw_aload_n (pc' := 281) (v := .ref r0) rfl rfl rfl ?_)
                                      refine wp_of e16 c16_281 (rw_iload_n (pc' := 282) (z := v4365 + 1) rfl rfl ?_)
                                      refine wp_of e16 c16_282 (xp_I (pc' := 285) lf_2_23 w4604 g0 sh_4 (by decide) (by decide) ty_4_2 rfl rfl (by omega) (by omega) ⟨by omega, by omega⟩ rfl (fun H4607 e4608 w4609 => ?_))
                                      have f4610 := f4605.put' e4608 g0 rfl
                                      have k4611 : H4607 r0 2 = v4365 + 1 := wq_u_s e4608
                                      exact wp_return e16 c16_285 rfl ⟨rfl, w4609, f4610, rfl⟩
                                    · refine wp_of e16 c16_261 (rw_iconst (pc' := 262) rfl ?_)
                                      refine wp_of e16 c16_262 (rw_goto (p1 := 266) (by decide) ?_)
                                      refine wp_of e16 c16_266 (xp_I (pc' := 269) lf_2_41 w4367 g0 sh_4 (by decide) (by decide) ty_4_3 rfl rfl (by omega) (by omega) ⟨by omega, by omega⟩ rfl (fun H4612 e4613 w4614 => ?_))
                                      have f4615 := f4371.put' e4613 g0 rfl
                                      have k4616 : H4612 r0 3 = 4 := wq_u_s e4613
                                      refine wp_of e16 c16_269 (rw_iinc (pc' := 272) (z := v4365) (L' := [(1, vI (v4365 + 1)), (3, vI ((v4365 - (H4366 r0 4)) - (v3442 - (H3443 r0 4)))), (2, vI (v3442 - (H3443 r0 4))), (0, .ref r0)]) rfl rfl rfl rfl ?_)
                                      refine wp_of e16 c16_272 (rw_goto (p1 := 280) (by decide) ?_)
                                      refine wp_of e16 c16_280 (rw_aload_n (pc' := 281) (v := .ref r0) rfl rfl rfl ?_)
                                      refine wp_of e16 c16_281 (rw_iload_n (pc' := 282) (z := v4365 + 1) rfl rfl ?_)
                                      refine wp_of e16 c16_282 (xp_I (pc' := 285) lf_2_23 w4614 g0 sh_4 (by decide) (by decide) ty_4_2 rfl rfl (by omega) (by omega) ⟨by omega, by omega⟩ rfl (fun H4617 e4618 w4619 => ?_))
                                      have f4620 := f4615.put' e4618 g0 rfl
                                      have k4621 : H4617 r0 2 = v4365 + 1 := wq_u_s e4618
                                      exact wp_return e16 c16_285 rfl ⟨rfl, w4619, f4620, rfl⟩
                                  · exfalso
                                    omega
                              · refine wp_of e16 c16_209 (rw_aload_n (pc' := 210) (v := .ref r0) rfl rfl rfl ?_)
                                refine wp_of e16 c16_210 (rw_iload_n (pc' := 211) (z := (v4365 - (H4366 r0 4)) - (v3442 - (H3443 r0 4))) rfl rfl ?_)
                                refine wp_of e16 c16_211 (rw_iconst (pc' := 212) rfl ?_)
                                refine wp_of e16 c16_212 (rw_icmp_gt (p1 := 219) (p2 := 215) (by decide) rfl ⟨by omega, by omega⟩ ⟨by omega, by omega⟩ (fun c4622 => ?_) (fun c4622 => ?_))
                                · refine wp_of e16 c16_219 (rw_iconst (pc' := 220) rfl ?_)
                                  refine wp_of e16 c16_220 (xp_I (pc' := 223) lf_2_41 w4367 g0 sh_4 (by decide) (by decide) ty_4_3 rfl rfl (by omega) (by omega) ⟨by omega, by omega⟩ rfl (fun H4623 e4624 w4625 => ?_))
                                  have f4626 := f4371.put' e4624 g0 rfl
                                  have k4627 : H4623 r0 3 = 5 := wq_u_s e4624
                                  refine wp_of e16 c16_223 (rw_goto (p1 := 280) (by decide) ?_)
                                  refine wp_of e16 c16_280 (rw_aload_n (pc' := 281) (v := .ref r0) rfl rfl rfl ?_)
                                  refine wp_of e16 c16_281 (rw_iload_n (pc' := 282) (z := v4365) rfl rfl ?_)
                                  refine wp_of e16 c16_282 (xp_I (pc' := 285) lf_2_23 w4625 g0 sh_4 (by decide) (by decide) ty_4_2 rfl rfl (by omega) (by omega) ⟨by omega, by omega⟩ rfl (fun H4628 e4629 w4630 => ?_))
                                  have f4631 := f4626.put' e4629 g0 rfl
                                  have k4632 : H4628 r0 2 = v4365 := wq_u_s e4629
                                  exact wp_return e16 c16_285 rfl ⟨rfl, w4630, f4631, rfl⟩
                                · refine wp_of e16 c16_215 (rw_iconst (pc' := 216) rfl ?_)
                                  refine wp_of e16 c16_216 (rw_goto (p1 := 220) (by decide) ?_)
                                  refine wp_of e16 c16_220 (xp_I (pc' := 223) lf_2_41 w4367 g0 sh_4 (by decide) (by decide) ty_4_3 rfl rfl (by omega) (by omega) ⟨by omega, by omega⟩ rfl (fun H4633 e4634 w4635 => ?_))
                                  have f4636 := f4371.put' e4634 g0 rfl
                                  have k4637 : H4633 r0 3 = 2 := wq_u_s e4634
                                  refine wp_of e16 c16_223 (rw_goto (p1 := 280) (by decide) ?_)
                                  refine wp_of e16 c16_280 (rw_aload_n (pc' := 281) (v := .ref r0) rfl rfl rfl ?_)
                                  refine wp_of e16 c16_281 (rw_iload_n (pc' := 282) (z := v4365) rfl rfl ?_)
                                  refine wp_of e16 c16_282 (xp_I (pc' := 285) lf_2_23 w4635 g0 sh_4 (by decide) (by decide) ty_4_2 rfl rfl (by omega) (by omega) ⟨by omega, by omega⟩ rfl (fun H4638 e4639 w4640 => ?_))
                                  have f4641 := f4636.put' e4639 g0 rfl
                                  have k4642 : H4638 r0 2 = v4365 := wq_u_s e4639
                                  exact wp_return e16 c16_285 rfl ⟨rfl, w4640, f4641, rfl⟩
                            · exfalso
                              omega
                          · refine wp_of e16 c16_136 (rw_aload_n (pc' := 137) (v := .ref r0) rfl rfl rfl ?_)
                            refine wp_of e16 c16_137 (xg_K (pc' := 140) lf_2_7 w4367 g0 sh_4 (by decide) (by decide) rfl q4574 rfl ?_)
                            refine wp_of e16 c16_140 (rw_iload_n (pc' := 141) (z := v4365) rfl rfl ?_)
                            refine wp_of e16 c16_141 (xa_B (by decide) (pc' := 142) w4367 grb sh_2 (by decide) (ty_2 _) (by omega) (by omega) rfl (fun b4643 b4644 => ?_))
                            refine wp_of e16 c16_142 (rw_bipush (pc' := 144) (z := 57) rfl (by decide) ?_)
                            refine wp_of e16 c16_144 (rw_icmp_gt (p1 := 174) (p2 := 147) (by decide) rfl ⟨by omega, by omega⟩ ⟨by omega, by omega⟩ (fun c4645 => ?_) (fun c4645 => ?_))
                            · refine wp_of e16 c16_174 (rw_iload_n (pc' := 175) (z := v4365) rfl rfl ?_)
                              refine wp_of e16 c16_175 (rw_aload_n (pc' := 176) (v := .ref r0) rfl rfl rfl ?_)
                              have k4646 : H4366 r0 4 = H3443 r0 4 := ((f4368 r0 4 _ g0 rfl).trans (wq_u_j e4309 rfl))
                              refine wp_of e16 c16_176 (xg_I (pc' := 179) lf_2_29 w4367 g0 sh_4 (by decide) (by decide) ty_4_4 rfl rfl (fun b4647 b4648 => ?_))
                              refine wp_of e16 c16_179 (rw_isub (pc' := 180) rfl ?_)
                              refine wp_of e16 c16_180 (rw_iload_n (pc' := 181) (z := v3442 - (H3443 r0 4)) rfl rfl ?_)
                              refine wp_of e16 c16_181 (rw_isub (pc' := 182) rfl ?_)
                              refine wp_of e16 c16_182 (rw_istore_n (pc' := 183) (z := (v4365 - (H4366 r0 4)) - (v3442 - (H3443 r0 4))) (L' := [(3, vI ((v4365 - (H4366 r0 4)) - (v3442 - (H3443 r0 4)))), (1, vI v4365), (2, vI (v3442 - (H3443 r0 4))), (0, .ref r0)]) rfl rfl rfl ?_)
                              refine wp_of e16 c16_183 (rw_iload_n (pc' := 184) (z := v3442 - (H3443 r0 4)) rfl rfl ?_)
                              refine wp_of e16 c16_184 (rw_if_le (p1 := 205) (p2 := 187) (by decide) rfl ⟨by omega, by omega⟩ (fun c4649 => ?_) (fun c4649 => ?_))
                              · refine wp_of e16 c16_205 (rw_iload_n (pc' := 206) (z := (v4365 - (H4366 r0 4)) - (v3442 - (H3443 r0 4))) rfl rfl ?_)
                                refine wp_of e16 c16_206 (rw_if_le (p1 := 226) (p2 := 209) (by decide) rfl ⟨by omega, by omega⟩ (fun c4650 => ?_) (fun c4650 => ?_))
                                · refine wp_of e16 c16_226 (rw_iload_n (pc' := 227) (z := v4365) rfl rfl ?_)
                                  refine wp_of e16 c16_227 (rw_aload_n (pc' := 228) (v := .ref r0) rfl rfl rfl ?_)
                                  refine wp_of e16 c16_228 (xg_I (pc' := 231) lf_2_19 w4367 g0 sh_4 (by decide) (by decide) ty_4_1 rfl rfl (fun b4651 b4652 => ?_))
                                  refine wp_of e16 c16_231 (rw_icmp_ge (p1 := 275) (p2 := 234) (by decide) rfl ⟨by omega, by omega⟩ ⟨by omega, by omega⟩ (fun c4653 => ?_) (fun c4653 => ?_))
                                  · refine wp_of e16 c16_275 (rw_aload_n (pc' := 276) (v := .ref r0) rfl rfl rfl ?_)
                                    refine wp_of e16 c16_276 (rw_iconst (pc' := 277) rfl ?_)
                                    refine wp_of e16 c16_277 (xp_I (pc' := 280) lf_2_41 w4367 g0 sh_4 (by decide) (by decide) ty_4_3 rfl rfl (by omega) (by omega) ⟨by omega, by omega⟩ rfl (fun H4654 e4655 w4656 => ?_))
                                    have f4657 := f4371.put' e4655 g0 rfl
                                    have k4658 : H4654 r0 3 = 0 := wq_u_s e4655
                                    refine wp_of e16 c16_280 (rw_aload_n (pc' := 281) (v := .ref r0) rfl rfl rfl ?_)
                                    refine wp_of e16 c16_281 (rw_iload_n (pc' := 282) (z := v4365) rfl rfl ?_)
                                    refine wp_of e16 c16_282 (xp_I (pc' := 285) lf_2_23 w4656 g0 sh_4 (by decide) (by decide) ty_4_2 rfl rfl (by omega) (by omega) ⟨by omega, by omega⟩ rfl (fun H4659 e4660 w4661 => ?_))
                                    have f4662 := f4657.put' e4660 g0 rfl
                                    have k4663 : H4659 r0 2 = v4365 := wq_u_s e4660
                                    exact wp_return e16 c16_285 rfl ⟨rfl, w4661, f4662, rfl⟩
                                  · refine wp_of e16 c16_234 (rw_aload_n (pc' := 235) (v := .ref r0) rfl rfl rfl ?_)
                                    refine wp_of e16 c16_235 (rw_aload_n (pc' := 236) (v := .ref r0) rfl rfl rfl ?_)
                                    refine wp_of e16 c16_236 (xg_K (pc' := 239) lf_2_7 w4367 g0 sh_4 (by decide) (by decide) rfl q4574 rfl ?_)
                                    refine wp_of e16 c16_239 (rw_iload_n (pc' := 240) (z := v4365) rfl rfl ?_)
                                    refine wp_of e16 c16_240 (xa_B (by decide) (pc' := 241) w4367 grb sh_2 (by decide) (ty_2 _) (by omega) (by omega) rfl (fun b4664 b4665 => ?_))
                                    refine wp_of e16 c16_241 (rw_bipush (pc' := 243) (z := 59) rfl (by decide) ?_)
                                    refine wp_of e16 c16_243 (rw_icmp_ne (p1 := 250) (p2 := 246) (by decide) rfl ⟨by omega, by omega⟩ ⟨by omega, by omega⟩ (fun c4666 => ?_) (fun c4666 => ?_))
                                    · refine wp_of e16 c16_250 (rw_aload_n (pc' := 251) (v := .ref r0) rfl rfl rfl ?_)
                                      refine wp_of e16 c16_251 (xg_K (pc' := 254) lf_2_7 w4367 g0 sh_4 (by decide) (by decide) rfl q4574 rfl ?_)
                                      refine wp_of e16 c16_254 (rw_iload_n (pc' := 255) (z := v4365) rfl rfl ?_)
                                      refine wp_of e16 c16_255 (xa_B (by decide) (pc' := 256) w4367 grb sh_2 (by decide) (ty_2 _) (by omega) (by omega) rfl (fun b4667 b4668 => ?_))
                                      refine wp_of e16 c16_256 (rw_bipush (pc' := 258) (z := 44) rfl (by decide) ?_)
                                      refine wp_of e16 c16_258 (rw_icmp_ne (p1 := 265) (p2 := 261) (by decide) rfl ⟨by omega, by omega⟩ ⟨by omega, by omega⟩ (fun c4669 => ?_) (fun c4669 => ?_))
                                      · refine wp_of e16 c16_265 (rw_iconst (pc' := 266) rfl ?_)
                                        refine wp_of e16 c16_266 (xp_I (pc' := 269) lf_2_41 w4367 g0 sh_4 (by decide) (by decide) ty_4_3 rfl rfl (by omega) (by omega) ⟨by omega, by omega⟩ rfl (fun H4670 e4671 w4672 => ?_))
                                        have f4673 := f4371.put' e4671 g0 rfl
                                        have k4674 : H4670 r0 3 = 5 := wq_u_s e4671
                                        refine wp_of e16 c16_269 (rw_iinc (pc' := 272) (z := v4365) (L' := [(1, vI (v4365 + 1)), (3, vI ((v4365 - (H4366 r0 4)) - (v3442 - (H3443 r0 4)))), (2, vI (v3442 - (H3443 r0 4))), (0, .ref r0)]) rfl rfl rfl rfl ?_)
                                        refine wp_of e16 c16_272 (rw_goto (p1 := 280) (by decide) ?_)
                                        refine wp_of e16 c16_280 (rw_aload_n (pc' := 281) (v := .ref r0) rfl rfl rfl ?_)
                                        refine wp_of e16 c16_281 (rw_iload_n (pc' := 282) (z := v4365 + 1) rfl rfl ?_)
                                        refine wp_of e16 c16_282 (xp_I (pc' := 285) lf_2_23 w4672 g0 sh_4 (by decide) (by decide) ty_4_2 rfl rfl (by omega) (by omega) ⟨by omega, by omega⟩ rfl (fun H4675 e4676 w4677 => ?_))
                                        have f4678 := f4673.put' e4676 g0 rfl
                                        have k4679 : H4675 r0 2 = v4365 + 1 := wq_u_s e4676
                                        exact wp_return e16 c16_285 rfl ⟨rfl, w4677, f4678, rfl⟩
                                      · exfalso
                                        omega
                                    · refine wp_of e16 c16_246 (rw_iconst (pc' := 247) rfl ?_)
                                      refine wp_of e16 c16_247 (rw_goto (p1 := 266) (by decide) ?_)
                                      refine wp_of e16 c16_266 (xp_I (pc' := 269) lf_2_41 w4367 g0 sh_4 (by decide) (by decide) ty_4_3 rfl rfl (by omega) (by omega) ⟨by omega, by omega⟩ rfl (fun H4680 e4681 w4682 => ?_))
                                      have f4683 := f4371.put' e4681 g0 rfl
                                      have k4684 : H4680 r0 3 = 3 := wq_u_s e4681
                                      refine wp_of e16 c16_269 (rw_iinc (pc' := 272) (z := v4365) (L' := [(1, vI (v4365 + 1)), (3, vI ((v4365 - (H4366 r0 4)) - (v3442 - (H3443 r0 4)))), (2, vI (v3442 - (H3443 r0 4))), (0, .ref r0)]) rfl rfl rfl rfl ?_)
                                      refine wp_of e16 c16_272 (rw_goto (p1 := 280) (by decide) ?_)
                                      refine wp_of e16 c16_280 (rw_aload_n (pc' := 281) (v := .ref r0) rfl rfl rfl ?_)
                                      refine wp_of e16 c16_281 (rw_iload_n (pc' := 282) (z := v4365 + 1) rfl rfl ?_)
                                      refine wp_of e16 c16_282 (xp_I (pc' := 285) lf_2_23 w4682 g0 sh_4 (by decide) (by decide) ty_4_2 rfl rfl (by omega) (by omega) ⟨by omega, by omega⟩ rfl (fun H4685 e4686 w4687 => ?_))
                                      have f4688 := f4683.put' e4686 g0 rfl
                                      have k4689 : H4685 r0 2 = v4365 + 1 := wq_u_s e4686
                                      exact wp_return e16 c16_285 rfl ⟨rfl, w4687, f4688, rfl⟩
                                · refine wp_of e16 c16_209 (rw_aload_n (pc' := 210) (v := .ref r0) rfl rfl rfl ?_)
                                  refine wp_of e16 c16_210 (rw_iload_n (pc' := 211) (z := (v4365 - (H4366 r0 4)) - (v3442 - (H3443 r0 4))) rfl rfl ?_)
                                  refine wp_of e16 c16_211 (rw_iconst (pc' := 212) rfl ?_)
                                  refine wp_of e16 c16_212 (rw_icmp_gt (p1 := 219) (p2 := 215) (by decide) rfl ⟨by omega, by omega⟩ ⟨by omega, by omega⟩ (fun c4690 => ?_) (fun c4690 => ?_))
                                  · refine wp_of e16 c16_219 (rw_iconst (pc' := 220) rfl ?_)
                                    refine wp_of e16 c16_220 (xp_I (pc' := 223) lf_2_41 w4367 g0 sh_4 (by decide) (by decide) ty_4_3 rfl rfl (by omega) (by omega) ⟨by omega, by omega⟩ rfl (fun H4691 e4692 w4693 => ?_))
                                    have f4694 := f4371.put' e4692 g0 rfl
                                    have k4695 : H4691 r0 3 = 5 := wq_u_s e4692
                                    refine wp_of e16 c16_223 (rw_goto (p1 := 280) (by decide) ?_)
                                    refine wp_of e16 c16_280 (rw_aload_n (pc' := 281) (v := .ref r0) rfl rfl rfl ?_)
                                    refine wp_of e16 c16_281 (rw_iload_n (pc' := 282) (z := v4365) rfl rfl ?_)
                                    refine wp_of e16 c16_282 (xp_I (pc' := 285) lf_2_23 w4693 g0 sh_4 (by decide) (by decide) ty_4_2 rfl rfl (by omega) (by omega) ⟨by omega, by omega⟩ rfl (fun H4696 e4697 w4698 => ?_))
                                    have f4699 := f4694.put' e4697 g0 rfl
                                    have k4700 : H4696 r0 2 = v4365 := wq_u_s e4697
                                    exact wp_return e16 c16_285 rfl ⟨rfl, w4698, f4699, rfl⟩
                                  · refine wp_of e16 c16_215 (rw_iconst (pc' := 216) rfl ?_)
                                    refine wp_of e16 c16_216 (rw_goto (p1 := 220) (by decide) ?_)
                                    refine wp_of e16 c16_220 (xp_I (pc' := 223) lf_2_41 w4367 g0 sh_4 (by decide) (by decide) ty_4_3 rfl rfl (by omega) (by omega) ⟨by omega, by omega⟩ rfl (fun H4701 e4702 w4703 => ?_))
                                    have f4704 := f4371.put' e4702 g0 rfl
                                    have k4705 : H4701 r0 3 = 2 := wq_u_s e4702
                                    refine wp_of e16 c16_223 (rw_goto (p1 := 280) (by decide) ?_)
                                    refine wp_of e16 c16_280 (rw_aload_n (pc' := 281) (v := .ref r0) rfl rfl rfl ?_)
                                    refine wp_of e16 c16_281 (rw_iload_n (pc' := 282) (z := v4365) rfl rfl ?_)
                                    refine wp_of e16 c16_282 (xp_I (pc' := 285) lf_2_23 w4703 g0 sh_4 (by decide) (by decide) ty_4_2 rfl rfl (by omega) (by omega) ⟨by omega, by omega⟩ rfl (fun H4706 e4707 w4708 => ?_))
                                    have f4709 := f4704.put' e4707 g0 rfl
                                    have k4710 : H4706 r0 2 = v4365 := wq_u_s e4707
                                    exact wp_return e16 c16_285 rfl ⟨rfl, w4708, f4709, rfl⟩
                              · exfalso
                                omega
                            · refine wp_of e16 c16_147 (rw_aload_n (pc' := 148) (v := .ref r0) rfl rfl rfl ?_)
                              refine wp_of e16 c16_148 (rw_aload_n (pc' := 149) (v := .ref r0) rfl rfl rfl ?_)
                              refine wp_of e16 c16_149 (xg_I (pc' := 152) lf_2_38 w4367 g0 sh_4 (by decide) (by decide) ty_4_5 rfl rfl (fun b4711 b4712 => ?_))
                              refine wp_of e16 c16_152 (rw_bipush (pc' := 154) (z := 10) rfl (by decide) ?_)
                              refine wp_of e16 c16_154 (rw_imulw (pc' := 155) rfl ?_)
                              obtain ⟨v4713, e4714⟩ : ∃ x : Int, x = wq_w ((H4366 r0 5) * 10) := ⟨_, rfl⟩
                              rw [← e4714]
                              have b4715 : -2147483648 ≤ v4713 ∧ v4713 ≤ 2147483647 := by
                                rw [e4714]
                                exact wI_w _
                              refine wp_of e16 c16_155 (rw_aload_n (pc' := 156) (v := .ref r0) rfl rfl rfl ?_)
                              refine wp_of e16 c16_156 (xg_K (pc' := 159) lf_2_7 w4367 g0 sh_4 (by decide) (by decide) rfl q4574 rfl ?_)
                              refine wp_of e16 c16_159 (rw_iload_n (pc' := 160) (z := v4365) rfl rfl ?_)
                              refine wp_of e16 c16_160 (xa_B (by decide) (pc' := 161) w4367 grb sh_2 (by decide) (ty_2 _) (by omega) (by omega) rfl (fun b4716 b4717 => ?_))
                              refine wp_of e16 c16_161 (rw_bipush (pc' := 163) (z := 48) rfl (by decide) ?_)
                              refine wp_of e16 c16_163 (rw_isub (pc' := 164) rfl ?_)
                              refine wp_of e16 c16_164 (rw_iaddw (pc' := 165) rfl ?_)
                              obtain ⟨v4718, e4719⟩ : ∃ x : Int, x = wq_w (v4713 + ((H4366 rb (v4365.toNat)) - 48)) := ⟨_, rfl⟩
                              rw [← e4719]
                              have b4720 : -2147483648 ≤ v4718 ∧ v4718 ≤ 2147483647 := by
                                rw [e4719]
                                exact wI_w _
                              refine wp_of e16 c16_165 (xp_I (pc' := 168) lf_2_38 w4367 g0 sh_4 (by decide) (by decide) ty_4_5 rfl rfl (by omega) (by omega) ⟨by omega, by omega⟩ rfl (fun H4721 e4722 w4723 => ?_))
                              have f4724 := f4371.put' e4722 g0 rfl
                              have f4725 := f4368.put' e4722 g0 rfl
                              have k4726 : H4721 r0 5 = v4718 := wq_u_s e4722
                              refine wp_of e16 c16_168 (rw_iinc (pc' := 171) (z := v4365) (L' := [(1, vI (v4365 + 1)), (2, vI (v3442 - (H3443 r0 4))), (0, .ref r0)]) rfl rfl rfl rfl ?_)
                              refine wp_of e16 c16_171 (rw_goto (p1 := 113) (by decide) ?_)
                              exact wp_lc (ks := [1, 2, 0]) (wl_c rfl (wl_c rfl (wl_c rfl wl_n))) rfl (by decide) (ih4364 _ (by omega) (v4365 + 1) H4721 w4723 f4725 ⟨by omega, by omega⟩ rfl)
                  exact wp_lc (ks := [2, 1, 0]) (wl_c rfl (wl_c rfl (wl_c rfl wl_n))) rfl (by decide) (lp4362 _ v3442 H4308 w4310 wfr.rf ⟨by omega, by omega⟩ rfl)
                · refine wp_of e16 c16_70 (rw_aload_n (pc' := 71) (v := .ref r0) rfl rfl rfl ?_)
                  refine wp_of e16 c16_71 (rw_aload_n (pc' := 72) (v := .ref r0) rfl rfl rfl ?_)
                  refine wp_of e16 c16_72 (xg_L (pc' := 75) lf_2_32 w3444 g0 sh_4 (by decide) (by decide) ty_4_6 rfl rfl (fun b4727 b4728 => ?_))
                  refine wp_of e16 c16_75 (rw_ldc2 (pc' := 78) (z := 32) rfl rfl rfl ?_)
                  refine wp_of e16 c16_78 (rw_lmulw (pc' := 79) rfl ?_)
                  obtain ⟨v4729, e4730⟩ : ∃ x : Int, x = wl_w ((H3443 r0 6) * 32) := ⟨_, rfl⟩
                  rw [← e4730]
                  have b4731 : -9223372036854775808 ≤ v4729 ∧ v4729 ≤ 9223372036854775807 := by
                    rw [e4730]
                    exact wL_w _
                  refine wp_of e16 c16_79 (rw_aload_n (pc' := 80) (v := .ref r0) rfl rfl rfl ?_)
                  refine wp_of e16 c16_80 (xg_K (pc' := 83) lf_2_7 w3444 g0 sh_4 (by decide) (by decide) rfl q3876 rfl ?_)
                  refine wp_of e16 c16_83 (rw_iload_n (pc' := 84) (z := v3442) rfl rfl ?_)
                  refine wp_of e16 c16_84 (xa_B (by decide) (pc' := 85) w3444 grb sh_2 (by decide) (ty_2 _) (by omega) (by omega) rfl (fun b4732 b4733 => ?_))
                  refine wp_of e16 c16_85 (rw_bipush (pc' := 87) (z := 97) rfl (by decide) ?_)
                  refine wp_of e16 c16_87 (rw_isub (pc' := 88) rfl ?_)
                  refine wp_of e16 c16_88 (rw_iconst (pc' := 89) rfl ?_)
                  refine wp_of e16 c16_89 (rw_iadd (pc' := 90) rfl ?_)
                  refine wp_of e16 c16_90 (rw_i2l (pc' := 91) rfl ⟨by omega, by omega⟩ ?_)
                  refine wp_of e16 c16_91 (rw_laddw (pc' := 92) rfl ?_)
                  obtain ⟨v4734, e4735⟩ : ∃ x : Int, x = wl_w (v4729 + (((H3443 rb (v3442.toNat)) - 97) + 1)) := ⟨_, rfl⟩
                  rw [← e4735]
                  have b4736 : -9223372036854775808 ≤ v4734 ∧ v4734 ≤ 9223372036854775807 := by
                    rw [e4735]
                    exact wL_w _
                  refine wp_of e16 c16_92 (xp_L (pc' := 95) lf_2_32 w3444 g0 sh_4 (by decide) (by decide) ty_4_6 rfl rfl (by omega) (by omega) ⟨by omega, by omega⟩ rfl (fun H4737 e4738 w4739 => ?_))
                  have f4740 := f3448.put' e4738 g0 rfl
                  have f4741 := f3445.put' e4738 g0 rfl
                  have k4742 : H4737 r0 6 = v4734 := wq_u_s e4738
                  refine wp_of e16 c16_95 (rw_iinc (pc' := 98) (z := v3442) (L' := [(1, vI (v3442 + 1)), (0, .ref r0)]) rfl rfl rfl rfl ?_)
                  refine wp_of e16 c16_98 (rw_goto (p1 := 40) (by decide) ?_)
                  exact wp_lc (ks := [1, 0]) (wl_c rfl (wl_c rfl wl_n)) rfl (by decide) (ih3441 _ (by omega) (v3442 + 1) H4737 w4739 f4741 ⟨by omega, by omega⟩ rfl)
        exact wp_lc (ks := [1, 0]) (wl_c rfl (wl_c rfl wl_n)) rfl (by decide) (lp3439 _ v3374 H3387 w3389 wfr.rf ⟨by omega, by omega⟩ rfl)
      · refine wp_of e16 c16_13 (rw_aload_n (pc' := 14) (v := .ref r0) rfl rfl rfl ?_)
        refine wp_of e16 c16_14 (xg_K (pc' := 17) lf_2_7 hW g0 sh_4 (by decide) (by decide) rfl qrb rfl ?_)
        refine wp_of e16 c16_17 (rw_iload_n (pc' := 18) (z := v3374) rfl rfl ?_)
        refine wp_of e16 c16_18 (xa_B (by decide) (pc' := 19) hW grb sh_2 (by decide) (ty_2 _) (by omega) (by omega) rfl (fun b4743 b4744 => ?_))
        refine wp_of e16 c16_19 (rw_bipush (pc' := 21) (z := 32) rfl (by decide) ?_)
        refine wp_of e16 c16_21 (rw_icmp_ne (p1 := 30) (p2 := 24) (by decide) rfl ⟨by omega, by omega⟩ ⟨by omega, by omega⟩ (fun c4745 => ?_) (fun c4745 => ?_))
        · refine wp_of e16 c16_30 (rw_aload_n (pc' := 31) (v := .ref r0) rfl rfl rfl ?_)
          refine wp_of e16 c16_31 (rw_iload_n (pc' := 32) (z := v3374) rfl rfl ?_)
          refine wp_of e16 c16_32 (xp_I (pc' := 35) lf_2_29 hW g0 sh_4 (by decide) (by decide) ty_4_4 rfl rfl (by omega) (by omega) ⟨by omega, by omega⟩ rfl (fun H4746 e4747 w4748 => ?_))
          have f4749 := f0.put' e4747 g0 rfl
          have k4750 : H4746 r0 4 = v3374 := wq_u_s e4747
          refine wp_of e16 c16_35 (rw_aload_n (pc' := 36) (v := .ref r0) rfl rfl rfl ?_)
          refine wp_of e16 c16_36 (rw_lconst (pc' := 37) (z := 0) rfl rfl ?_)
          refine wp_of e16 c16_37 (xp_L (pc' := 40) lf_2_32 w4748 g0 sh_4 (by decide) (by decide) ty_4_6 rfl rfl (by omega) (by omega) ⟨by omega, by omega⟩ rfl (fun H4751 e4752 w4753 => ?_))
          have f4754 := f4749.put' e4752 g0 rfl
          have k4755 : H4751 r0 6 = 0 := wq_u_s e4752
          have lp4803 : ∀ (n4804 : Nat) (v4806 : Int) (H4807 : wq_H), WT T H4807 → wfr [(4, 6)] T H4751 H4807 → (0 ≤ v4806 ∧ v4806 ≤ 900) → (900 - v4806).toNat = n4804 → wp kt 0 16 40 [(1, vI v4806), (0, .ref r0)] [] T H4807 (q_16 r0 rb T H) := by
            intro n4804
            induction n4804 using Nat.strongRecOn with
            | _ n4804 ih4805 =>
              intro v4806 H4807 w4808 f4809 b4810 m4811
              have f4812 := f4754.tr f4809 rfl
              refine wp_of e16 c16_40 (rw_iload_n (pc' := 41) (z := v4806) rfl rfl ?_)
              refine wp_of e16 c16_41 (rw_aload_n (pc' := 42) (v := .ref r0) rfl rfl rfl ?_)
              have k4813 : H4807 r0 1 = H r0 1 := ((f4809 r0 1 _ g0 rfl).trans ((wq_u_j e4752 rfl).trans (wq_u_j e4747 rfl)))
              refine wp_of e16 c16_42 (xg_I (pc' := 45) lf_2_19 w4808 g0 sh_4 (by decide) (by decide) ty_4_1 rfl rfl (fun b4814 b4815 => ?_))
              refine wp_of e16 c16_45 (rw_icmp_ge (p1 := 101) (p2 := 48) (by decide) rfl ⟨by omega, by omega⟩ ⟨by omega, by omega⟩ (fun c4816 => ?_) (fun c4816 => ?_))
              · refine wp_of e16 c16_101 (rw_iload_n (pc' := 102) (z := v4806) rfl rfl ?_)
                refine wp_of e16 c16_102 (rw_aload_n (pc' := 103) (v := .ref r0) rfl rfl rfl ?_)
                have k4817 : H4807 r0 4 = H4746 r0 4 := ((f4809 r0 4 _ g0 rfl).trans (wq_u_j e4752 rfl))
                refine wp_of e16 c16_103 (xg_I (pc' := 106) lf_2_29 w4808 g0 sh_4 (by decide) (by decide) ty_4_4 rfl rfl (fun b4818 b4819 => ?_))
                refine wp_of e16 c16_106 (rw_isub (pc' := 107) rfl ?_)
                refine wp_of e16 c16_107 (rw_istore_n (pc' := 108) (z := v4806 - (H4807 r0 4)) (L' := [(2, vI (v4806 - (H4807 r0 4))), (1, vI v4806), (0, .ref r0)]) rfl rfl rfl ?_)
                refine wp_of e16 c16_108 (rw_aload_n (pc' := 109) (v := .ref r0) rfl rfl rfl ?_)
                refine wp_of e16 c16_109 (rw_iconst (pc' := 110) rfl ?_)
                refine wp_of e16 c16_110 (xp_I (pc' := 113) lf_2_38 w4808 g0 sh_4 (by decide) (by decide) ty_4_5 rfl rfl (by omega) (by omega) ⟨by omega, by omega⟩ rfl (fun H4820 e4821 w4822 => ?_))
                have f4823 := f4812.put' e4821 g0 rfl
                have k4824 : H4820 r0 5 = 0 := wq_u_s e4821
                have lp4874 : ∀ (n4875 : Nat) (v4877 : Int) (H4878 : wq_H), WT T H4878 → wfr [(4, 5)] T H4820 H4878 → (1 ≤ v4877 ∧ v4877 ≤ 900) → (900 - v4877).toNat = n4875 → wp kt 0 16 113 [(1, vI v4877), (2, vI (v4806 - (H4807 r0 4))), (0, .ref r0)] [] T H4878 (q_16 r0 rb T H) := by
                  intro n4875
                  induction n4875 using Nat.strongRecOn with
                  | _ n4875 ih4876 =>
                    intro v4877 H4878 w4879 f4880 b4881 m4882
                    have f4883 := f4823.tr f4880 rfl
                    refine wp_of e16 c16_113 (rw_iload_n (pc' := 114) (z := v4877) rfl rfl ?_)
                    refine wp_of e16 c16_114 (rw_aload_n (pc' := 115) (v := .ref r0) rfl rfl rfl ?_)
                    have k4884 : H4878 r0 1 = H4807 r0 1 := ((f4880 r0 1 _ g0 rfl).trans (wq_u_j e4821 rfl))
                    refine wp_of e16 c16_115 (xg_I (pc' := 118) lf_2_19 w4879 g0 sh_4 (by decide) (by decide) ty_4_1 rfl rfl (fun b4885 b4886 => ?_))
                    refine wp_of e16 c16_118 (rw_icmp_ge (p1 := 174) (p2 := 121) (by decide) rfl ⟨by omega, by omega⟩ ⟨by omega, by omega⟩ (fun c4887 => ?_) (fun c4887 => ?_))
                    · refine wp_of e16 c16_174 (rw_iload_n (pc' := 175) (z := v4877) rfl rfl ?_)
                      refine wp_of e16 c16_175 (rw_aload_n (pc' := 176) (v := .ref r0) rfl rfl rfl ?_)
                      have k4888 : H4878 r0 4 = H4807 r0 4 := ((f4880 r0 4 _ g0 rfl).trans (wq_u_j e4821 rfl))
                      refine wp_of e16 c16_176 (xg_I (pc' := 179) lf_2_29 w4879 g0 sh_4 (by decide) (by decide) ty_4_4 rfl rfl (fun b4889 b4890 => ?_))
                      refine wp_of e16 c16_179 (rw_isub (pc' := 180) rfl ?_)
                      refine wp_of e16 c16_180 (rw_iload_n (pc' := 181) (z := v4806 - (H4807 r0 4)) rfl rfl ?_)
                      refine wp_of e16 c16_181 (rw_isub (pc' := 182) rfl ?_)
                      refine wp_of e16 c16_182 (rw_istore_n (pc' := 183) (z := (v4877 - (H4878 r0 4)) - (v4806 - (H4807 r0 4))) (L' := [(3, vI ((v4877 - (H4878 r0 4)) - (v4806 - (H4807 r0 4)))), (1, vI v4877), (2, vI (v4806 - (H4807 r0 4))), (0, .ref r0)]) rfl rfl rfl ?_)
                      refine wp_of e16 c16_183 (rw_iload_n (pc' := 184) (z := v4806 - (H4807 r0 4)) rfl rfl ?_)
                      refine wp_of e16 c16_184 (rw_if_le (p1 := 205) (p2 := 187) (by decide) rfl ⟨by omega, by omega⟩ (fun c4891 => ?_) (fun c4891 => ?_))
                      · refine wp_of e16 c16_205 (rw_iload_n (pc' := 206) (z := (v4877 - (H4878 r0 4)) - (v4806 - (H4807 r0 4))) rfl rfl ?_)
                        refine wp_of e16 c16_206 (rw_if_le (p1 := 226) (p2 := 209) (by decide) rfl ⟨by omega, by omega⟩ (fun c4892 => ?_) (fun c4892 => ?_))
                        · refine wp_of e16 c16_226 (rw_iload_n (pc' := 227) (z := v4877) rfl rfl ?_)
                          refine wp_of e16 c16_227 (rw_aload_n (pc' := 228) (v := .ref r0) rfl rfl rfl ?_)
                          refine wp_of e16 c16_228 (xg_I (pc' := 231) lf_2_19 w4879 g0 sh_4 (by decide) (by decide) ty_4_1 rfl rfl (fun b4893 b4894 => ?_))
                          refine wp_of e16 c16_231 (rw_icmp_ge (p1 := 275) (p2 := 234) (by decide) rfl ⟨by omega, by omega⟩ ⟨by omega, by omega⟩ (fun c4895 => ?_) (fun c4895 => ?_))
                          · refine wp_of e16 c16_275 (rw_aload_n (pc' := 276) (v := .ref r0) rfl rfl rfl ?_)
                            refine wp_of e16 c16_276 (rw_iconst (pc' := 277) rfl ?_)
                            refine wp_of e16 c16_277 (xp_I (pc' := 280) lf_2_41 w4879 g0 sh_4 (by decide) (by decide) ty_4_3 rfl rfl (by omega) (by omega) ⟨by omega, by omega⟩ rfl (fun H4896 e4897 w4898 => ?_))
                            have f4899 := f4883.put' e4897 g0 rfl
                            have k4900 : H4896 r0 3 = 0 := wq_u_s e4897
                            refine wp_of e16 c16_280 (rw_aload_n (pc' := 281) (v := .ref r0) rfl rfl rfl ?_)
                            refine wp_of e16 c16_281 (rw_iload_n (pc' := 282) (z := v4877) rfl rfl ?_)
                            refine wp_of e16 c16_282 (xp_I (pc' := 285) lf_2_23 w4898 g0 sh_4 (by decide) (by decide) ty_4_2 rfl rfl (by omega) (by omega) ⟨by omega, by omega⟩ rfl (fun H4901 e4902 w4903 => ?_))
                            have f4904 := f4899.put' e4902 g0 rfl
                            have k4905 : H4901 r0 2 = v4877 := wq_u_s e4902
                            exact wp_return e16 c16_285 rfl ⟨rfl, w4903, f4904, rfl⟩
                          · refine wp_of e16 c16_234 (rw_aload_n (pc' := 235) (v := .ref r0) rfl rfl rfl ?_)
                            refine wp_of e16 c16_235 (rw_aload_n (pc' := 236) (v := .ref r0) rfl rfl rfl ?_)
                            have k4906 : H4878 r0 0 = H r0 0 := ((f4880 r0 0 _ g0 rfl).trans ((wq_u_j e4821 rfl).trans ((f4809 r0 0 _ g0 rfl).trans ((wq_u_j e4752 rfl).trans (wq_u_j e4747 rfl)))))
                            have q4907 : H4878 r0 0 = (rb : Int) := k4906.trans qrb
                            refine wp_of e16 c16_236 (xg_K (pc' := 239) lf_2_7 w4879 g0 sh_4 (by decide) (by decide) rfl q4907 rfl ?_)
                            refine wp_of e16 c16_239 (rw_iload_n (pc' := 240) (z := v4877) rfl rfl ?_)
                            refine wp_of e16 c16_240 (xa_B (by decide) (pc' := 241) w4879 grb sh_2 (by decide) (ty_2 _) (by omega) (by omega) rfl (fun b4908 b4909 => ?_))
                            refine wp_of e16 c16_241 (rw_bipush (pc' := 243) (z := 59) rfl (by decide) ?_)
                            refine wp_of e16 c16_243 (rw_icmp_ne (p1 := 250) (p2 := 246) (by decide) rfl ⟨by omega, by omega⟩ ⟨by omega, by omega⟩ (fun c4910 => ?_) (fun c4910 => ?_))
                            · refine wp_of e16 c16_250 (rw_aload_n (pc' := 251) (v := .ref r0) rfl rfl rfl ?_)
                              refine wp_of e16 c16_251 (xg_K (pc' := 254) lf_2_7 w4879 g0 sh_4 (by decide) (by decide) rfl q4907 rfl ?_)
                              refine wp_of e16 c16_254 (rw_iload_n (pc' := 255) (z := v4877) rfl rfl ?_)
                              refine wp_of e16 c16_255 (xa_B (by decide) (pc' := 256) w4879 grb sh_2 (by decide) (ty_2 _) (by omega) (by omega) rfl (fun b4911 b4912 => ?_))
                              refine wp_of e16 c16_256 (rw_bipush (pc' := 258) (z := 44) rfl (by decide) ?_)
                              refine wp_of e16 c16_258 (rw_icmp_ne (p1 := 265) (p2 := 261) (by decide) rfl ⟨by omega, by omega⟩ ⟨by omega, by omega⟩ (fun c4913 => ?_) (fun c4913 => ?_))
                              · refine wp_of e16 c16_265 (rw_iconst (pc' := 266) rfl ?_)
                                refine wp_of e16 c16_266 (xp_I (pc' := 269) lf_2_41 w4879 g0 sh_4 (by decide) (by decide) ty_4_3 rfl rfl (by omega) (by omega) ⟨by omega, by omega⟩ rfl (fun H4914 e4915 w4916 => ?_))
                                have f4917 := f4883.put' e4915 g0 rfl
                                have k4918 : H4914 r0 3 = 5 := wq_u_s e4915
                                refine wp_of e16 c16_269 (rw_iinc (pc' := 272) (z := v4877) (L' := [(1, vI (v4877 + 1)), (3, vI ((v4877 - (H4878 r0 4)) - (v4806 - (H4807 r0 4)))), (2, vI (v4806 - (H4807 r0 4))), (0, .ref r0)]) rfl rfl rfl rfl ?_)
                                refine wp_of e16 c16_272 (rw_goto (p1 := 280) (by decide) ?_)
                                refine wp_of e16 c16_280 (rw_aload_n (pc' := 281) (v := .ref r0) rfl rfl rfl ?_)
                                refine wp_of e16 c16_281 (rw_iload_n (pc' := 282) (z := v4877 + 1) rfl rfl ?_)
                                refine wp_of e16 c16_282 (xp_I (pc' := 285) lf_2_23 w4916 g0 sh_4 (by decide) (by decide) ty_4_2 rfl rfl (by omega) (by omega) ⟨by omega, by omega⟩ rfl (fun H4919 e4920 w4921 => ?_))
                                have f4922 := f4917.put' e4920 g0 rfl
                                have k4923 : H4919 r0 2 = v4877 + 1 := wq_u_s e4920
                                exact wp_return e16 c16_285 rfl ⟨rfl, w4921, f4922, rfl⟩
                              · refine wp_of e16 c16_261 (rw_iconst (pc' := 262) rfl ?_)
                                refine wp_of e16 c16_262 (rw_goto (p1 := 266) (by decide) ?_)
                                refine wp_of e16 c16_266 (xp_I (pc' := 269) lf_2_41 w4879 g0 sh_4 (by decide) (by decide) ty_4_3 rfl rfl (by omega) (by omega) ⟨by omega, by omega⟩ rfl (fun H4924 e4925 w4926 => ?_))
                                have f4927 := f4883.put' e4925 g0 rfl
                                have k4928 : H4924 r0 3 = 4 := wq_u_s e4925
                                refine wp_of e16 c16_269 (rw_iinc (pc' := 272) (z := v4877) (L' := [(1, vI (v4877 + 1)), (3, vI ((v4877 - (H4878 r0 4)) - (v4806 - (H4807 r0 4)))), (2, vI (v4806 - (H4807 r0 4))), (0, .ref r0)]) rfl rfl rfl rfl ?_)
                                refine wp_of e16 c16_272 (rw_goto (p1 := 280) (by decide) ?_)
                                refine wp_of e16 c16_280 (rw_aload_n (pc' := 281) (v := .ref r0) rfl rfl rfl ?_)
                                refine wp_of e16 c16_281 (rw_iload_n (pc' := 282) (z := v4877 + 1) rfl rfl ?_)
                                refine wp_of e16 c16_282 (xp_I (pc' := 285) lf_2_23 w4926 g0 sh_4 (by decide) (by decide) ty_4_2 rfl rfl (by omega) (by omega) ⟨by omega, by omega⟩ rfl (fun H4929 e4930 w4931 => ?_))
                                have f4932 := f4927.put' e4930 g0 rfl
                                have k4933 : H4929 r0 2 = v4877 + 1 := wq_u_s e4930
                                exact wp_return e16 c16_285 rfl ⟨rfl, w4931, f4932, rfl⟩
                            · refine wp_of e16 c16_246 (rw_iconst (pc' := 247) rfl ?_)
                              refine wp_of e16 c16_247 (rw_goto (p1 := 266) (by decide) ?_)
                              refine wp_of e16 c16_266 (xp_I (pc' := 269) lf_2_41 w4879 g0 sh_4 (by decide) (by decide) ty_4_3 rfl rfl (by omega) (by omega) ⟨by omega, by omega⟩ rfl (fun H4934 e4935 w4936 => ?_))
                              have f4937 := f4883.put' e4935 g0 rfl
                              have k4938 : H4934 r0 3 = 3 := wq_u_s e4935
                              refine wp_of e16 c16_269 (rw_iinc (pc' := 272) (z := v4877) (L' := [(1, vI (v4877 + 1)), (3, vI ((v4877 - (H4878 r0 4)) - (v4806 - (H4807 r0 4)))), (2, vI (v4806 - (H4807 r0 4))), (0, .ref r0)]) rfl rfl rfl rfl ?_)
                              refine wp_of e16 c16_272 (rw_goto (p1 := 280) (by decide) ?_)
                              refine wp_of e16 c16_280 (rw_aload_n (pc' := 281) (v := .ref r0) rfl rfl rfl ?_)
                              refine wp_of e16 c16_281 (rw_iload_n (pc' := 282) (z := v4877 + 1) rfl rfl ?_)
                              refine wp_of e16 c16_282 (xp_I (pc' := 285) lf_2_23 w4936 g0 sh_4 (by decide) (by decide) ty_4_2 rfl rfl (by omega) (by omega) ⟨by omega, by omega⟩ rfl (fun H4939 e4940 w4941 => ?_))
                              have f4942 := f4937.put' e4940 g0 rfl
                              have k4943 : H4939 r0 2 = v4877 + 1 := wq_u_s e4940
                              exact wp_return e16 c16_285 rfl ⟨rfl, w4941, f4942, rfl⟩
                        · refine wp_of e16 c16_209 (rw_aload_n (pc' := 210) (v := .ref r0) rfl rfl rfl ?_)
                          refine wp_of e16 c16_210 (rw_iload_n (pc' := 211) (z := (v4877 - (H4878 r0 4)) - (v4806 - (H4807 r0 4))) rfl rfl ?_)
                          refine wp_of e16 c16_211 (rw_iconst (pc' := 212) rfl ?_)
                          refine wp_of e16 c16_212 (rw_icmp_gt (p1 := 219) (p2 := 215) (by decide) rfl ⟨by omega, by omega⟩ ⟨by omega, by omega⟩ (fun c4944 => ?_) (fun c4944 => ?_))
                          · refine wp_of e16 c16_219 (rw_iconst (pc' := 220) rfl ?_)
                            refine wp_of e16 c16_220 (xp_I (pc' := 223) lf_2_41 w4879 g0 sh_4 (by decide) (by decide) ty_4_3 rfl rfl (by omega) (by omega) ⟨by omega, by omega⟩ rfl (fun H4945 e4946 w4947 => ?_))
                            have f4948 := f4883.put' e4946 g0 rfl
                            have k4949 : H4945 r0 3 = 5 := wq_u_s e4946
                            refine wp_of e16 c16_223 (rw_goto (p1 := 280) (by decide) ?_)
                            refine wp_of e16 c16_280 (rw_aload_n (pc' := 281) (v := .ref r0) rfl rfl rfl ?_)
                            refine wp_of e16 c16_281 (rw_iload_n (pc' := 282) (z := v4877) rfl rfl ?_)
                            refine wp_of e16 c16_282 (xp_I (pc' := 285) lf_2_23 w4947 g0 sh_4 (by decide) (by decide) ty_4_2 rfl rfl (by omega) (by omega) ⟨by omega, by omega⟩ rfl (fun H4950 e4951 w4952 => ?_))
                            have f4953 := f4948.put' e4951 g0 rfl
                            have k4954 : H4950 r0 2 = v4877 := wq_u_s e4951
                            exact wp_return e16 c16_285 rfl ⟨rfl, w4952, f4953, rfl⟩
                          · refine wp_of e16 c16_215 (rw_iconst (pc' := 216) rfl ?_)
                            refine wp_of e16 c16_216 (rw_goto (p1 := 220) (by decide) ?_)
                            refine wp_of e16 c16_220 (xp_I (pc' := 223) lf_2_41 w4879 g0 sh_4 (by decide) (by decide) ty_4_3 rfl rfl (by omega) (by omega) ⟨by omega, by omega⟩ rfl (fun H4955 e4956 w4957 => ?_))
                            have f4958 := f4883.put' e4956 g0 rfl
                            have k4959 : H4955 r0 3 = 2 := wq_u_s e4956
                            refine wp_of e16 c16_223 (rw_goto (p1 := 280) (by decide) ?_)
                            refine wp_of e16 c16_280 (rw_aload_n (pc' := 281) (v := .ref r0) rfl rfl rfl ?_)
                            refine wp_of e16 c16_281 (rw_iload_n (pc' := 282) (z := v4877) rfl rfl ?_)
                            refine wp_of e16 c16_282 (xp_I (pc' := 285) lf_2_23 w4957 g0 sh_4 (by decide) (by decide) ty_4_2 rfl rfl (by omega) (by omega) ⟨by omega, by omega⟩ rfl (fun H4960 e4961 w4962 => ?_))
                            have f4963 := f4958.put' e4961 g0 rfl
                            have k4964 : H4960 r0 2 = v4877 := wq_u_s e4961
                            exact wp_return e16 c16_285 rfl ⟨rfl, w4962, f4963, rfl⟩
                      · refine wp_of e16 c16_187 (rw_aload_n (pc' := 188) (v := .ref r0) rfl rfl rfl ?_)
                        refine wp_of e16 c16_188 (rw_iload_n (pc' := 189) (z := v4806 - (H4807 r0 4)) rfl rfl ?_)
                        refine wp_of e16 c16_189 (rw_bipush (pc' := 191) (z := 8) rfl (by decide) ?_)
                        refine wp_of e16 c16_191 (rw_icmp_gt (p1 := 198) (p2 := 194) (by decide) rfl ⟨by omega, by omega⟩ ⟨by omega, by omega⟩ (fun c4965 => ?_) (fun c4965 => ?_))
                        · refine wp_of e16 c16_198 (rw_iconst (pc' := 199) rfl ?_)
                          refine wp_of e16 c16_199 (xp_I (pc' := 202) lf_2_41 w4879 g0 sh_4 (by decide) (by decide) ty_4_3 rfl rfl (by omega) (by omega) ⟨by omega, by omega⟩ rfl (fun H4966 e4967 w4968 => ?_))
                          have f4969 := f4883.put' e4967 g0 rfl
                          have k4970 : H4966 r0 3 = 5 := wq_u_s e4967
                          refine wp_of e16 c16_202 (rw_goto (p1 := 280) (by decide) ?_)
                          refine wp_of e16 c16_280 (rw_aload_n (pc' := 281) (v := .ref r0) rfl rfl rfl ?_)
                          refine wp_of e16 c16_281 (rw_iload_n (pc' := 282) (z := v4877) rfl rfl ?_)
                          refine wp_of e16 c16_282 (xp_I (pc' := 285) lf_2_23 w4968 g0 sh_4 (by decide) (by decide) ty_4_2 rfl rfl (by omega) (by omega) ⟨by omega, by omega⟩ rfl (fun H4971 e4972 w4973 => ?_))
                          have f4974 := f4969.put' e4972 g0 rfl
                          have k4975 : H4971 r0 2 = v4877 := wq_u_s e4972
                          exact wp_return e16 c16_285 rfl ⟨rfl, w4973, f4974, rfl⟩
                        · refine wp_of e16 c16_194 (rw_iconst (pc' := 195) rfl ?_)
                          refine wp_of e16 c16_195 (rw_goto (p1 := 199) (by decide) ?_)
                          refine wp_of e16 c16_199 (xp_I (pc' := 202) lf_2_41 w4879 g0 sh_4 (by decide) (by decide) ty_4_3 rfl rfl (by omega) (by omega) ⟨by omega, by omega⟩ rfl (fun H4976 e4977 w4978 => ?_))
                          have f4979 := f4883.put' e4977 g0 rfl
                          have k4980 : H4976 r0 3 = 1 := wq_u_s e4977
                          refine wp_of e16 c16_202 (rw_goto (p1 := 280) (by decide) ?_)
                          refine wp_of e16 c16_280 (rw_aload_n (pc' := 281) (v := .ref r0) rfl rfl rfl ?_)
                          refine wp_of e16 c16_281 (rw_iload_n (pc' := 282) (z := v4877) rfl rfl ?_)
                          refine wp_of e16 c16_282 (xp_I (pc' := 285) lf_2_23 w4978 g0 sh_4 (by decide) (by decide) ty_4_2 rfl rfl (by omega) (by omega) ⟨by omega, by omega⟩ rfl (fun H4981 e4982 w4983 => ?_))
                          have f4984 := f4979.put' e4982 g0 rfl
                          have k4985 : H4981 r0 2 = v4877 := wq_u_s e4982
                          exact wp_return e16 c16_285 rfl ⟨rfl, w4983, f4984, rfl⟩
                    · refine wp_of e16 c16_121 (rw_iload_n (pc' := 122) (z := v4806 - (H4807 r0 4)) rfl rfl ?_)
                      refine wp_of e16 c16_122 (rw_if_ne (p1 := 174) (p2 := 125) (by decide) rfl ⟨by omega, by omega⟩ (fun c4986 => ?_) (fun c4986 => ?_))
                      · refine wp_of e16 c16_174 (rw_iload_n (pc' := 175) (z := v4877) rfl rfl ?_)
                        refine wp_of e16 c16_175 (rw_aload_n (pc' := 176) (v := .ref r0) rfl rfl rfl ?_)
                        have k4987 : H4878 r0 4 = H4807 r0 4 := ((f4880 r0 4 _ g0 rfl).trans (wq_u_j e4821 rfl))
                        refine wp_of e16 c16_176 (xg_I (pc' := 179) lf_2_29 w4879 g0 sh_4 (by decide) (by decide) ty_4_4 rfl rfl (fun b4988 b4989 => ?_))
                        refine wp_of e16 c16_179 (rw_isub (pc' := 180) rfl ?_)
                        refine wp_of e16 c16_180 (rw_iload_n (pc' := 181) (z := v4806 - (H4807 r0 4)) rfl rfl ?_)
                        refine wp_of e16 c16_181 (rw_isub (pc' := 182) rfl ?_)
                        refine wp_of e16 c16_182 (rw_istore_n (pc' := 183) (z := (v4877 - (H4878 r0 4)) - (v4806 - (H4807 r0 4))) (L' := [(3, vI ((v4877 - (H4878 r0 4)) - (v4806 - (H4807 r0 4)))), (1, vI v4877), (2, vI (v4806 - (H4807 r0 4))), (0, .ref r0)]) rfl rfl rfl ?_)
                        refine wp_of e16 c16_183 (rw_iload_n (pc' := 184) (z := v4806 - (H4807 r0 4)) rfl rfl ?_)
                        refine wp_of e16 c16_184 (rw_if_le (p1 := 205) (p2 := 187) (by decide) rfl ⟨by omega, by omega⟩ (fun c4990 => ?_) (fun c4990 => ?_))
                        · refine wp_of e16 c16_205 (rw_iload_n (pc' := 206) (z := (v4877 - (H4878 r0 4)) - (v4806 - (H4807 r0 4))) rfl rfl ?_)
                          refine wp_of e16 c16_206 (rw_if_le (p1 := 226) (p2 := 209) (by decide) rfl ⟨by omega, by omega⟩ (fun c4991 => ?_) (fun c4991 => ?_))
                          · refine wp_of e16 c16_226 (rw_iload_n (pc' := 227) (z := v4877) rfl rfl ?_)
                            refine wp_of e16 c16_227 (rw_aload_n (pc' := 228) (v := .ref r0) rfl rfl rfl ?_)
                            refine wp_of e16 c16_228 (xg_I (pc' := 231) lf_2_19 w4879 g0 sh_4 (by decide) (by decide) ty_4_1 rfl rfl (fun b4992 b4993 => ?_))
                            refine wp_of e16 c16_231 (rw_icmp_ge (p1 := 275) (p2 := 234) (by decide) rfl ⟨by omega, by omega⟩ ⟨by omega, by omega⟩ (fun c4994 => ?_) (fun c4994 => ?_))
                            · refine wp_of e16 c16_275 (rw_aload_n (pc' := 276) (v := .ref r0) rfl rfl rfl ?_)
                              refine wp_of e16 c16_276 (rw_iconst (pc' := 277) rfl ?_)
                              refine wp_of e16 c16_277 (xp_I (pc' := 280) lf_2_41 w4879 g0 sh_4 (by decide) (by decide) ty_4_3 rfl rfl (by omega) (by omega) ⟨by omega, by omega⟩ rfl (fun H4995 e4996 w4997 => ?_))
                              have f4998 := f4883.put' e4996 g0 rfl
                              have k4999 : H4995 r0 3 = 0 := wq_u_s e4996
                              refine wp_of e16 c16_280 (rw_aload_n (pc' := 281) (v := .ref r0) rfl rfl rfl ?_)
                              refine wp_of e16 c16_281 (rw_iload_n (pc' := 282) (z := v4877) rfl rfl ?_)
                              refine wp_of e16 c16_282 (xp_I (pc' := 285) lf_2_23 w4997 g0 sh_4 (by decide) (by decide) ty_4_2 rfl rfl (by omega) (by omega) ⟨by omega, by omega⟩ rfl (fun H5000 e5001 w5002 => ?_))
                              have f5003 := f4998.put' e5001 g0 rfl
                              have k5004 : H5000 r0 2 = v4877 := wq_u_s e5001
                              exact wp_return e16 c16_285 rfl ⟨rfl, w5002, f5003, rfl⟩
                            · refine wp_of e16 c16_234 (rw_aload_n (pc' := 235) (v := .ref r0) rfl rfl rfl ?_)
                              refine wp_of e16 c16_235 (rw_aload_n (pc' := 236) (v := .ref r0) rfl rfl rfl ?_)
                              have k5005 : H4878 r0 0 = H r0 0 := ((f4880 r0 0 _ g0 rfl).trans ((wq_u_j e4821 rfl).trans ((f4809 r0 0 _ g0 rfl).trans ((wq_u_j e4752 rfl).trans (wq_u_j e4747 rfl)))))
                              have q5006 : H4878 r0 0 = (rb : Int) := k5005.trans qrb
                              refine wp_of e16 c16_236 (xg_K (pc' := 239) lf_2_7 w4879 g0 sh_4 (by decide) (by decide) rfl q5006 rfl ?_)
                              refine wp_of e16 c16_239 (rw_iload_n (pc' := 240) (z := v4877) rfl rfl ?_)
                              refine wp_of e16 c16_240 (xa_B (by decide) (pc' := 241) w4879 grb sh_2 (by decide) (ty_2 _) (by omega) (by omega) rfl (fun b5007 b5008 => ?_))
                              refine wp_of e16 c16_241 (rw_bipush (pc' := 243) (z := 59) rfl (by decide) ?_)
                              refine wp_of e16 c16_243 (rw_icmp_ne (p1 := 250) (p2 := 246) (by decide) rfl ⟨by omega, by omega⟩ ⟨by omega, by omega⟩ (fun c5009 => ?_) (fun c5009 => ?_))
                              · refine wp_of e16 c16_250 (rw_aload_n (pc' := 251) (v := .ref r0) rfl rfl rfl ?_)
                                refine wp_of e16 c16_251 (xg_K (pc' := 254) lf_2_7 w4879 g0 sh_4 (by decide) (by decide) rfl q5006 rfl ?_)
                                refine wp_of e16 c16_254 (rw_iload_n (pc' := 255) (z := v4877) rfl rfl ?_)
                                refine wp_of e16 c16_255 (xa_B (by decide) (pc' := 256) w4879 grb sh_2 (by decide) (ty_2 _) (by omega) (by omega) rfl (fun b5010 b5011 => ?_))
                                refine wp_of e16 c16_256 (rw_bipush (pc' := 258) (z := 44) rfl (by decide) ?_)
                                refine wp_of e16 c16_258 (rw_icmp_ne (p1 := 265) (p2 := 261) (by decide) rfl ⟨by omega, by omega⟩ ⟨by omega, by omega⟩ (fun c5012 => ?_) (fun c5012 => ?_))
                                · refine wp_of e16 c16_265 (rw_iconst (pc' := 266) rfl ?_)
                                  refine wp_of e16 c16_266 (xp_I (pc' := 269) lf_2_41 w4879 g0 sh_4 (by decide) (by decide) ty_4_3 rfl rfl (by omega) (by omega) ⟨by omega, by omega⟩ rfl (fun H5013 e5014 w5015 => ?_))
                                  have f5016 := f4883.put' e5014 g0 rfl
                                  have k5017 : H5013 r0 3 = 5 := wq_u_s e5014
                                  refine wp_of e16 c16_269 (rw_iinc (pc' := 272) (z := v4877) (L' := [(1, vI (v4877 + 1)), (3, vI ((v4877 - (H4878 r0 4)) - (v4806 - (H4807 r0 4)))), (2, vI (v4806 - (H4807 r0 4))), (0, .ref r0)]) rfl rfl rfl rfl ?_)
                                  refine wp_of e16 c16_272 (rw_goto (p1 := 280) (by decide) ?_)
                                  refine wp_of e16 c16_280 (rw_aload_n (pc' := 281) (v := .ref r0) rfl rfl rfl ?_)
                                  refine wp_of e16 c16_281 (rw_iload_n (pc' := 282) (z := v4877 + 1) rfl rfl ?_)
                                  refine wp_of e16 c16_282 (xp_I (pc' := 285) lf_2_23 w5015 g0 sh_4 (by decide) (by decide) ty_4_2 rfl rfl (by omega) (by omega) ⟨by omega, by omega⟩ rfl (fun H5018 e5019 w5020 => ?_))
                                  have f5021 := f5016.put' e5019 g0 rfl
                                  have k5022 : H5018 r0 2 = v4877 + 1 := wq_u_s e5019
                                  exact wp_return e16 c16_285 rfl ⟨rfl, w5020, f5021, rfl⟩
                                · refine wp_of e16 c16_261 (rw_iconst (pc' := 262) rfl ?_)
                                  refine wp_of e16 c16_262 (rw_goto (p1 := 266) (by decide) ?_)
                                  refine wp_of e16 c16_266 (xp_I (pc' := 269) lf_2_41 w4879 g0 sh_4 (by decide) (by decide) ty_4_3 rfl rfl (by omega) (by omega) ⟨by omega, by omega⟩ rfl (fun H5023 e5024 w5025 => ?_))
                                  have f5026 := f4883.put' e5024 g0 rfl
                                  have k5027 : H5023 r0 3 = 4 := wq_u_s e5024
                                  refine wp_of e16 c16_269 (rw_iinc (pc' := 272) (z := v4877) (L' := [(1, vI (v4877 + 1)), (3, vI ((v4877 - (H4878 r0 4)) - (v4806 - (H4807 r0 4)))), (2, vI (v4806 - (H4807 r0 4))), (0, .ref r0)]) rfl rfl rfl rfl ?_)
                                  refine wp_of e16 c16_272 (rw_goto (p1 := 280) (by decide) ?_)
                                  refine wp_of e16 c16_280 (rw_aload_n (pc' := 281) (v := .ref r0) rfl rfl rfl ?_)
                                  refine wp_of e16 c16_281 (rw_iload_n (pc' := 282) (z := v4877 + 1) rfl rfl ?_)
                                  refine wp_of e16 c16_282 (xp_I (pc' := 285) lf_2_23 w5025 g0 sh_4 (by decide) (by decide) ty_4_2 rfl rfl (by omega) (by omega) ⟨by omega, by omega⟩ rfl (fun H5028 e5029 w5030 => ?_))
                                  have f5031 := f5026.put' e5029 g0 rfl
                                  have k5032 : H5028 r0 2 = v4877 + 1 := wq_u_s e5029
                                  exact wp_return e16 c16_285 rfl ⟨rfl, w5030, f5031, rfl⟩
                              · refine wp_of e16 c16_246 (rw_iconst (pc' := 247) rfl ?_)
                                refine wp_of e16 c16_247 (rw_goto (p1 := 266) (by decide) ?_)
                                refine wp_of e16 c16_266 (xp_I (pc' := 269) lf_2_41 w4879 g0 sh_4 (by decide) (by decide) ty_4_3 rfl rfl (by omega) (by omega) ⟨by omega, by omega⟩ rfl (fun H5033 e5034 w5035 => ?_))
                                have f5036 := f4883.put' e5034 g0 rfl
                                have k5037 : H5033 r0 3 = 3 := wq_u_s e5034
                                refine wp_of e16 c16_269 (rw_iinc (pc' := 272) (z := v4877) (L' := [(1, vI (v4877 + 1)), (3, vI ((v4877 - (H4878 r0 4)) - (v4806 - (H4807 r0 4)))), (2, vI (v4806 - (H4807 r0 4))), (0, .ref r0)]) rfl rfl rfl rfl ?_)
                                refine wp_of e16 c16_272 (rw_goto (p1 := 280) (by decide) ?_)
                                refine wp_of e16 c16_280 (rw_aload_n (pc' := 281) (v := .ref r0) rfl rfl rfl ?_)
                                refine wp_of e16 c16_281 (rw_iload_n (pc' := 282) (z := v4877 + 1) rfl rfl ?_)
                                refine wp_of e16 c16_282 (xp_I (pc' := 285) lf_2_23 w5035 g0 sh_4 (by decide) (by decide) ty_4_2 rfl rfl (by omega) (by omega) ⟨by omega, by omega⟩ rfl (fun H5038 e5039 w5040 => ?_))
                                have f5041 := f5036.put' e5039 g0 rfl
                                have k5042 : H5038 r0 2 = v4877 + 1 := wq_u_s e5039
                                exact wp_return e16 c16_285 rfl ⟨rfl, w5040, f5041, rfl⟩
                          · refine wp_of e16 c16_209 (rw_aload_n (pc' := 210) (v := .ref r0) rfl rfl rfl ?_)
                            refine wp_of e16 c16_210 (rw_iload_n (pc' := 211) (z := (v4877 - (H4878 r0 4)) - (v4806 - (H4807 r0 4))) rfl rfl ?_)
                            refine wp_of e16 c16_211 (rw_iconst (pc' := 212) rfl ?_)
                            refine wp_of e16 c16_212 (rw_icmp_gt (p1 := 219) (p2 := 215) (by decide) rfl ⟨by omega, by omega⟩ ⟨by omega, by omega⟩ (fun c5043 => ?_) (fun c5043 => ?_))
                            · refine wp_of e16 c16_219 (rw_iconst (pc' := 220) rfl ?_)
                              refine wp_of e16 c16_220 (xp_I (pc' := 223) lf_2_41 w4879 g0 sh_4 (by decide) (by decide) ty_4_3 rfl rfl (by omega) (by omega) ⟨by omega, by omega⟩ rfl (fun H5044 e5045 w5046 => ?_))
                              have f5047 := f4883.put' e5045 g0 rfl
                              have k5048 : H5044 r0 3 = 5 := wq_u_s e5045
                              refine wp_of e16 c16_223 (rw_goto (p1 := 280) (by decide) ?_)
                              refine wp_of e16 c16_280 (rw_aload_n (pc' := 281) (v := .ref r0) rfl rfl rfl ?_)
                              refine wp_of e16 c16_281 (rw_iload_n (pc' := 282) (z := v4877) rfl rfl ?_)
                              refine wp_of e16 c16_282 (xp_I (pc' := 285) lf_2_23 w5046 g0 sh_4 (by decide) (by decide) ty_4_2 rfl rfl (by omega) (by omega) ⟨by omega, by omega⟩ rfl (fun H5049 e5050 w5051 => ?_))
                              have f5052 := f5047.put' e5050 g0 rfl
                              have k5053 : H5049 r0 2 = v4877 := wq_u_s e5050
                              exact wp_return e16 c16_285 rfl ⟨rfl, w5051, f5052, rfl⟩
                            · refine wp_of e16 c16_215 (rw_iconst (pc' := 216) rfl ?_)
                              refine wp_of e16 c16_216 (rw_goto (p1 := 220) (by decide) ?_)
                              refine wp_of e16 c16_220 (xp_I (pc' := 223) lf_2_41 w4879 g0 sh_4 (by decide) (by decide) ty_4_3 rfl rfl (by omega) (by omega) ⟨by omega, by omega⟩ rfl (fun H5054 e5055 w5056 => ?_))
                              have f5057 := f4883.put' e5055 g0 rfl
                              have k5058 : H5054 r0 3 = 2 := wq_u_s e5055
                              refine wp_of e16 c16_223 (rw_goto (p1 := 280) (by decide) ?_)
                              refine wp_of e16 c16_280 (rw_aload_n (pc' := 281) (v := .ref r0) rfl rfl rfl ?_)
                              refine wp_of e16 c16_281 (rw_iload_n (pc' := 282) (z := v4877) rfl rfl ?_)
                              refine wp_of e16 c16_282 (xp_I (pc' := 285) lf_2_23 w5056 g0 sh_4 (by decide) (by decide) ty_4_2 rfl rfl (by omega) (by omega) ⟨by omega, by omega⟩ rfl (fun H5059 e5060 w5061 => ?_))
                              have f5062 := f5057.put' e5060 g0 rfl
                              have k5063 : H5059 r0 2 = v4877 := wq_u_s e5060
                              exact wp_return e16 c16_285 rfl ⟨rfl, w5061, f5062, rfl⟩
                        · refine wp_of e16 c16_187 (rw_aload_n (pc' := 188) (v := .ref r0) rfl rfl rfl ?_)
                          refine wp_of e16 c16_188 (rw_iload_n (pc' := 189) (z := v4806 - (H4807 r0 4)) rfl rfl ?_)
                          refine wp_of e16 c16_189 (rw_bipush (pc' := 191) (z := 8) rfl (by decide) ?_)
                          refine wp_of e16 c16_191 (rw_icmp_gt (p1 := 198) (p2 := 194) (by decide) rfl ⟨by omega, by omega⟩ ⟨by omega, by omega⟩ (fun c5064 => ?_) (fun c5064 => ?_))
                          · refine wp_of e16 c16_198 (rw_iconst (pc' := 199) rfl ?_)
                            refine wp_of e16 c16_199 (xp_I (pc' := 202) lf_2_41 w4879 g0 sh_4 (by decide) (by decide) ty_4_3 rfl rfl (by omega) (by omega) ⟨by omega, by omega⟩ rfl (fun H5065 e5066 w5067 => ?_))
                            have f5068 := f4883.put' e5066 g0 rfl
                            have k5069 : H5065 r0 3 = 5 := wq_u_s e5066
                            refine wp_of e16 c16_202 (rw_goto (p1 := 280) (by decide) ?_)
                            refine wp_of e16 c16_280 (rw_aload_n (pc' := 281) (v := .ref r0) rfl rfl rfl ?_)
                            refine wp_of e16 c16_281 (rw_iload_n (pc' := 282) (z := v4877) rfl rfl ?_)
                            refine wp_of e16 c16_282 (xp_I (pc' := 285) lf_2_23 w5067 g0 sh_4 (by decide) (by decide) ty_4_2 rfl rfl (by omega) (by omega) ⟨by omega, by omega⟩ rfl (fun H5070 e5071 w5072 => ?_))
                            have f5073 := f5068.put' e5071 g0 rfl
                            have k5074 : H5070 r0 2 = v4877 := wq_u_s e5071
                            exact wp_return e16 c16_285 rfl ⟨rfl, w5072, f5073, rfl⟩
                          · refine wp_of e16 c16_194 (rw_iconst (pc' := 195) rfl ?_)
                            refine wp_of e16 c16_195 (rw_goto (p1 := 199) (by decide) ?_)
                            refine wp_of e16 c16_199 (xp_I (pc' := 202) lf_2_41 w4879 g0 sh_4 (by decide) (by decide) ty_4_3 rfl rfl (by omega) (by omega) ⟨by omega, by omega⟩ rfl (fun H5075 e5076 w5077 => ?_))
                            have f5078 := f4883.put' e5076 g0 rfl
                            have k5079 : H5075 r0 3 = 1 := wq_u_s e5076
                            refine wp_of e16 c16_202 (rw_goto (p1 := 280) (by decide) ?_)
                            refine wp_of e16 c16_280 (rw_aload_n (pc' := 281) (v := .ref r0) rfl rfl rfl ?_)
                            refine wp_of e16 c16_281 (rw_iload_n (pc' := 282) (z := v4877) rfl rfl ?_)
                            refine wp_of e16 c16_282 (xp_I (pc' := 285) lf_2_23 w5077 g0 sh_4 (by decide) (by decide) ty_4_2 rfl rfl (by omega) (by omega) ⟨by omega, by omega⟩ rfl (fun H5080 e5081 w5082 => ?_))
                            have f5083 := f5078.put' e5081 g0 rfl
                            have k5084 : H5080 r0 2 = v4877 := wq_u_s e5081
                            exact wp_return e16 c16_285 rfl ⟨rfl, w5082, f5083, rfl⟩
                      · refine wp_of e16 c16_125 (rw_aload_n (pc' := 126) (v := .ref r0) rfl rfl rfl ?_)
                        have k5085 : H4878 r0 0 = H r0 0 := ((f4880 r0 0 _ g0 rfl).trans ((wq_u_j e4821 rfl).trans ((f4809 r0 0 _ g0 rfl).trans ((wq_u_j e4752 rfl).trans (wq_u_j e4747 rfl)))))
                        have q5086 : H4878 r0 0 = (rb : Int) := k5085.trans qrb
                        refine wp_of e16 c16_126 (xg_K (pc' := 129) lf_2_7 w4879 g0 sh_4 (by decide) (by decide) rfl q5086 rfl ?_)
                        refine wp_of e16 c16_129 (rw_iload_n (pc' := 130) (z := v4877) rfl rfl ?_)
                        refine wp_of e16 c16_130 (xa_B (by decide) (pc' := 131) w4879 grb sh_2 (by decide) (ty_2 _) (by omega) (by omega) rfl (fun b5087 b5088 => ?_))
                        refine wp_of e16 c16_131 (rw_bipush (pc' := 133) (z := 48) rfl (by decide) ?_)
                        refine wp_of e16 c16_133 (rw_icmp_lt (p1 := 174) (p2 := 136) (by decide) rfl ⟨by omega, by omega⟩ ⟨by omega, by omega⟩ (fun c5089 => ?_) (fun c5089 => ?_))
                        · refine wp_of e16 c16_174 (rw_iload_n (pc' := 175) (z := v4877) rfl rfl ?_)
                          refine wp_of e16 c16_175 (rw_aload_n (pc' := 176) (v := .ref r0) rfl rfl rfl ?_)
                          have k5090 : H4878 r0 4 = H4807 r0 4 := ((f4880 r0 4 _ g0 rfl).trans (wq_u_j e4821 rfl))
                          refine wp_of e16 c16_176 (xg_I (pc' := 179) lf_2_29 w4879 g0 sh_4 (by decide) (by decide) ty_4_4 rfl rfl (fun b5091 b5092 => ?_))
                          refine wp_of e16 c16_179 (rw_isub (pc' := 180) rfl ?_)
                          refine wp_of e16 c16_180 (rw_iload_n (pc' := 181) (z := v4806 - (H4807 r0 4)) rfl rfl ?_)
                          refine wp_of e16 c16_181 (rw_isub (pc' := 182) rfl ?_)
                          refine wp_of e16 c16_182 (rw_istore_n (pc' := 183) (z := (v4877 - (H4878 r0 4)) - (v4806 - (H4807 r0 4))) (L' := [(3, vI ((v4877 - (H4878 r0 4)) - (v4806 - (H4807 r0 4)))), (1, vI v4877), (2, vI (v4806 - (H4807 r0 4))), (0, .ref r0)]) rfl rfl rfl ?_)
                          refine wp_of e16 c16_183 (rw_iload_n (pc' := 184) (z := v4806 - (H4807 r0 4)) rfl rfl ?_)
                          refine wp_of e16 c16_184 (rw_if_le (p1 := 205) (p2 := 187) (by decide) rfl ⟨by omega, by omega⟩ (fun c5093 => ?_) (fun c5093 => ?_))
                          · refine wp_of e16 c16_205 (rw_iload_n (pc' := 206) (z := (v4877 - (H4878 r0 4)) - (v4806 - (H4807 r0 4))) rfl rfl ?_)
                            refine wp_of e16 c16_206 (rw_if_le (p1 := 226) (p2 := 209) (by decide) rfl ⟨by omega, by omega⟩ (fun c5094 => ?_) (fun c5094 => ?_))
                            · refine wp_of e16 c16_226 (rw_iload_n (pc' := 227) (z := v4877) rfl rfl ?_)
                              refine wp_of e16 c16_227 (rw_aload_n (pc' := 228) (v := .ref r0) rfl rfl rfl ?_)
                              refine wp_of e16 c16_228 (xg_I (pc' := 231) lf_2_19 w4879 g0 sh_4 (by decide) (by decide) ty_4_1 rfl rfl (fun b5095 b5096 => ?_))
                              refine wp_of e16 c16_231 (rw_icmp_ge (p1 := 275) (p2 := 234) (by decide) rfl ⟨by omega, by omega⟩ ⟨by omega, by omega⟩ (fun c5097 => ?_) (fun c5097 => ?_))
                              · refine wp_of e16 c16_275 (rw_aload_n (pc' := 276) (v := .ref r0) rfl rfl rfl ?_)
                                refine wp_of e16 c16_276 (rw_iconst (pc' := 277) rfl ?_)
                                refine wp_of e16 c16_277 (xp_I (pc' := 280) lf_2_41 w4879 g0 sh_4 (by decide) (by decide) ty_4_3 rfl rfl (by omega) (by omega) ⟨by omega, by omega⟩ rfl (fun H5098 e5099 w5100 => ?_))
                                have f5101 := f4883.put' e5099 g0 rfl
                                have k5102 : H5098 r0 3 = 0 := wq_u_s e5099
                                refine wp_of e16 c16_280 (rw_aload_n (pc' := 281) (v := .ref r0) rfl rfl rfl ?_)
                                refine wp_of e16 c16_281 (rw_iload_n (pc' := 282) (z := v4877) rfl rfl ?_)
                                refine wp_of e16 c16_282 (xp_I (pc' := 285) lf_2_23 w5100 g0 sh_4 (by decide) (by decide) ty_4_2 rfl rfl (by omega) (by omega) ⟨by omega, by omega⟩ rfl (fun H5103 e5104 w5105 => ?_))
                                have f5106 := f5101.put' e5104 g0 rfl
                                have k5107 : H5103 r0 2 = v4877 := wq_u_s e5104
                                exact wp_return e16 c16_285 rfl ⟨rfl, w5105, f5106, rfl⟩
                              · refine wp_of e16 c16_234 (rw_aload_n (pc' := 235) (v := .ref r0) rfl rfl rfl ?_)
                                refine wp_of e16 c16_235 (rw_aload_n (pc' := 236) (v := .ref r0) rfl rfl rfl ?_)
                                refine wp_of e16 c16_236 (xg_K (pc' := 239) lf_2_7 w4879 g0 sh_4 (by decide) (by decide) rfl q5086 rfl ?_)
                                refine wp_of e16 c16_239 (rw_iload_n (pc' := 240) (z := v4877) rfl rfl ?_)
                                refine wp_of e16 c16_240 (xa_B (by decide) (pc' := 241) w4879 grb sh_2 (by decide) (ty_2 _) (by omega) (by omega) rfl (fun b5108 b5109 => ?_))
                                refine wp_of e16 c16_241 (rw_bipush (pc' := 243) (z := 59) rfl (by decide) ?_)
                                refine wp_of e16 c16_243 (rw_icmp_ne (p1 := 250) (p2 := 246) (by decide) rfl ⟨by omega, by omega⟩ ⟨by omega, by omega⟩ (fun c5110 => ?_) (fun c5110 => ?_))
                                · refine wp_of e16 c16_250 (rw_aload_n (pc' := 251) (v := .ref r0) rfl rfl rfl ?_)
                                  refine wp_of e16 c16_251 (xg_K (pc' := 254) lf_2_7 w4879 g0 sh_4 (by decide) (by decide) rfl q5086 rfl ?_)
                                  refine wp_of e16 c16_254 (rw_iload_n (pc' := 255) (z := v4877) rfl rfl ?_)
                                  refine wp_of e16 c16_255 (xa_B (by decide) (pc' := 256) w4879 grb sh_2 (by decide) (ty_2 _) (by omega) (by omega) rfl (fun b5111 b5112 => ?_))
                                  refine wp_of e16 c16_256 (rw_bipush (pc' := 258) (z := 44) rfl (by decide) ?_)
                                  refine wp_of e16 c16_258 (rw_icmp_ne (p1 := 265) (p2 := 261) (by decide) rfl ⟨by omega, by omega⟩ ⟨by omega, by omega⟩ (fun c5113 => ?_) (fun c5113 => ?_))
                                  · refine wp_of e16 c16_265 (rw_iconst (pc' := 266) rfl ?_)
                                    refine wp_of e16 c16_266 (xp_I (pc' := 269) lf_2_41 w4879 g0 sh_4 (by decide) (by decide) ty_4_3 rfl rfl (by omega) (by omega) ⟨by omega, by omega⟩ rfl (fun H5114 e5115 w5116 => ?_))
                                    have f5117 := f4883.put' e5115 g0 rfl
                                    have k5118 : H5114 r0 3 = 5 := wq_u_s e5115
                                    refine wp_of e16 c16_269 (rw_iinc (pc' := 272) (z := v4877) (L' := [(1, vI (v4877 + 1)), (3, vI ((v4877 - (H4878 r0 4)) - (v4806 - (H4807 r0 4)))), (2, vI (v4806 - (H4807 r0 4))), (0, .ref r0)]) rfl rfl rfl rfl ?_)
                                    refine wp_of e16 c16_272 (rw_goto (p1 := 280) (by decide) ?_)
                                    refine wp_of e16 c16_280 (rw_aload_n (pc' := 281) (v := .ref r0) rfl rfl rfl ?_)
                                    refine wp_of e16 c16_281 (rw_iload_n (pc' := 282) (z := v4877 + 1) rfl rfl ?_)
                                    refine wp_of e16 c16_282 (xp_I (pc' := 285) lf_2_23 w5116 g0 sh_4 (by decide) (by decide) ty_4_2 rfl rfl (by omega) (by omega) ⟨by omega, by omega⟩ rfl (fun H5119 e5120 w5121 => ?_))
                                    have f5122 := f5117.put' e5120 g0 rfl
                                    have k5123 : H5119 r0 2 = v4877 + 1 := wq_u_s e5120
                                    exact wp_return e16 c16_285 rfl ⟨rfl, w5121, f5122, rfl⟩
                                  · refine wp_of e16 c16_261 (rw_iconst (pc' := 262) rfl ?_)
                                    refine wp_of e16 c16_262 (rw_goto (p1 := 266) (by decide) ?_)
                                    refine wp_of e16 c16_266 (xp_I (pc' := 269) lf_2_41 w4879 g0 sh_4 (by decide) (by decide) ty_4_3 rfl rfl (by omega) (by omega) ⟨by omega, by omega⟩ rfl (fun H5124 e5125 w5126 => ?_))
                                    have f5127 := f4883.put' e5125 g0 rfl
                                    have k5128 : H5124 r0 3 = 4 := wq_u_s e5125
                                    refine wp_of e16 c16_269 (rw_iinc (pc' := 272) (z := v4877) (L' := [(1, vI (v4877 + 1)), (3, vI ((v4877 - (H4878 r0 4)) - (v4806 - (H4807 r0 4)))), (2, vI (v4806 - (H4807 r0 4))), (0, .ref r0)]) rfl rfl rfl rfl ?_)
                                    refine wp_of e16 c16_272 (rw_goto (p1 := 280) (by decide) ?_)
                                    refine wp_of e16 c16_280 (rw_aload_n (pc' := 281) (v := .ref r0) rfl rfl rfl ?_)
                                    refine wp_of e16 c16_281 (rw_iload_n (pc' := 282) (z := v4877 + 1) rfl rfl ?_)
                                    refine wp_of e16 c16_282 (xp_I (pc' := 285) lf_2_23 w5126 g0 sh_4 (by decide) (by decide) ty_4_2 rfl rfl (by omega) (by omega) ⟨by omega, by omega⟩ rfl (fun H5129 e5130 w5131 => ?_))
                                    have f5132 := f5127.put' e5130 g0 rfl
                                    have k5133 : H5129 r0 2 = v4877 + 1 := wq_u_s e5130
                                    exact wp_return e16 c16_285 rfl ⟨rfl, w5131, f5132, rfl⟩
                                · exfalso
                                  omega
                            · refine wp_of e16 c16_209 (rw_aload_n (pc' := 210) (v := .ref r0) rfl rfl rfl ?_)
                              refine wp_of e16 c16_210 (rw_iload_n (pc' := 211) (z := (v4877 - (H4878 r0 4)) - (v4806 - (H4807 r0 4))) rfl rfl ?_)
                              refine wp_of e16 c16_211 (rw_iconst (pc' := 212) rfl ?_)
                              refine wp_of e16 c16_212 (rw_icmp_gt (p1 := 219) (p2 := 215) (by decide) rfl ⟨by omega, by omega⟩ ⟨by omega, by omega⟩ (fun c5134 => ?_) (fun c5134 => ?_))
                              · refine wp_of e16 c16_219 (rw_iconst (pc' := 220) rfl ?_)
                                refine wp_of e16 c16_220 (xp_I (pc' := 223) lf_2_41 w4879 g0 sh_4 (by decide) (by decide) ty_4_3 rfl rfl (by omega) (by omega) ⟨by omega, by omega⟩ rfl (fun H5135 e5136 w5137 => ?_))
                                have f5138 := f4883.put' e5136 g0 rfl
                                have k5139 : H5135 r0 3 = 5 := wq_u_s e5136
                                refine wp_of e16 c16_223 (rw_goto (p1 := 280) (by decide) ?_)
                                refine wp_of e16 c16_280 (rw_aload_n (pc' := 281) (v := .ref r0) rfl rfl rfl ?_)
                                refine wp_of e16 c16_281 (rw_iload_n (pc' := 282) (z := v4877) rfl rfl ?_)
                                refine wp_of e16 c16_282 (xp_I (pc' := 285) lf_2_23 w5137 g0 sh_4 (by decide) (by decide) ty_4_2 rfl rfl (by omega) (by omega) ⟨by omega, by omega⟩ rfl (fun H5140 e5141 w5142 => ?_))
                                have f5143 := f5138.put' e5141 g0 rfl
                                have k5144 : H5140 r0 2 = v4877 := wq_u_s e5141
                                exact wp_return e16 c16_285 rfl ⟨rfl, w5142, f5143, rfl⟩
                              · refine wp_of e16 c16_215 (rw_iconst (pc' := 216) rfl ?_)
                                refine wp_of e16 c16_216 (rw_goto (p1 := 220) (by decide) ?_)
                                refine wp_of e16 c16_220 (xp_I (pc' := 223) lf_2_41 w4879 g0 sh_4 (by decide) (by decide) ty_4_3 rfl rfl (by omega) (by omega) ⟨by omega, by omega⟩ rfl (fun H5145 e5146 w5147 => ?_))
                                have f5148 := f4883.put' e5146 g0 rfl
                                have k5149 : H5145 r0 3 = 2 := wq_u_s e5146
                                refine wp_of e16 c16_223 (rw_goto (p1 := 280) (by decide) ?_)
                                refine wp_of e16 c16_280 (rw_aload_n (pc' := 281) (v := .ref r0) rfl rfl rfl ?_)
                                refine wp_of e16 c16_281 (rw_iload_n (pc' := 282) (z := v4877) rfl rfl ?_)
                                refine wp_of e16 c16_282 (xp_I (pc' := 285) lf_2_23 w5147 g0 sh_4 (by decide) (by decide) ty_4_2 rfl rfl (by omega) (by omega) ⟨by omega, by omega⟩ rfl (fun H5150 e5151 w5152 => ?_))
                                have f5153 := f5148.put' e5151 g0 rfl
                                have k5154 : H5150 r0 2 = v4877 := wq_u_s e5151
                                exact wp_return e16 c16_285 rfl ⟨rfl, w5152, f5153, rfl⟩
                          · exfalso
                            omega
                        · refine wp_of e16 c16_136 (rw_aload_n (pc' := 137) (v := .ref r0) rfl rfl rfl ?_)
                          refine wp_of e16 c16_137 (xg_K (pc' := 140) lf_2_7 w4879 g0 sh_4 (by decide) (by decide) rfl q5086 rfl ?_)
                          refine wp_of e16 c16_140 (rw_iload_n (pc' := 141) (z := v4877) rfl rfl ?_)
                          refine wp_of e16 c16_141 (xa_B (by decide) (pc' := 142) w4879 grb sh_2 (by decide) (ty_2 _) (by omega) (by omega) rfl (fun b5155 b5156 => ?_))
                          refine wp_of e16 c16_142 (rw_bipush (pc' := 144) (z := 57) rfl (by decide) ?_)
                          refine wp_of e16 c16_144 (rw_icmp_gt (p1 := 174) (p2 := 147) (by decide) rfl ⟨by omega, by omega⟩ ⟨by omega, by omega⟩ (fun c5157 => ?_) (fun c5157 => ?_))
                          · refine wp_of e16 c16_174 (rw_iload_n (pc' := 175) (z := v4877) rfl rfl ?_)
                            refine wp_of e16 c16_175 (rw_aload_n (pc' := 176) (v := .ref r0) rfl rfl rfl ?_)
                            have k5158 : H4878 r0 4 = H4807 r0 4 := ((f4880 r0 4 _ g0 rfl).trans (wq_u_j e4821 rfl))
                            refine wp_of e16 c16_176 (xg_I (pc' := 179) lf_2_29 w4879 g0 sh_4 (by decide) (by decide) ty_4_4 rfl rfl (fun b5159 b5160 => ?_))
                            refine wp_of e16 c16_179 (rw_isub (pc' := 180) rfl ?_)
                            refine wp_of e16 c16_180 (rw_iload_n (pc' := 181) (z := v4806 - (H4807 r0 4)) rfl rfl ?_)
                            refine wp_of e16 c16_181 (rw_isub (pc' := 182) rfl ?_)
                            refine wp_of e16 c16_182 (rw_istore_n (pc' := 183) (z := (v4877 - (H4878 r0 4)) - (v4806 - (H4807 r0 4))) (L' := [(3, vI ((v4877 - (H4878 r0 4)) - (v4806 - (H4807 r0 4)))), (1, vI v4877), (2, vI (v4806 - (H4807 r0 4))), (0, .ref r0)]) rfl rfl rfl ?_)
                            refine wp_of e16 c16_183 (rw_iload_n (pc' := 184) (z := v4806 - (H4807 r0 4)) rfl rfl ?_)
                            refine wp_of e16 c16_184 (rw_if_le (p1 := 205) (p2 := 187) (by decide) rfl ⟨by omega, by omega⟩ (fun c5161 => ?_) (fun c5161 => ?_))
                            · refine wp_of e16 c16_205 (rw_iload_n (pc' := 206) (z := (v4877 - (H4878 r0 4)) - (v4806 - (H4807 r0 4))) rfl rfl ?_)
                              refine wp_of e16 c16_206 (rw_if_le (p1 := 226) (p2 := 209) (by decide) rfl ⟨by omega, by omega⟩ (fun c5162 => ?_) (fun c5162 => ?_))
                              · refine wp_of e16 c16_226 (rw_iload_n (pc' := 227) (z := v4877) rfl rfl ?_)
                                refine wp_of e16 c16_227 (rw_aload_n (pc' := 228) (v := .ref r0) rfl rfl rfl ?_)
                                refine wp_of e16 c16_228 (xg_I (pc' := 231) lf_2_19 w4879 g0 sh_4 (by decide) (by decide) ty_4_1 rfl rfl (fun b5163 b5164 => ?_))
                                refine wp_of e16 c16_231 (rw_icmp_ge (p1 := 275) (p2 := 234) (by decide) rfl ⟨by omega, by omega⟩ ⟨by omega, by omega⟩ (fun c5165 => ?_) (fun c5165 => ?_))
                                · refine wp_of e16 c16_275 (rw_aload_n (pc' := 276) (v := .ref r0) rfl rfl rfl ?_)
                                  refine wp_of e16 c16_276 (rw_iconst (pc' := 277) rfl ?_)
                                  refine wp_of e16 c16_277 (xp_I (pc' := 280) lf_2_41 w4879 g0 sh_4 (by decide) (by decide) ty_4_3 rfl rfl (by omega) (by omega) ⟨by omega, by omega⟩ rfl (fun H5166 e5167 w5168 => ?_))
                                  have f5169 := f4883.put' e5167 g0 rfl
                                  have k5170 : H5166 r0 3 = 0 := wq_u_s e5167
                                  refine wp_of e16 c16_280 (rw_aload_n (pc' := 281) (v := .ref r0) rfl rfl rfl ?_)
                                  refine wp_of e16 c16_281 (rw_iload_n (pc' := 282) (z := v4877) rfl rfl ?_)
                                  refine wp_of e16 c16_282 (xp_I (pc' := 285) lf_2_23 w5168 g0 sh_4 (by decide) (by decide) ty_4_2 rfl rfl (by omega) (by omega) ⟨by omega, by omega⟩ rfl (fun H5171 e5172 w5173 => ?_))
                                  have f5174 := f5169.put' e5172 g0 rfl
                                  have k5175 : H5171 r0 2 = v4877 := wq_u_s e5172
                                  exact wp_return e16 c16_285 rfl ⟨rfl, w5173, f5174, rfl⟩
                                · refine wp_of e16 c16_234 (rw_aload_n (pc' := 235) (v := .ref r0) rfl rfl rfl ?_)
                                  refine wp_of e16 c16_235 (rw_aload_n (pc' := 236) (v := .ref r0) rfl rfl rfl ?_)
                                  refine wp_of e16 c16_236 (xg_K (pc' := 239) lf_2_7 w4879 g0 sh_4 (by decide) (by decide) rfl q5086 rfl ?_)
                                  refine wp_of e16 c16_239 (rw_iload_n (pc' := 240) (z := v4877) rfl rfl ?_)
                                  refine wp_of e16 c16_240 (xa_B (by decide) (pc' := 241) w4879 grb sh_2 (by decide) (ty_2 _) (by omega) (by omega) rfl (fun b5176 b5177 => ?_))
                                  refine wp_of e16 c16_241 (rw_bipush (pc' := 243) (z := 59) rfl (by decide) ?_)
                                  refine wp_of e16 c16_243 (rw_icmp_ne (p1 := 250) (p2 := 246) (by decide) rfl ⟨by omega, by omega⟩ ⟨by omega, by omega⟩ (fun c5178 => ?_) (fun c5178 => ?_))
                                  · refine wp_of e16 c16_250 (rw_aload_n (pc' := 251) (v := .ref r0) rfl rfl rfl ?_)
                                    refine wp_of e16 c16_251 (xg_K (pc' := 254) lf_2_7 w4879 g0 sh_4 (by decide) (by decide) rfl q5086 rfl ?_)
                                    refine wp_of e16 c16_254 (rw_iload_n (pc' := 255) (z := v4877) rfl rfl ?_)
                                    refine wp_of e16 c16_255 (xa_B (by decide) (pc' := 256) w4879 grb sh_2 (by decide) (ty_2 _) (by omega) (by omega) rfl (fun b5179 b5180 => ?_))
                                    refine wp_of e16 c16_256 (rw_bipush (pc' := 258) (z := 44) rfl (by decide) ?_)
                                    refine wp_of e16 c16_258 (rw_icmp_ne (p1 := 265) (p2 := 261) (by decide) rfl ⟨by omega, by omega⟩ ⟨by omega, by omega⟩ (fun c5181 => ?_) (fun c5181 => ?_))
                                    · refine wp_of e16 c16_265 (rw_iconst (pc' := 266) rfl ?_)
                                      refine wp_of e16 c16_266 (xp_I (pc' := 269) lf_2_41 w4879 g0 sh_4 (by decide) (by decide) ty_4_3 rfl rfl (by omega) (by omega) ⟨by omega, by omega⟩ rfl (fun H5182 e5183 w5184 => ?_))
                                      have f5185 := f4883.put' e5183 g0 rfl
                                      have k5186 : H5182 r0 3 = 5 := wq_u_s e5183
                                      refine wp_of e16 c16_269 (rw_iinc (pc' := 272) (z := v4877) (L' := [(1, vI (v4877 + 1)), (3, vI ((v4877 - (H4878 r0 4)) - (v4806 - (H4807 r0 4)))), (2, vI (v4806 - (H4807 r0 4))), (0, .ref r0)]) rfl rfl rfl rfl ?_)
                                      refine wp_of e16 c16_272 (rw_goto (p1 := 280) (by decide) ?_)
                                      refine wp_of e16 c16_280 (rw_aload_n (pc' := 281) (v := .ref r0) rfl rfl rfl ?_)
                                      refine wp_of e16 c16_281 (rw_iload_n (pc' := 282) (z := v4877 + 1) rfl rfl ?_)
                                      refine wp_of e16 c16_282 (xp_I (pc' := 285) lf_2_23 w5184 g0 sh_4 (by decide) (by decide) ty_4_2 rfl rfl (by omega) (by omega) ⟨by omega, by omega⟩ rfl (fun H5187 e5188 w5189 => ?_))
                                      have f5190 := f5185.put' e5188 g0 rfl
                                      have k5191 : H5187 r0 2 = v4877 + 1 := wq_u_s e5188
                                      exact wp_return e16 c16_285 rfl ⟨rfl, w5189, f5190, rfl⟩
                                    · exfalso
                                      omega
                                  · refine wp_of e16 c16_246 (rw_iconst (pc' := 247) rfl ?_)
                                    refine wp_of e16 c16_247 (rw_goto (p1 := 266) (by decide) ?_)
                                    refine wp_of e16 c16_266 (xp_I (pc' := 269) lf_2_41 w4879 g0 sh_4 (by decide) (by decide) ty_4_3 rfl rfl (by omega) (by omega) ⟨by omega, by omega⟩ rfl (fun H5192 e5193 w5194 => ?_))
                                    have f5195 := f4883.put' e5193 g0 rfl
                                    have k5196 : H5192 r0 3 = 3 := wq_u_s e5193
                                    refine wp_of e16 c16_269 (rw_iinc (pc' := 272) (z := v4877) (L' := [(1, vI (v4877 + 1)), (3, vI ((v4877 - (H4878 r0 4)) - (v4806 - (H4807 r0 4)))), (2, vI (v4806 - (H4807 r0 4))), (0, .ref r0)]) rfl rfl rfl rfl ?_)
                                    refine wp_of e16 c16_272 (rw_goto (p1 := 280) (by decide) ?_)
                                    refine wp_of e16 c16_280 (rw_aload_n (pc' := 281) (v := .ref r0) rfl rfl rfl ?_)
                                    refine wp_of e16 c16_281 (rw_iload_n (pc' := 282) (z := v4877 + 1) rfl rfl ?_)
                                    refine wp_of e16 c16_282 (xp_I (pc' := 285) lf_2_23 w5194 g0 sh_4 (by decide) (by decide) ty_4_2 rfl rfl (by omega) (by omega) ⟨by omega, by omega⟩ rfl (fun H5197 e5198 w5199 => ?_))
                                    have f5200 := f5195.put' e5198 g0 rfl
                                    have k5201 : H5197 r0 2 = v4877 + 1 := wq_u_s e5198
                                    exact wp_return e16 c16_285 rfl ⟨rfl, w5199, f5200, rfl⟩
                              · refine wp_of e16 c16_209 (rw_aload_n (pc' := 210) (v := .ref r0) rfl rfl rfl ?_)
                                refine wp_of e16 c16_210 (rw_iload_n (pc' := 211) (z := (v4877 - (H4878 r0 4)) - (v4806 - (H4807 r0 4))) rfl rfl ?_)
                                refine wp_of e16 c16_211 (rw_iconst (pc' := 212) rfl ?_)
                                refine wp_of e16 c16_212 (rw_icmp_gt (p1 := 219) (p2 := 215) (by decide) rfl ⟨by omega, by omega⟩ ⟨by omega, by omega⟩ (fun c5202 => ?_) (fun c5202 => ?_))
                                · refine wp_of e16 c16_219 (rw_iconst (pc' := 220) rfl ?_)
                                  refine wp_of e16 c16_220 (xp_I (pc' := 223) lf_2_41 w4879 g0 sh_4 (by decide) (by decide) ty_4_3 rfl rfl (by omega) (by omega) ⟨by omega, by omega⟩ rfl (fun H5203 e5204 w5205 => ?_))
                                  have f5206 := f4883.put' e5204 g0 rfl
                                  have k5207 : H5203 r0 3 = 5 := wq_u_s e5204
                                  refine wp_of e16 c16_223 (rw_goto (p1 := 280) (by decide) ?_)
                                  refine wp_of e16 c16_280 (rw_aload_n (pc' := 281) (v := .ref r0) rfl rfl rfl ?_)
                                  refine wp_of e16 c16_281 (rw_iload_n (pc' := 282) (z := v4877) rfl rfl ?_)
                                  refine wp_of e16 c16_282 (xp_I (pc' := 285) lf_2_23 w5205 g0 sh_4 (by decide) (by decide) ty_4_2 rfl rfl (by omega) (by omega) ⟨by omega, by omega⟩ rfl (fun H5208 e5209 w5210 => ?_))
                                  have f5211 := f5206.put' e5209 g0 rfl
                                  have k5212 : H5208 r0 2 = v4877 := wq_u_s e5209
                                  exact wp_return e16 c16_285 rfl ⟨rfl, w5210, f5211, rfl⟩
                                · refine wp_of e16 c16_215 (rw_iconst (pc' := 216) rfl ?_)
                                  refine wp_of e16 c16_216 (rw_goto (p1 := 220) (by decide) ?_)
                                  refine wp_of e16 c16_220 (xp_I (pc' := 223) lf_2_41 w4879 g0 sh_4 (by decide) (by decide) ty_4_3 rfl rfl (by omega) (by omega) ⟨by omega, by omega⟩ rfl (fun H5213 e5214 w5215 => ?_))
                                  have f5216 := f4883.put' e5214 g0 rfl
                                  have k5217 : H5213 r0 3 = 2 := wq_u_s e5214
                                  refine wp_of e16 c16_223 (rw_goto (p1 := 280) (by decide) ?_)
                                  refine wp_of e16 c16_280 (rw_aload_n (pc' := 281) (v := .ref r0) rfl rfl rfl ?_)
                                  refine wp_of e16 c16_281 (rw_iload_n (pc' := 282) (z := v4877) rfl rfl ?_)
                                  refine wp_of e16 c16_282 (xp_I (pc' := 285) lf_2_23 w5215 g0 sh_4 (by decide) (by decide) ty_4_2 rfl rfl (by omega) (by omega) ⟨by omega, by omega⟩ rfl (fun H5218 e5219 w5220 => ?_))
                                  have f5221 := f5216.put' e5219 g0 rfl
                                  have k5222 : H5218 r0 2 = v4877 := wq_u_s e5219
                                  exact wp_return e16 c16_285 rfl ⟨rfl, w5220, f5221, rfl⟩
                            · exfalso
                              omega
                          · refine wp_of e16 c16_147 (rw_aload_n (pc' := 148) (v := .ref r0) rfl rfl rfl ?_)
                            refine wp_of e16 c16_148 (rw_aload_n (pc' := 149) (v := .ref r0) rfl rfl rfl ?_)
                            refine wp_of e16 c16_149 (xg_I (pc' := 152) lf_2_38 w4879 g0 sh_4 (by decide) (by decide) ty_4_5 rfl rfl (fun b5223 b5224 => ?_))
                            refine wp_of e16 c16_152 (rw_bipush (pc' := 154) (z := 10) rfl (by decide) ?_)
                            refine wp_of e16 c16_154 (rw_imulw (pc' := 155) rfl ?_)
                            obtain ⟨v5225, e5226⟩ : ∃ x : Int, x = wq_w ((H4878 r0 5) * 10) := ⟨_, rfl⟩
                            rw [← e5226]
                            have b5227 : -2147483648 ≤ v5225 ∧ v5225 ≤ 2147483647 := by
                              rw [e5226]
                              exact wI_w _
                            refine wp_of e16 c16_155 (rw_aload_n (pc' := 156) (v := .ref r0) rfl rfl rfl ?_)
                            refine wp_of e16 c16_156 (xg_K (pc' := 159) lf_2_7 w4879 g0 sh_4 (by decide) (by decide) rfl q5086 rfl ?_)
                            refine wp_of e16 c16_159 (rw_iload_n (pc' := 160) (z := v4877) rfl rfl ?_)
                            refine wp_of e16 c16_160 (xa_B (by decide) (pc' := 161) w4879 grb sh_2 (by decide) (ty_2 _) (by omega) (by omega) rfl (fun b5228 b5229 => ?_))
                            refine wp_of e16 c16_161 (rw_bipush (pc' := 163) (z := 48) rfl (by decide) ?_)
                            refine wp_of e16 c16_163 (rw_isub (pc' := 164) rfl ?_)
                            refine wp_of e16 c16_164 (rw_iaddw (pc' := 165) rfl ?_)
                            obtain ⟨v5230, e5231⟩ : ∃ x : Int, x = wq_w (v5225 + ((H4878 rb (v4877.toNat)) - 48)) := ⟨_, rfl⟩
                            rw [← e5231]
                            have b5232 : -2147483648 ≤ v5230 ∧ v5230 ≤ 2147483647 := by
                              rw [e5231]
                              exact wI_w _
                            refine wp_of e16 c16_165 (xp_I (pc' := 168) lf_2_38 w4879 g0 sh_4 (by decide) (by decide) ty_4_5 rfl rfl (by omega) (by omega) ⟨by omega, by omega⟩ rfl (fun H5233 e5234 w5235 => ?_))
                            have f5236 := f4883.put' e5234 g0 rfl
                            have f5237 := f4880.put' e5234 g0 rfl
                            have k5238 : H5233 r0 5 = v5230 := wq_u_s e5234
                            refine wp_of e16 c16_168 (rw_iinc (pc' := 171) (z := v4877) (L' := [(1, vI (v4877 + 1)), (2, vI (v4806 - (H4807 r0 4))), (0, .ref r0)]) rfl rfl rfl rfl ?_)
                            refine wp_of e16 c16_171 (rw_goto (p1 := 113) (by decide) ?_)
                            exact wp_lc (ks := [1, 2, 0]) (wl_c rfl (wl_c rfl (wl_c rfl wl_n))) rfl (by decide) (ih4876 _ (by omega) (v4877 + 1) H5233 w5235 f5237 ⟨by omega, by omega⟩ rfl)
                exact wp_lc (ks := [2, 1, 0]) (wl_c rfl (wl_c rfl (wl_c rfl wl_n))) rfl (by decide) (lp4874 _ v4806 H4820 w4822 wfr.rf ⟨by omega, by omega⟩ rfl)
              · refine wp_of e16 c16_48 (rw_aload_n (pc' := 49) (v := .ref r0) rfl rfl rfl ?_)
                have k5239 : H4807 r0 0 = H r0 0 := ((f4809 r0 0 _ g0 rfl).trans ((wq_u_j e4752 rfl).trans (wq_u_j e4747 rfl)))
                have q5240 : H4807 r0 0 = (rb : Int) := k5239.trans qrb
                refine wp_of e16 c16_49 (xg_K (pc' := 52) lf_2_7 w4808 g0 sh_4 (by decide) (by decide) rfl q5240 rfl ?_)
                refine wp_of e16 c16_52 (rw_iload_n (pc' := 53) (z := v4806) rfl rfl ?_)
                refine wp_of e16 c16_53 (xa_B (by decide) (pc' := 54) w4808 grb sh_2 (by decide) (ty_2 _) (by omega) (by omega) rfl (fun b5241 b5242 => ?_))
                refine wp_of e16 c16_54 (rw_bipush (pc' := 56) (z := 97) rfl (by decide) ?_)
                refine wp_of e16 c16_56 (rw_icmp_lt (p1 := 101) (p2 := 59) (by decide) rfl ⟨by omega, by omega⟩ ⟨by omega, by omega⟩ (fun c5243 => ?_) (fun c5243 => ?_))
                · refine wp_of e16 c16_101 (rw_iload_n (pc' := 102) (z := v4806) rfl rfl ?_)
                  refine wp_of e16 c16_102 (rw_aload_n (pc' := 103) (v := .ref r0) rfl rfl rfl ?_)
                  have k5244 : H4807 r0 4 = H4746 r0 4 := ((f4809 r0 4 _ g0 rfl).trans (wq_u_j e4752 rfl))
                  refine wp_of e16 c16_103 (xg_I (pc' := 106) lf_2_29 w4808 g0 sh_4 (by decide) (by decide) ty_4_4 rfl rfl (fun b5245 b5246 => ?_))
                  refine wp_of e16 c16_106 (rw_isub (pc' := 107) rfl ?_)
                  refine wp_of e16 c16_107 (rw_istore_n (pc' := 108) (z := v4806 - (H4807 r0 4)) (L' := [(2, vI (v4806 - (H4807 r0 4))), (1, vI v4806), (0, .ref r0)]) rfl rfl rfl ?_)
                  refine wp_of e16 c16_108 (rw_aload_n (pc' := 109) (v := .ref r0) rfl rfl rfl ?_)
                  refine wp_of e16 c16_109 (rw_iconst (pc' := 110) rfl ?_)
                  refine wp_of e16 c16_110 (xp_I (pc' := 113) lf_2_38 w4808 g0 sh_4 (by decide) (by decide) ty_4_5 rfl rfl (by omega) (by omega) ⟨by omega, by omega⟩ rfl (fun H5247 e5248 w5249 => ?_))
                  have f5250 := f4812.put' e5248 g0 rfl
                  have k5251 : H5247 r0 5 = 0 := wq_u_s e5248
                  have lp5301 : ∀ (n5302 : Nat) (v5304 : Int) (H5305 : wq_H), WT T H5305 → wfr [(4, 5)] T H5247 H5305 → (0 ≤ v5304 ∧ v5304 ≤ 900) → (900 - v5304).toNat = n5302 → wp kt 0 16 113 [(1, vI v5304), (2, vI (v4806 - (H4807 r0 4))), (0, .ref r0)] [] T H5305 (q_16 r0 rb T H) := by
                    intro n5302
                    induction n5302 using Nat.strongRecOn with
                    | _ n5302 ih5303 =>
                      intro v5304 H5305 w5306 f5307 b5308 m5309
                      have f5310 := f5250.tr f5307 rfl
                      refine wp_of e16 c16_113 (rw_iload_n (pc' := 114) (z := v5304) rfl rfl ?_)
                      refine wp_of e16 c16_114 (rw_aload_n (pc' := 115) (v := .ref r0) rfl rfl rfl ?_)
                      have k5311 : H5305 r0 1 = H4807 r0 1 := ((f5307 r0 1 _ g0 rfl).trans (wq_u_j e5248 rfl))
                      refine wp_of e16 c16_115 (xg_I (pc' := 118) lf_2_19 w5306 g0 sh_4 (by decide) (by decide) ty_4_1 rfl rfl (fun b5312 b5313 => ?_))
                      refine wp_of e16 c16_118 (rw_icmp_ge (p1 := 174) (p2 := 121) (by decide) rfl ⟨by omega, by omega⟩ ⟨by omega, by omega⟩ (fun c5314 => ?_) (fun c5314 => ?_))
                      · refine wp_of e16 c16_174 (rw_iload_n (pc' := 175) (z := v5304) rfl rfl ?_)
                        refine wp_of e16 c16_175 (rw_aload_n (pc' := 176) (v := .ref r0) rfl rfl rfl ?_)
                        have k5315 : H5305 r0 4 = H4807 r0 4 := ((f5307 r0 4 _ g0 rfl).trans (wq_u_j e5248 rfl))
                        refine wp_of e16 c16_176 (xg_I (pc' := 179) lf_2_29 w5306 g0 sh_4 (by decide) (by decide) ty_4_4 rfl rfl (fun b5316 b5317 => ?_))
                        refine wp_of e16 c16_179 (rw_isub (pc' := 180) rfl ?_)
                        refine wp_of e16 c16_180 (rw_iload_n (pc' := 181) (z := v4806 - (H4807 r0 4)) rfl rfl ?_)
                        refine wp_of e16 c16_181 (rw_isub (pc' := 182) rfl ?_)
                        refine wp_of e16 c16_182 (rw_istore_n (pc' := 183) (z := (v5304 - (H5305 r0 4)) - (v4806 - (H4807 r0 4))) (L' := [(3, vI ((v5304 - (H5305 r0 4)) - (v4806 - (H4807 r0 4)))), (1, vI v5304), (2, vI (v4806 - (H4807 r0 4))), (0, .ref r0)]) rfl rfl rfl ?_)
                        refine wp_of e16 c16_183 (rw_iload_n (pc' := 184) (z := v4806 - (H4807 r0 4)) rfl rfl ?_)
                        refine wp_of e16 c16_184 (rw_if_le (p1 := 205) (p2 := 187) (by decide) rfl ⟨by omega, by omega⟩ (fun c5318 => ?_) (fun c5318 => ?_))
                        · refine wp_of e16 c16_205 (rw_iload_n (pc' := 206) (z := (v5304 - (H5305 r0 4)) - (v4806 - (H4807 r0 4))) rfl rfl ?_)
                          refine wp_of e16 c16_206 (rw_if_le (p1 := 226) (p2 := 209) (by decide) rfl ⟨by omega, by omega⟩ (fun c5319 => ?_) (fun c5319 => ?_))
                          · refine wp_of e16 c16_226 (rw_iload_n (pc' := 227) (z := v5304) rfl rfl ?_)
                            refine wp_of e16 c16_227 (rw_aload_n (pc' := 228) (v := .ref r0) rfl rfl rfl ?_)
                            refine wp_of e16 c16_228 (xg_I (pc' := 231) lf_2_19 w5306 g0 sh_4 (by decide) (by decide) ty_4_1 rfl rfl (fun b5320 b5321 => ?_))
                            refine wp_of e16 c16_231 (rw_icmp_ge (p1 := 275) (p2 := 234) (by decide) rfl ⟨by omega, by omega⟩ ⟨by omega, by omega⟩ (fun c5322 => ?_) (fun c5322 => ?_))
                            · refine wp_of e16 c16_275 (rw_aload_n (pc' := 276) (v := .ref r0) rfl rfl rfl ?_)
                              refine wp_of e16 c16_276 (rw_iconst (pc' := 277) rfl ?_)
                              refine wp_of e16 c16_277 (xp_I (pc' := 280) lf_2_41 w5306 g0 sh_4 (by decide) (by decide) ty_4_3 rfl rfl (by omega) (by omega) ⟨by omega, by omega⟩ rfl (fun H5323 e5324 w5325 => ?_))
                              have f5326 := f5310.put' e5324 g0 rfl
                              have k5327 : H5323 r0 3 = 0 := wq_u_s e5324
                              refine wp_of e16 c16_280 (rw_aload_n (pc' := 281) (v := .ref r0) rfl rfl rfl ?_)
                              refine wp_of e16 c16_281 (rw_iload_n (pc' := 282) (z := v5304) rfl rfl ?_)
                              refine wp_of e16 c16_282 (xp_I (pc' := 285) lf_2_23 w5325 g0 sh_4 (by decide) (by decide) ty_4_2 rfl rfl (by omega) (by omega) ⟨by omega, by omega⟩ rfl (fun H5328 e5329 w5330 => ?_))
                              have f5331 := f5326.put' e5329 g0 rfl
                              have k5332 : H5328 r0 2 = v5304 := wq_u_s e5329
                              exact wp_return e16 c16_285 rfl ⟨rfl, w5330, f5331, rfl⟩
                            · refine wp_of e16 c16_234 (rw_aload_n (pc' := 235) (v := .ref r0) rfl rfl rfl ?_)
                              refine wp_of e16 c16_235 (rw_aload_n (pc' := 236) (v := .ref r0) rfl rfl rfl ?_)
                              have k5333 : H5305 r0 0 = H4807 r0 0 := ((f5307 r0 0 _ g0 rfl).trans (wq_u_j e5248 rfl))
                              have q5334 : H5305 r0 0 = (rb : Int) := k5333.trans q5240
                              refine wp_of e16 c16_236 (xg_K (pc' := 239) lf_2_7 w5306 g0 sh_4 (by decide) (by decide) rfl q5334 rfl ?_)
                              refine wp_of e16 c16_239 (rw_iload_n (pc' := 240) (z := v5304) rfl rfl ?_)
                              refine wp_of e16 c16_240 (xa_B (by decide) (pc' := 241) w5306 grb sh_2 (by decide) (ty_2 _) (by omega) (by omega) rfl (fun b5335 b5336 => ?_))
                              refine wp_of e16 c16_241 (rw_bipush (pc' := 243) (z := 59) rfl (by decide) ?_)
                              refine wp_of e16 c16_243 (rw_icmp_ne (p1 := 250) (p2 := 246) (by decide) rfl ⟨by omega, by omega⟩ ⟨by omega, by omega⟩ (fun c5337 => ?_) (fun c5337 => ?_))
                              · refine wp_of e16 c16_250 (rw_aload_n (pc' := 251) (v := .ref r0) rfl rfl rfl ?_)
                                refine wp_of e16 c16_251 (xg_K (pc' := 254) lf_2_7 w5306 g0 sh_4 (by decide) (by decide) rfl q5334 rfl ?_)
                                refine wp_of e16 c16_254 (rw_iload_n (pc' := 255) (z := v5304) rfl rfl ?_)
                                refine wp_of e16 c16_255 (xa_B (by decide) (pc' := 256) w5306 grb sh_2 (by decide) (ty_2 _) (by omega) (by omega) rfl (fun b5338 b5339 => ?_))
                                refine wp_of e16 c16_256 (rw_bipush (pc' := 258) (z := 44) rfl (by decide) ?_)
                                refine wp_of e16 c16_258 (rw_icmp_ne (p1 := 265) (p2 := 261) (by decide) rfl ⟨by omega, by omega⟩ ⟨by omega, by omega⟩ (fun c5340 => ?_) (fun c5340 => ?_))
                                · refine wp_of e16 c16_265 (rw_iconst (pc' := 266) rfl ?_)
                                  refine wp_of e16 c16_266 (xp_I (pc' := 269) lf_2_41 w5306 g0 sh_4 (by decide) (by decide) ty_4_3 rfl rfl (by omega) (by omega) ⟨by omega, by omega⟩ rfl (fun H5341 e5342 w5343 => ?_))
                                  have f5344 := f5310.put' e5342 g0 rfl
                                  have k5345 : H5341 r0 3 = 5 := wq_u_s e5342
                                  refine wp_of e16 c16_269 (rw_iinc (pc' := 272) (z := v5304) (L' := [(1, vI (v5304 + 1)), (3, vI ((v5304 - (H5305 r0 4)) - (v4806 - (H4807 r0 4)))), (2, vI (v4806 - (H4807 r0 4))), (0, .ref r0)]) rfl rfl rfl rfl ?_)
                                  refine wp_of e16 c16_272 (rw_goto (p1 := 280) (by decide) ?_)
                                  refine wp_of e16 c16_280 (rw_aload_n (pc' := 281) (v := .ref r0) rfl rfl rfl ?_)
                                  refine wp_of e16 c16_281 (rw_iload_n (pc' := 282) (z := v5304 + 1) rfl rfl ?_)
                                  refine wp_of e16 c16_282 (xp_I (pc' := 285) lf_2_23 w5343 g0 sh_4 (by decide) (by decide) ty_4_2 rfl rfl (by omega) (by omega) ⟨by omega, by omega⟩ rfl (fun H5346 e5347 w5348 => ?_))
                                  have f5349 := f5344.put' e5347 g0 rfl
                                  have k5350 : H5346 r0 2 = v5304 + 1 := wq_u_s e5347
                                  exact wp_return e16 c16_285 rfl ⟨rfl, w5348, f5349, rfl⟩
                                · refine wp_of e16 c16_261 (rw_iconst (pc' := 262) rfl ?_)
                                  refine wp_of e16 c16_262 (rw_goto (p1 := 266) (by decide) ?_)
                                  refine wp_of e16 c16_266 (xp_I (pc' := 269) lf_2_41 w5306 g0 sh_4 (by decide) (by decide) ty_4_3 rfl rfl (by omega) (by omega) ⟨by omega, by omega⟩ rfl (fun H5351 e5352 w5353 => ?_))
                                  have f5354 := f5310.put' e5352 g0 rfl
                                  have k5355 : H5351 r0 3 = 4 := wq_u_s e5352
                                  refine wp_of e16 c16_269 (rw_iinc (pc' := 272) (z := v5304) (L' := [(1, vI (v5304 + 1)), (3, vI ((v5304 - (H5305 r0 4)) - (v4806 - (H4807 r0 4)))), (2, vI (v4806 - (H4807 r0 4))), (0, .ref r0)]) rfl rfl rfl rfl ?_)
                                  refine wp_of e16 c16_272 (rw_goto (p1 := 280) (by decide) ?_)
                                  refine wp_of e16 c16_280 (rw_aload_n (pc' := 281) (v := .ref r0) rfl rfl rfl ?_)
                                  refine wp_of e16 c16_281 (rw_iload_n (pc' := 282) (z := v5304 + 1) rfl rfl ?_)
                                  refine wp_of e16 c16_282 (xp_I (pc' := 285) lf_2_23 w5353 g0 sh_4 (by decide) (by decide) ty_4_2 rfl rfl (by omega) (by omega) ⟨by omega, by omega⟩ rfl (fun H5356 e5357 w5358 => ?_))
                                  have f5359 := f5354.put' e5357 g0 rfl
                                  have k5360 : H5356 r0 2 = v5304 + 1 := wq_u_s e5357
                                  exact wp_return e16 c16_285 rfl ⟨rfl, w5358, f5359, rfl⟩
                              · refine wp_of e16 c16_246 (rw_iconst (pc' := 247) rfl ?_)
                                refine wp_of e16 c16_247 (rw_goto (p1 := 266) (by decide) ?_)
                                refine wp_of e16 c16_266 (xp_I (pc' := 269) lf_2_41 w5306 g0 sh_4 (by decide) (by decide) ty_4_3 rfl rfl (by omega) (by omega) ⟨by omega, by omega⟩ rfl (fun H5361 e5362 w5363 => ?_))
                                have f5364 := f5310.put' e5362 g0 rfl
                                have k5365 : H5361 r0 3 = 3 := wq_u_s e5362
                                refine wp_of e16 c16_269 (rw_iinc (pc' := 272) (z := v5304) (L' := [(1, vI (v5304 + 1)), (3, vI ((v5304 - (H5305 r0 4)) - (v4806 - (H4807 r0 4)))), (2, vI (v4806 - (H4807 r0 4))), (0, .ref r0)]) rfl rfl rfl rfl ?_)
                                refine wp_of e16 c16_272 (rw_goto (p1 := 280) (by decide) ?_)
                                refine wp_of e16 c16_280 (rw_aload_n (pc' := 281) (v := .ref r0) rfl rfl rfl ?_)
                                refine wp_of e16 c16_281 (rw_iload_n (pc' := 282) (z := v5304 + 1) rfl rfl ?_)
                                refine wp_of e16 c16_282 (xp_I (pc' := 285) lf_2_23 w5363 g0 sh_4 (by decide) (by decide) ty_4_2 rfl rfl (by omega) (by omega) ⟨by omega, by omega⟩ rfl (fun H5366 e5367 w5368 => ?_))
                                have f5369 := f5364.put' e5367 g0 rfl
                                have k5370 : H5366 r0 2 = v5304 + 1 := wq_u_s e5367
                                exact wp_return e16 c16_285 rfl ⟨rfl, w5368, f5369, rfl⟩
                          · refine wp_of e16 c16_209 (rw_aload_n (pc' := 210) (v := .ref r0) rfl rfl rfl ?_)
                            refine wp_of e16 c16_210 (rw_iload_n (pc' := 211) (z := (v5304 - (H5305 r0 4)) - (v4806 - (H4807 r0 4))) rfl rfl ?_)
                            refine wp_of e16 c16_211 (rw_iconst (pc' := 212) rfl ?_)
                            refine wp_of e16 c16_212 (rw_icmp_gt (p1 := 219) (p2 := 215) (by decide) rfl ⟨by omega, by omega⟩ ⟨by omega, by omega⟩ (fun c5371 => ?_) (fun c5371 => ?_))
                            · refine wp_of e16 c16_219 (rw_iconst (pc' := 220) rfl ?_)
                              refine wp_of e16 c16_220 (xp_I (pc' := 223) lf_2_41 w5306 g0 sh_4 (by decide) (by decide) ty_4_3 rfl rfl (by omega) (by omega) ⟨by omega, by omega⟩ rfl (fun H5372 e5373 w5374 => ?_))
                              have f5375 := f5310.put' e5373 g0 rfl
                              have k5376 : H5372 r0 3 = 5 := wq_u_s e5373
                              refine wp_of e16 c16_223 (rw_goto (p1 := 280) (by decide) ?_)
                              refine wp_of e16 c16_280 (rw_aload_n (pc' := 281) (v := .ref r0) rfl rfl rfl ?_)
                              refine wp_of e16 c16_281 (rw_iload_n (pc' := 282) (z := v5304) rfl rfl ?_)
                              refine wp_of e16 c16_282 (xp_I (pc' := 285) lf_2_23 w5374 g0 sh_4 (by decide) (by decide) ty_4_2 rfl rfl (by omega) (by omega) ⟨by omega, by omega⟩ rfl (fun H5377 e5378 w5379 => ?_))
                              have f5380 := f5375.put' e5378 g0 rfl
                              have k5381 : H5377 r0 2 = v5304 := wq_u_s e5378
                              exact wp_return e16 c16_285 rfl ⟨rfl, w5379, f5380, rfl⟩
                            · refine wp_of e16 c16_215 (rw_iconst (pc' := 216) rfl ?_)
                              refine wp_of e16 c16_216 (rw_goto (p1 := 220) (by decide) ?_)
                              refine wp_of e16 c16_220 (xp_I (pc' := 223) lf_2_41 w5306 g0 sh_4 (by decide) (by decide) ty_4_3 rfl rfl (by omega) (by omega) ⟨by omega, by omega⟩ rfl (fun H5382 e5383 w5384 => ?_))
                              have f5385 := f5310.put' e5383 g0 rfl
                              have k5386 : H5382 r0 3 = 2 := wq_u_s e5383
                              refine wp_of e16 c16_223 (rw_goto (p1 := 280) (by decide) ?_)
                              refine wp_of e16 c16_280 (rw_aload_n (pc' := 281) (v := .ref r0) rfl rfl rfl ?_)
                              refine wp_of e16 c16_281 (rw_iload_n (pc' := 282) (z := v5304) rfl rfl ?_)
                              refine wp_of e16 c16_282 (xp_I (pc' := 285) lf_2_23 w5384 g0 sh_4 (by decide) (by decide) ty_4_2 rfl rfl (by omega) (by omega) ⟨by omega, by omega⟩ rfl (fun H5387 e5388 w5389 => ?_))
                              have f5390 := f5385.put' e5388 g0 rfl
                              have k5391 : H5387 r0 2 = v5304 := wq_u_s e5388
                              exact wp_return e16 c16_285 rfl ⟨rfl, w5389, f5390, rfl⟩
                        · refine wp_of e16 c16_187 (rw_aload_n (pc' := 188) (v := .ref r0) rfl rfl rfl ?_)
                          refine wp_of e16 c16_188 (rw_iload_n (pc' := 189) (z := v4806 - (H4807 r0 4)) rfl rfl ?_)
                          refine wp_of e16 c16_189 (rw_bipush (pc' := 191) (z := 8) rfl (by decide) ?_)
                          refine wp_of e16 c16_191 (rw_icmp_gt (p1 := 198) (p2 := 194) (by decide) rfl ⟨by omega, by omega⟩ ⟨by omega, by omega⟩ (fun c5392 => ?_) (fun c5392 => ?_))
                          · refine wp_of e16 c16_198 (rw_iconst (pc' := 199) rfl ?_)
                            refine wp_of e16 c16_199 (xp_I (pc' := 202) lf_2_41 w5306 g0 sh_4 (by decide) (by decide) ty_4_3 rfl rfl (by omega) (by omega) ⟨by omega, by omega⟩ rfl (fun H5393 e5394 w5395 => ?_))
                            have f5396 := f5310.put' e5394 g0 rfl
                            have k5397 : H5393 r0 3 = 5 := wq_u_s e5394
                            refine wp_of e16 c16_202 (rw_goto (p1 := 280) (by decide) ?_)
                            refine wp_of e16 c16_280 (rw_aload_n (pc' := 281) (v := .ref r0) rfl rfl rfl ?_)
                            refine wp_of e16 c16_281 (rw_iload_n (pc' := 282) (z := v5304) rfl rfl ?_)
                            refine wp_of e16 c16_282 (xp_I (pc' := 285) lf_2_23 w5395 g0 sh_4 (by decide) (by decide) ty_4_2 rfl rfl (by omega) (by omega) ⟨by omega, by omega⟩ rfl (fun H5398 e5399 w5400 => ?_))
                            have f5401 := f5396.put' e5399 g0 rfl
                            have k5402 : H5398 r0 2 = v5304 := wq_u_s e5399
                            exact wp_return e16 c16_285 rfl ⟨rfl, w5400, f5401, rfl⟩
                          · refine wp_of e16 c16_194 (rw_iconst (pc' := 195) rfl ?_)
                            refine wp_of e16 c16_195 (rw_goto (p1 := 199) (by decide) ?_)
                            refine wp_of e16 c16_199 (xp_I (pc' := 202) lf_2_41 w5306 g0 sh_4 (by decide) (by decide) ty_4_3 rfl rfl (by omega) (by omega) ⟨by omega, by omega⟩ rfl (fun H5403 e5404 w5405 => ?_))
                            have f5406 := f5310.put' e5404 g0 rfl
                            have k5407 : H5403 r0 3 = 1 := wq_u_s e5404
                            refine wp_of e16 c16_202 (rw_goto (p1 := 280) (by decide) ?_)
                            refine wp_of e16 c16_280 (rw_aload_n (pc' := 281) (v := .ref r0) rfl rfl rfl ?_)
                            refine wp_of e16 c16_281 (rw_iload_n (pc' := 282) (z := v5304) rfl rfl ?_)
                            refine wp_of e16 c16_282 (xp_I (pc' := 285) lf_2_23 w5405 g0 sh_4 (by decide) (by decide) ty_4_2 rfl rfl (by omega) (by omega) ⟨by omega, by omega⟩ rfl (fun H5408 e5409 w5410 => ?_))
                            have f5411 := f5406.put' e5409 g0 rfl
                            have k5412 : H5408 r0 2 = v5304 := wq_u_s e5409
                            exact wp_return e16 c16_285 rfl ⟨rfl, w5410, f5411, rfl⟩
                      · refine wp_of e16 c16_121 (rw_iload_n (pc' := 122) (z := v4806 - (H4807 r0 4)) rfl rfl ?_)
                        refine wp_of e16 c16_122 (rw_if_ne (p1 := 174) (p2 := 125) (by decide) rfl ⟨by omega, by omega⟩ (fun c5413 => ?_) (fun c5413 => ?_))
                        · refine wp_of e16 c16_174 (rw_iload_n (pc' := 175) (z := v5304) rfl rfl ?_)
                          refine wp_of e16 c16_175 (rw_aload_n (pc' := 176) (v := .ref r0) rfl rfl rfl ?_)
                          have k5414 : H5305 r0 4 = H4807 r0 4 := ((f5307 r0 4 _ g0 rfl).trans (wq_u_j e5248 rfl))
                          refine wp_of e16 c16_176 (xg_I (pc' := 179) lf_2_29 w5306 g0 sh_4 (by decide) (by decide) ty_4_4 rfl rfl (fun b5415 b5416 => ?_))
                          refine wp_of e16 c16_179 (rw_isub (pc' := 180) rfl ?_)
                          refine wp_of e16 c16_180 (rw_iload_n (pc' := 181) (z := v4806 - (H4807 r0 4)) rfl rfl ?_)
                          refine wp_of e16 c16_181 (rw_isub (pc' := 182) rfl ?_)
                          refine wp_of e16 c16_182 (rw_istore_n (pc' := 183) (z := (v5304 - (H5305 r0 4)) - (v4806 - (H4807 r0 4))) (L' := [(3, vI ((v5304 - (H5305 r0 4)) - (v4806 - (H4807 r0 4)))), (1, vI v5304), (2, vI (v4806 - (H4807 r0 4))), (0, .ref r0)]) rfl rfl rfl ?_)
                          refine wp_of e16 c16_183 (rw_iload_n (pc' := 184) (z := v4806 - (H4807 r0 4)) rfl rfl ?_)
                          refine wp_of e16 c16_184 (rw_if_le (p1 := 205) (p2 := 187) (by decide) rfl ⟨by omega, by omega⟩ (fun c5417 => ?_) (fun c5417 => ?_))
                          · refine wp_of e16 c16_205 (rw_iload_n (pc' := 206) (z := (v5304 - (H5305 r0 4)) - (v4806 - (H4807 r0 4))) rfl rfl ?_)
                            refine wp_of e16 c16_206 (rw_if_le (p1 := 226) (p2 := 209) (by decide) rfl ⟨by omega, by omega⟩ (fun c5418 => ?_) (fun c5418 => ?_))
                            · refine wp_of e16 c16_226 (rw_iload_n (pc' := 227) (z := v5304) rfl rfl ?_)
                              refine wp_of e16 c16_227 (rw_aload_n (pc' := 228) (v := .ref r0) rfl rfl rfl ?_)
                              refine wp_of e16 c16_228 (xg_I (pc' := 231) lf_2_19 w5306 g0 sh_4 (by decide) (by decide) ty_4_1 rfl rfl (fun b5419 b5420 => ?_))
                              refine wp_of e16 c16_231 (rw_icmp_ge (p1 := 275) (p2 := 234) (by decide) rfl ⟨by omega, by omega⟩ ⟨by omega, by omega⟩ (fun c5421 => ?_) (fun c5421 => ?_))
                              · refine wp_of e16 c16_275 (rw_aload_n (pc' := 276) (v := .ref r0) rfl rfl rfl ?_)
                                refine wp_of e16 c16_276 (rw_iconst (pc' := 277) rfl ?_)
                                refine wp_of e16 c16_277 (xp_I (pc' := 280) lf_2_41 w5306 g0 sh_4 (by decide) (by decide) ty_4_3 rfl rfl (by omega) (by omega) ⟨by omega, by omega⟩ rfl (fun H5422 e5423 w5424 => ?_))
                                have f5425 := f5310.put' e5423 g0 rfl
                                have k5426 : H5422 r0 3 = 0 := wq_u_s e5423
                                refine wp_of e16 c16_280 (rw_aload_n (pc' := 281) (v := .ref r0) rfl rfl rfl ?_)
                                refine wp_of e16 c16_281 (rw_iload_n (pc' := 282) (z := v5304) rfl rfl ?_)
                                refine wp_of e16 c16_282 (xp_I (pc' := 285) lf_2_23 w5424 g0 sh_4 (by decide) (by decide) ty_4_2 rfl rfl (by omega) (by omega) ⟨by omega, by omega⟩ rfl (fun H5427 e5428 w5429 => ?_))
                                have f5430 := f5425.put' e5428 g0 rfl
                                have k5431 : H5427 r0 2 = v5304 := wq_u_s e5428
                                exact wp_return e16 c16_285 rfl ⟨rfl, w5429, f5430, rfl⟩
                              · refine wp_of e16 c16_234 (rw_aload_n (pc' := 235) (v := .ref r0) rfl rfl rfl ?_)
                                refine wp_of e16 c16_235 (rw_aload_n (pc' := 236) (v := .ref r0) rfl rfl rfl ?_)
                                have k5432 : H5305 r0 0 = H4807 r0 0 := ((f5307 r0 0 _ g0 rfl).trans (wq_u_j e5248 rfl))
                                have q5433 : H5305 r0 0 = (rb : Int) := k5432.trans q5240
                                refine wp_of e16 c16_236 (xg_K (pc' := 239) lf_2_7 w5306 g0 sh_4 (by decide) (by decide) rfl q5433 rfl ?_)
                                refine wp_of e16 c16_239 (rw_iload_n (pc' := 240) (z := v5304) rfl rfl ?_)
                                refine wp_of e16 c16_240 (xa_B (by decide) (pc' := 241) w5306 grb sh_2 (by decide) (ty_2 _) (by omega) (by omega) rfl (fun b5434 b5435 => ?_))
                                refine wp_of e16 c16_241 (rw_bipush (pc' := 243) (z := 59) rfl (by decide) ?_)
                                refine wp_of e16 c16_243 (rw_icmp_ne (p1 := 250) (p2 := 246) (by decide) rfl ⟨by omega, by omega⟩ ⟨by omega, by omega⟩ (fun c5436 => ?_) (fun c5436 => ?_))
                                · refine wp_of e16 c16_250 (rw_aload_n (pc' := 251) (v := .ref r0) rfl rfl rfl ?_)
                                  refine wp_of e16 c16_251 (xg_K (pc' := 254) lf_2_7 w5306 g0 sh_4 (by decide) (by decide) rfl q5433 rfl ?_)
                                  refine wp_of e16 c16_254 (rw_iload_n (pc' := 255) (z := v5304) rfl rfl ?_)
                                  refine wp_of e16 c16_255 (xa_B (by decide) (pc' := 256) w5306 grb sh_2 (by decide) (ty_2 _) (by omega) (by omega) rfl (fun b5437 b5438 => ?_))
                                  refine wp_of e16 c16_256 (rw_bipush (pc' := 258) (z := 44) rfl (by decide) ?_)
                                  refine wp_of e16 c16_258 (rw_icmp_ne (p1 := 265) (p2 := 261) (by decide) rfl ⟨by omega, by omega⟩ ⟨by omega, by omega⟩ (fun c5439 => ?_) (fun c5439 => ?_))
                                  · refine wp_of e16 c16_265 (rw_iconst (pc' := 266) rfl ?_)
                                    refine wp_of e16 c16_266 (xp_I (pc' := 269) lf_2_41 w5306 g0 sh_4 (by decide) (by decide) ty_4_3 rfl rfl (by omega) (by omega) ⟨by omega, by omega⟩ rfl (fun H5440 e5441 w5442 => ?_))
                                    have f5443 := f5310.put' e5441 g0 rfl
                                    have k5444 : H5440 r0 3 = 5 := wq_u_s e5441
                                    refine wp_of e16 c16_269 (rw_iinc (pc' := 272) (z := v5304) (L' := [(1, vI (v5304 + 1)), (3, vI ((v5304 - (H5305 r0 4)) - (v4806 - (H4807 r0 4)))), (2, vI (v4806 - (H4807 r0 4))), (0, .ref r0)]) rfl rfl rfl rfl ?_)
                                    refine wp_of e16 c16_272 (rw_goto (p1 := 280) (by decide) ?_)
                                    refine wp_of e16 c16_280 (rw_aload_n (pc' := 281) (v := .ref r0) rfl rfl rfl ?_)
                                    refine wp_of e16 c16_281 (rw_iload_n (pc' := 282) (z := v5304 + 1) rfl rfl ?_)
                                    refine wp_of e16 c16_282 (xp_I (pc' := 285) lf_2_23 w5442 g0 sh_4 (by decide) (by decide) ty_4_2 rfl rfl (by omega) (by omega) ⟨by omega, by omega⟩ rfl (fun H5445 e5446 w5447 => ?_))
                                    have f5448 := f5443.put' e5446 g0 rfl
                                    have k5449 : H5445 r0 2 = v5304 + 1 := wq_u_s e5446
                                    exact wp_return e16 c16_285 rfl ⟨rfl, w5447, f5448, rfl⟩
                                  · refine wp_of e16 c16_261 (rw_iconst (pc' := 262) rfl ?_)
                                    refine wp_of e16 c16_262 (rw_goto (p1 := 266) (by decide) ?_)
                                    refine wp_of e16 c16_266 (xp_I (pc' := 269) lf_2_41 w5306 g0 sh_4 (by decide) (by decide) ty_4_3 rfl rfl (by omega) (by omega) ⟨by omega, by omega⟩ rfl (fun H5450 e5451 w5452 => ?_))
                                    have f5453 := f5310.put' e5451 g0 rfl
                                    have k5454 : H5450 r0 3 = 4 := wq_u_s e5451
                                    refine wp_of e16 c16_269 (rw_iinc (pc' := 272) (z := v5304) (L' := [(1, vI (v5304 + 1)), (3, vI ((v5304 - (H5305 r0 4)) - (v4806 - (H4807 r0 4)))), (2, vI (v4806 - (H4807 r0 4))), (0, .ref r0)]) rfl rfl rfl rfl ?_)
                                    refine wp_of e16 c16_272 (rw_goto (p1 := 280) (by decide) ?_)
                                    refine wp_of e16 c16_280 (rw_aload_n (pc' := 281) (v := .ref r0) rfl rfl rfl ?_)
                                    refine wp_of e16 c16_281 (rw_iload_n (pc' := 282) (z := v5304 + 1) rfl rfl ?_)
                                    refine wp_of e16 c16_282 (xp_I (pc' := 285) lf_2_23 w5452 g0 sh_4 (by decide) (by decide) ty_4_2 rfl rfl (by omega) (by omega) ⟨by omega, by omega⟩ rfl (fun H5455 e5456 w5457 => ?_))
                                    have f5458 := f5453.put' e5456 g0 rfl
                                    have k5459 : H5455 r0 2 = v5304 + 1 := wq_u_s e5456
                                    exact wp_return e16 c16_285 rfl ⟨rfl, w5457, f5458, rfl⟩
                                · refine wp_of e16 c16_246 (rw_iconst (pc' := 247) rfl ?_)
                                  refine wp_of e16 c16_247 (rw_goto (p1 := 266) (by decide) ?_)
                                  refine wp_of e16 c16_266 (xp_I (pc' := 269) lf_2_41 w5306 g0 sh_4 (by decide) (by decide) ty_4_3 rfl rfl (by omega) (by omega) ⟨by omega, by omega⟩ rfl (fun H5460 e5461 w5462 => ?_))
                                  have f5463 := f5310.put' e5461 g0 rfl
                                  have k5464 : H5460 r0 3 = 3 := wq_u_s e5461
                                  refine wp_of e16 c16_269 (rw_iinc (pc' := 272) (z := v5304) (L' := [(1, vI (v5304 + 1)), (3, vI ((v5304 - (H5305 r0 4)) - (v4806 - (H4807 r0 4)))), (2, vI (v4806 - (H4807 r0 4))), (0, .ref r0)]) rfl rfl rfl rfl ?_)
                                  refine wp_of e16 c16_272 (rw_goto (p1 := 280) (by decide) ?_)
                                  refine wp_of e16 c16_280 (rw_aload_n (pc' := 281) (v := .ref r0) rfl rfl rfl ?_)
                                  refine wp_of e16 c16_281 (rw_iload_n (pc' := 282) (z := v5304 + 1) rfl rfl ?_)
                                  refine wp_of e16 c16_282 (xp_I (pc' := 285) lf_2_23 w5462 g0 sh_4 (by decide) (by decide) ty_4_2 rfl rfl (by omega) (by omega) ⟨by omega, by omega⟩ rfl (fun H5465 e5466 w5467 => ?_))
                                  have f5468 := f5463.put' e5466 g0 rfl
                                  have k5469 : H5465 r0 2 = v5304 + 1 := wq_u_s e5466
                                  exact wp_return e16 c16_285 rfl ⟨rfl, w5467, f5468, rfl⟩
                            · refine wp_of e16 c16_209 (rw_aload_n (pc' := 210) (v := .ref r0) rfl rfl rfl ?_)
                              refine wp_of e16 c16_210 (rw_iload_n (pc' := 211) (z := (v5304 - (H5305 r0 4)) - (v4806 - (H4807 r0 4))) rfl rfl ?_)
                              refine wp_of e16 c16_211 (rw_iconst (pc' := 212) rfl ?_)
                              refine wp_of e16 c16_212 (rw_icmp_gt (p1 := 219) (p2 := 215) (by decide) rfl ⟨by omega, by omega⟩ ⟨by omega, by omega⟩ (fun c5470 => ?_) (fun c5470 => ?_))
                              · refine wp_of e16 c16_219 (rw_iconst (pc' := 220) rfl ?_)
                                refine wp_of e16 c16_220 (xp_I (pc' := 223) lf_2_41 w5306 g0 sh_4 (by decide) (by decide) ty_4_3 rfl rfl (by omega) (by omega) ⟨by omega, by omega⟩ rfl (fun H5471 e5472 w5473 => ?_))
                                have f5474 := f5310.put' e5472 g0 rfl
                                have k5475 : H5471 r0 3 = 5 := wq_u_s e5472
                                refine wp_of e16 c16_223 (rw_goto (p1 := 280) (by decide) ?_)
                                refine wp_of e16 c16_280 (rw_aload_n (pc' := 281) (v := .ref r0) rfl rfl rfl ?_)
                                refine wp_of e16 c16_281 (rw_iload_n (pc' := 282) (z := v5304) rfl rfl ?_)
                                refine wp_of e16 c16_282 (xp_I (pc' := 285) lf_2_23 w5473 g0 sh_4 (by decide) (by decide) ty_4_2 rfl rfl (by omega) (by omega) ⟨by omega, by omega⟩ rfl (fun H5476 e5477 w5478 => ?_))
                                have f5479 := f5474.put' e5477 g0 rfl
                                have k5480 : H5476 r0 2 = v5304 := wq_u_s e5477
                                exact wp_return e16 c16_285 rfl ⟨rfl, w5478, f5479, rfl⟩
                              · refine wp_of e16 c16_215 (rw_iconst (pc' := 216) rfl ?_)
                                refine wp_of e16 c16_216 (rw_goto (p1 := 220) (by decide) ?_)
                                refine wp_of e16 c16_220 (xp_I (pc' := 223) lf_2_41 w5306 g0 sh_4 (by decide) (by decide) ty_4_3 rfl rfl (by omega) (by omega) ⟨by omega, by omega⟩ rfl (fun H5481 e5482 w5483 => ?_))
                                have f5484 := f5310.put' e5482 g0 rfl
                                have k5485 : H5481 r0 3 = 2 := wq_u_s e5482
                                refine wp_of e16 c16_223 (rw_goto (p1 := 280) (by decide) ?_)
                                refine wp_of e16 c16_280 (rw_aload_n (pc' := 281) (v := .ref r0) rfl rfl rfl ?_)
                                refine wp_of e16 c16_281 (rw_iload_n (pc' := 282) (z := v5304) rfl rfl ?_)
                                refine wp_of e16 c16_282 (xp_I (pc' := 285) lf_2_23 w5483 g0 sh_4 (by decide) (by decide) ty_4_2 rfl rfl (by omega) (by omega) ⟨by omega, by omega⟩ rfl (fun H5486 e5487 w5488 => ?_))
                                have f5489 := f5484.put' e5487 g0 rfl
                                have k5490 : H5486 r0 2 = v5304 := wq_u_s e5487
                                exact wp_return e16 c16_285 rfl ⟨rfl, w5488, f5489, rfl⟩
                          · refine wp_of e16 c16_187 (rw_aload_n (pc' := 188) (v := .ref r0) rfl rfl rfl ?_)
                            refine wp_of e16 c16_188 (rw_iload_n (pc' := 189) (z := v4806 - (H4807 r0 4)) rfl rfl ?_)
                            refine wp_of e16 c16_189 (rw_bipush (pc' := 191) (z := 8) rfl (by decide) ?_)
                            refine wp_of e16 c16_191 (rw_icmp_gt (p1 := 198) (p2 := 194) (by decide) rfl ⟨by omega, by omega⟩ ⟨by omega, by omega⟩ (fun c5491 => ?_) (fun c5491 => ?_))
                            · refine wp_of e16 c16_198 (rw_iconst (pc' := 199) rfl ?_)
                              refine wp_of e16 c16_199 (xp_I (pc' := 202) lf_2_41 w5306 g0 sh_4 (by decide) (by decide) ty_4_3 rfl rfl (by omega) (by omega) ⟨by omega, by omega⟩ rfl (fun H5492 e5493 w5494 => ?_))
                              have f5495 := f5310.put' e5493 g0 rfl
                              have k5496 : H5492 r0 3 = 5 := wq_u_s e5493
                              refine wp_of e16 c16_202 (rw_goto (p1 := 280) (by decide) ?_)
                              refine wp_of e16 c16_280 (rw_aload_n (pc' := 281) (v := .ref r0) rfl rfl rfl ?_)
                              refine wp_of e16 c16_281 (rw_iload_n (pc' := 282) (z := v5304) rfl rfl ?_)
                              refine wp_of e16 c16_282 (xp_I (pc' := 285) lf_2_23 w5494 g0 sh_4 (by decide) (by decide) ty_4_2 rfl rfl (by omega) (by omega) ⟨by omega, by omega⟩ rfl (fun H5497 e5498 w5499 => ?_))
                              have f5500 := f5495.put' e5498 g0 rfl
                              have k5501 : H5497 r0 2 = v5304 := wq_u_s e5498
                              exact wp_return e16 c16_285 rfl ⟨rfl, w5499, f5500, rfl⟩
                            · refine wp_of e16 c16_194 (rw_iconst (pc' := 195) rfl ?_)
                              refine wp_of e16 c16_195 (rw_goto (p1 := 199) (by decide) ?_)
                              refine wp_of e16 c16_199 (xp_I (pc' := 202) lf_2_41 w5306 g0 sh_4 (by decide) (by decide) ty_4_3 rfl rfl (by omega) (by omega) ⟨by omega, by omega⟩ rfl (fun H5502 e5503 w5504 => ?_))
                              have f5505 := f5310.put' e5503 g0 rfl
                              have k5506 : H5502 r0 3 = 1 := wq_u_s e5503
                              refine wp_of e16 c16_202 (rw_goto (p1 := 280) (by decide) ?_)
                              refine wp_of e16 c16_280 (rw_aload_n (pc' := 281) (v := .ref r0) rfl rfl rfl ?_)
                              refine wp_of e16 c16_281 (rw_iload_n (pc' := 282) (z := v5304) rfl rfl ?_)
                              refine wp_of e16 c16_282 (xp_I (pc' := 285) lf_2_23 w5504 g0 sh_4 (by decide) (by decide) ty_4_2 rfl rfl (by omega) (by omega) ⟨by omega, by omega⟩ rfl (fun H5507 e5508 w5509 => ?_))
                              have f5510 := f5505.put' e5508 g0 rfl
                              have k5511 : H5507 r0 2 = v5304 := wq_u_s e5508
                              exact wp_return e16 c16_285 rfl ⟨rfl, w5509, f5510, rfl⟩
                        · refine wp_of e16 c16_125 (rw_aload_n (pc' := 126) (v := .ref r0) rfl rfl rfl ?_)
                          have k5512 : H5305 r0 0 = H4807 r0 0 := ((f5307 r0 0 _ g0 rfl).trans (wq_u_j e5248 rfl))
                          have q5513 : H5305 r0 0 = (rb : Int) := k5512.trans q5240
                          refine wp_of e16 c16_126 (xg_K (pc' := 129) lf_2_7 w5306 g0 sh_4 (by decide) (by decide) rfl q5513 rfl ?_)
                          refine wp_of e16 c16_129 (rw_iload_n (pc' := 130) (z := v5304) rfl rfl ?_)
                          refine wp_of e16 c16_130 (xa_B (by decide) (pc' := 131) w5306 grb sh_2 (by decide) (ty_2 _) (by omega) (by omega) rfl (fun b5514 b5515 => ?_))
                          refine wp_of e16 c16_131 (rw_bipush (pc' := 133) (z := 48) rfl (by decide) ?_)
                          refine wp_of e16 c16_133 (rw_icmp_lt (p1 := 174) (p2 := 136) (by decide) rfl ⟨by omega, by omega⟩ ⟨by omega, by omega⟩ (fun c5516 => ?_) (fun c5516 => ?_))
                          · refine wp_of e16 c16_174 (rw_iload_n (pc' := 175) (z := v5304) rfl rfl ?_)
                            refine wp_of e16 c16_175 (rw_aload_n (pc' := 176) (v := .ref r0) rfl rfl rfl ?_)
                            have k5517 : H5305 r0 4 = H4807 r0 4 := ((f5307 r0 4 _ g0 rfl).trans (wq_u_j e5248 rfl))
                            refine wp_of e16 c16_176 (xg_I (pc' := 179) lf_2_29 w5306 g0 sh_4 (by decide) (by decide) ty_4_4 rfl rfl (fun b5518 b5519 => ?_))
                            refine wp_of e16 c16_179 (rw_isub (pc' := 180) rfl ?_)
                            refine wp_of e16 c16_180 (rw_iload_n (pc' := 181) (z := v4806 - (H4807 r0 4)) rfl rfl ?_)
                            refine wp_of e16 c16_181 (rw_isub (pc' := 182) rfl ?_)
                            refine wp_of e16 c16_182 (rw_istore_n (pc' := 183) (z := (v5304 - (H5305 r0 4)) - (v4806 - (H4807 r0 4))) (L' := [(3, vI ((v5304 - (H5305 r0 4)) - (v4806 - (H4807 r0 4)))), (1, vI v5304), (2, vI (v4806 - (H4807 r0 4))), (0, .ref r0)]) rfl rfl rfl ?_)
                            refine wp_of e16 c16_183 (rw_iload_n (pc' := 184) (z := v4806 - (H4807 r0 4)) rfl rfl ?_)
                            refine wp_of e16 c16_184 (rw_if_le (p1 := 205) (p2 := 187) (by decide) rfl ⟨by omega, by omega⟩ (fun c5520 => ?_) (fun c5520 => ?_))
                            · refine wp_of e16 c16_205 (rw_iload_n (pc' := 206) (z := (v5304 - (H5305 r0 4)) - (v4806 - (H4807 r0 4))) rfl rfl ?_)
                              refine wp_of e16 c16_206 (rw_if_le (p1 := 226) (p2 := 209) (by decide) rfl ⟨by omega, by omega⟩ (fun c5521 => ?_) (fun c5521 => ?_))
                              · refine wp_of e16 c16_226 (rw_iload_n (pc' := 227) (z := v5304) rfl rfl ?_)
                                refine wp_of e16 c16_227 (rw_aload_n (pc' := 228) (v := .ref r0) rfl rfl rfl ?_)
                                refine wp_of e16 c16_228 (xg_I (pc' := 231) lf_2_19 w5306 g0 sh_4 (by decide) (by decide) ty_4_1 rfl rfl (fun b5522 b5523 => ?_))
                                refine wp_of e16 c16_231 (rw_icmp_ge (p1 := 275) (p2 := 234) (by decide) rfl ⟨by omega, by omega⟩ ⟨by omega, by omega⟩ (fun c5524 => ?_) (fun c5524 => ?_))
                                · refine wp_of e16 c16_275 (rw_aload_n (pc' := 276) (v := .ref r0) rfl rfl rfl ?_)
                                  refine wp_of e16 c16_276 (rw_iconst (pc' := 277) rfl ?_)
                                  refine wp_of e16 c16_277 (xp_I (pc' := 280) lf_2_41 w5306 g0 sh_4 (by decide) (by decide) ty_4_3 rfl rfl (by omega) (by omega) ⟨by omega, by omega⟩ rfl (fun H5525 e5526 w5527 => ?_))
                                  have f5528 := f5310.put' e5526 g0 rfl
                                  have k5529 : H5525 r0 3 = 0 := wq_u_s e5526
                                  refine wp_of e16 c16_280 (rw_aload_n (pc' := 281) (v := .ref r0) rfl rfl rfl ?_)
                                  refine wp_of e16 c16_281 (rw_iload_n (pc' := 282) (z := v5304) rfl rfl ?_)
                                  refine wp_of e16 c16_282 (xp_I (pc' := 285) lf_2_23 w5527 g0 sh_4 (by decide) (by decide) ty_4_2 rfl rfl (by omega) (by omega) ⟨by omega, by omega⟩ rfl (fun H5530 e5531 w5532 => ?_))
                                  have f5533 := f5528.put' e5531 g0 rfl
                                  have k5534 : H5530 r0 2 = v5304 := wq_u_s e5531
                                  exact wp_return e16 c16_285 rfl ⟨rfl, w5532, f5533, rfl⟩
                                · refine wp_of e16 c16_234 (rw_aload_n (pc' := 235) (v := .ref r0) rfl rfl rfl ?_)
                                  refine wp_of e16 c16_235 (rw_aload_n (pc' := 236) (v := .ref r0) rfl rfl rfl ?_)
                                  refine wp_of e16 c16_236 (xg_K (pc' := 239) lf_2_7 w5306 g0 sh_4 (by decide) (by decide) rfl q5513 rfl ?_)
                                  refine wp_of e16 c16_239 (rw_iload_n (pc' := 240) (z := v5304) rfl rfl ?_)
                                  refine wp_of e16 c16_240 (xa_B (by decide) (pc' := 241) w5306 grb sh_2 (by decide) (ty_2 _) (by omega) (by omega) rfl (fun b5535 b5536 => ?_))
                                  refine wp_of e16 c16_241 (rw_bipush (pc' := 243) (z := 59) rfl (by decide) ?_)
                                  refine wp_of e16 c16_243 (rw_icmp_ne (p1 := 250) (p2 := 246) (by decide) rfl ⟨by omega, by omega⟩ ⟨by omega, by omega⟩ (fun c5537 => ?_) (fun c5537 => ?_))
                                  · refine wp_of e16 c16_250 (rw_aload_n (pc' := 251) (v := .ref r0) rfl rfl rfl ?_)
                                    refine wp_of e16 c16_251 (xg_K (pc' := 254) lf_2_7 w5306 g0 sh_4 (by decide) (by decide) rfl q5513 rfl ?_)
                                    refine wp_of e16 c16_254 (rw_iload_n (pc' := 255) (z := v5304) rfl rfl ?_)
                                    refine wp_of e16 c16_255 (xa_B (by decide) (pc' := 256) w5306 grb sh_2 (by decide) (ty_2 _) (by omega) (by omega) rfl (fun b5538 b5539 => ?_))
                                    refine wp_of e16 c16_256 (rw_bipush (pc' := 258) (z := 44) rfl (by decide) ?_)
                                    refine wp_of e16 c16_258 (rw_icmp_ne (p1 := 265) (p2 := 261) (by decide) rfl ⟨by omega, by omega⟩ ⟨by omega, by omega⟩ (fun c5540 => ?_) (fun c5540 => ?_))
                                    · refine wp_of e16 c16_265 (rw_iconst (pc' := 266) rfl ?_)
                                      refine wp_of e16 c16_266 (xp_I (pc' := 269) lf_2_41 w5306 g0 sh_4 (by decide) (by decide) ty_4_3 rfl rfl (by omega) (by omega) ⟨by omega, by omega⟩ rfl (fun H5541 e5542 w5543 => ?_))
                                      have f5544 := f5310.put' e5542 g0 rfl
                                      have k5545 : H5541 r0 3 = 5 := wq_u_s e5542
                                      refine wp_of e16 c16_269 (rw_iinc (pc' := 272) (z := v5304) (L' := [(1, vI (v5304 + 1)), (3, vI ((v5304 - (H5305 r0 4)) - (v4806 - (H4807 r0 4)))), (2, vI (v4806 - (H4807 r0 4))), (0, .ref r0)]) rfl rfl rfl rfl ?_)
                                      refine wp_of e16 c16_272 (rw_goto (p1 := 280) (by decide) ?_)
                                      refine wp_of e16 c16_280 (rw_aload_n (pc' := 281) (v := .ref r0) rfl rfl rfl ?_)
                                      refine wp_of e16 c16_281 (rw_iload_n (pc' := 282) (z := v5304 + 1) rfl rfl ?_)
                                      refine wp_of e16 c16_282 (xp_I (pc' := 285) lf_2_23 w5543 g0 sh_4 (by decide) (by decide) ty_4_2 rfl rfl (by omega) (by omega) ⟨by omega, by omega⟩ rfl (fun H5546 e5547 w5548 => ?_))
                                      have f5549 := f5544.put' e5547 g0 rfl
                                      have k5550 : H5546 r0 2 = v5304 + 1 := wq_u_s e5547
                                      exact wp_return e16 c16_285 rfl ⟨rfl, w5548, f5549, rfl⟩
                                    · refine wp_of e16 c16_261 (rw_iconst (pc' := 262) rfl ?_)
                                      refine wp_of e16 c16_262 (rw_goto (p1 := 266) (by decide) ?_)
                                      refine wp_of e16 c16_266 (xp_I (pc' := 269) lf_2_41 w5306 g0 sh_4 (by decide) (by decide) ty_4_3 rfl rfl (by omega) (by omega) ⟨by omega, by omega⟩ rfl (fun H5551 e5552 w5553 => ?_))
                                      have f5554 := f5310.put' e5552 g0 rfl
                                      have k5555 : H5551 r0 3 = 4 := wq_u_s e5552
                                      refine wp_of e16 c16_269 (rw_iinc (pc' := 272) (z := v5304) (L' := [(1, vI (v5304 + 1)), (3, vI ((v5304 - (H5305 r0 4)) - (v4806 - (H4807 r0 4)))), (2, vI (v4806 - (H4807 r0 4))), (0, .ref r0)]) rfl rfl rfl rfl ?_)
                                      refine wp_of e16 c16_272 (rw_goto (p1 := 280) (by decide) ?_)
                                      refine wp_of e16 c16_280 (rw_aload_n (pc' := 281) (v := .ref r0) rfl rfl rfl ?_)
                                      refine wp_of e16 c16_281 (rw_iload_n (pc' := 282) (z := v5304 + 1) rfl rfl ?_)
                                      refine wp_of e16 c16_282 (xp_I (pc' := 285) lf_2_23 w5553 g0 sh_4 (by decide) (by decide) ty_4_2 rfl rfl (by omega) (by omega) ⟨by omega, by omega⟩ rfl (fun H5556 e5557 w5558 => ?_))
                                      have f5559 := f5554.put' e5557 g0 rfl
                                      have k5560 : H5556 r0 2 = v5304 + 1 := wq_u_s e5557
                                      exact wp_return e16 c16_285 rfl ⟨rfl, w5558, f5559, rfl⟩
                                  · exfalso
                                    omega
                              · refine wp_of e16 c16_209 (rw_aload_n (pc' := 210) (v := .ref r0) rfl rfl rfl ?_)
                                refine wp_of e16 c16_210 (rw_iload_n (pc' := 211) (z := (v5304 - (H5305 r0 4)) - (v4806 - (H4807 r0 4))) rfl rfl ?_)
                                refine wp_of e16 c16_211 (rw_iconst (pc' := 212) rfl ?_)
                                refine wp_of e16 c16_212 (rw_icmp_gt (p1 := 219) (p2 := 215) (by decide) rfl ⟨by omega, by omega⟩ ⟨by omega, by omega⟩ (fun c5561 => ?_) (fun c5561 => ?_))
                                · refine wp_of e16 c16_219 (rw_iconst (pc' := 220) rfl ?_)
                                  refine wp_of e16 c16_220 (xp_I (pc' := 223) lf_2_41 w5306 g0 sh_4 (by decide) (by decide) ty_4_3 rfl rfl (by omega) (by omega) ⟨by omega, by omega⟩ rfl (fun H5562 e5563 w5564 => ?_))
                                  have f5565 := f5310.put' e5563 g0 rfl
                                  have k5566 : H5562 r0 3 = 5 := wq_u_s e5563
                                  refine wp_of e16 c16_223 (rw_goto (p1 := 280) (by decide) ?_)
                                  refine wp_of e16 c16_280 (rw_aload_n (pc' := 281) (v := .ref r0) rfl rfl rfl ?_)
                                  refine wp_of e16 c16_281 (rw_iload_n (pc' := 282) (z := v5304) rfl rfl ?_)
                                  refine wp_of e16 c16_282 (xp_I (pc' := 285) lf_2_23 w5564 g0 sh_4 (by decide) (by decide) ty_4_2 rfl rfl (by omega) (by omega) ⟨by omega, by omega⟩ rfl (fun H5567 e5568 w5569 => ?_))
                                  have f5570 := f5565.put' e5568 g0 rfl
                                  have k5571 : H5567 r0 2 = v5304 := wq_u_s e5568
                                  exact wp_return e16 c16_285 rfl ⟨rfl, w5569, f5570, rfl⟩
                                · refine wp_of e16 c16_215 (rw_iconst (pc' := 216) rfl ?_)
                                  refine wp_of e16 c16_216 (rw_goto (p1 := 220) (by decide) ?_)
                                  refine wp_of e16 c16_220 (xp_I (pc' := 223) lf_2_41 w5306 g0 sh_4 (by decide) (by decide) ty_4_3 rfl rfl (by omega) (by omega) ⟨by omega, by omega⟩ rfl (fun H5572 e5573 w5574 => ?_))
                                  have f5575 := f5310.put' e5573 g0 rfl
                                  have k5576 : H5572 r0 3 = 2 := wq_u_s e5573
                                  refine wp_of e16 c16_223 (rw_goto (p1 := 280) (by decide) ?_)
                                  refine wp_of e16 c16_280 (rw_aload_n (pc' := 281) (v := .ref r0) rfl rfl rfl ?_)
                                  refine wp_of e16 c16_281 (rw_iload_n (pc' := 282) (z := v5304) rfl rfl ?_)
                                  refine wp_of e16 c16_282 (xp_I (pc' := 285) lf_2_23 w5574 g0 sh_4 (by decide) (by decide) ty_4_2 rfl rfl (by omega) (by omega) ⟨by omega, by omega⟩ rfl (fun H5577 e5578 w5579 => ?_))
                                  have f5580 := f5575.put' e5578 g0 rfl
                                  have k5581 : H5577 r0 2 = v5304 := wq_u_s e5578
                                  exact wp_return e16 c16_285 rfl ⟨rfl, w5579, f5580, rfl⟩
                            · exfalso
                              omega
                          · refine wp_of e16 c16_136 (rw_aload_n (pc' := 137) (v := .ref r0) rfl rfl rfl ?_)
                            refine wp_of e16 c16_137 (xg_K (pc' := 140) lf_2_7 w5306 g0 sh_4 (by decide) (by decide) rfl q5513 rfl ?_)
                            refine wp_of e16 c16_140 (rw_iload_n (pc' := 141) (z := v5304) rfl rfl ?_)
                            refine wp_of e16 c16_141 (xa_B (by decide) (pc' := 142) w5306 grb sh_2 (by decide) (ty_2 _) (by omega) (by omega) rfl (fun b5582 b5583 => ?_))
                            refine wp_of e16 c16_142 (rw_bipush (pc' := 144) (z := 57) rfl (by decide) ?_)
                            refine wp_of e16 c16_144 (rw_icmp_gt (p1 := 174) (p2 := 147) (by decide) rfl ⟨by omega, by omega⟩ ⟨by omega, by omega⟩ (fun c5584 => ?_) (fun c5584 => ?_))
                            · refine wp_of e16 c16_174 (rw_iload_n (pc' := 175) (z := v5304) rfl rfl ?_)
                              refine wp_of e16 c16_175 (rw_aload_n (pc' := 176) (v := .ref r0) rfl rfl rfl ?_)
                              have k5585 : H5305 r0 4 = H4807 r0 4 := ((f5307 r0 4 _ g0 rfl).trans (wq_u_j e5248 rfl))
                              refine wp_of e16 c16_176 (xg_I (pc' := 179) lf_2_29 w5306 g0 sh_4 (by decide) (by decide) ty_4_4 rfl rfl (fun b5586 b5587 => ?_))
                              refine wp_of e16 c16_179 (rw_isub (pc' := 180) rfl ?_)
                              refine wp_of e16 c16_180 (rw_iload_n (pc' := 181) (z := v4806 - (H4807 r0 4)) rfl rfl ?_)
                              refine wp_of e16 c16_181 (rw_isub (pc' := 182) rfl ?_)
                              refine wp_of e16 c16_182 (rw_istore_n (pc' := 183) (z := (v5304 - (H5305 r0 4)) - (v4806 - (H4807 r0 4))) (L' := [(3, vI ((v5304 - (H5305 r0 4)) - (v4806 - (H4807 r0 4)))), (1, vI v5304), (2, vI (v4806 - (H4807 r0 4))), (0, .ref r0)]) rfl rfl rfl ?_)
                              refine wp_of e16 c16_183 (rw_iload_n (pc' := 184) (z := v4806 - (H4807 r0 4)) rfl rfl ?_)
                              refine wp_of e16 c16_184 (rw_if_le (p1 := 205) (p2 := 187) (by decide) rfl ⟨by omega, by omega⟩ (fun c5588 => ?_) (fun c5588 => ?_))
                              · refine wp_of e16 c16_205 (rw_iload_n (pc' := 206) (z := (v5304 - (H5305 r0 4)) - (v4806 - (H4807 r0 4))) rfl rfl ?_)
                                refine wp_of e16 c16_206 (rw_if_le (p1 := 226) (p2 := 209) (by decide) rfl ⟨by omega, by omega⟩ (fun c5589 => ?_) (fun c5589 => ?_))
                                · refine wp_of e16 c16_226 (rw_iload_n (pc' := 227) (z := v5304) rfl rfl ?_)
                                  refine wp_of e16 c16_227 (rw_aload_n (pc' := 228) (v := .ref r0) rfl rfl rfl ?_)
                                  refine wp_of e16 c16_228 (xg_I (pc' := 231) lf_2_19 w5306 g0 sh_4 (by decide) (by decide) ty_4_1 rfl rfl (fun b5590 b5591 => ?_))
                                  refine wp_of e16 c16_231 (rw_icmp_ge (p1 := 275) (p2 := 234) (by decide) rfl ⟨by omega, by omega⟩ ⟨by omega, by omega⟩ (fun c5592 => ?_) (fun c5592 => ?_))
                                  · refine wp_of e16 c16_275 (rw_aload_n (pc' := 276) (v := .ref r0) rfl rfl rfl ?_)
                                    refine wp_of e16 c16_276 (rw_iconst (pc' := 277) rfl ?_)
                                    refine wp_of e16 c16_277 (xp_I (pc' := 280) lf_2_41 w5306 g0 sh_4 (by decide) (by decide) ty_4_3 rfl rfl (by omega) (by omega) ⟨by omega, by omega⟩ rfl (fun H5593 e5594 w5595 => ?_))
                                    have f5596 := f5310.put' e5594 g0 rfl
                                    have k5597 : H5593 r0 3 = 0 := wq_u_s e5594
                                    refine wp_of e16 c16_280 (rw_aload_n (pc' := 281) (v := .ref r0) rfl rfl rfl ?_)
                                    refine wp_of e16 c16_281 (rw_iload_n (pc' := 282) (z := v5304) rfl rfl ?_)
                                    refine wp_of e16 c16_282 (xp_I (pc' := 285) lf_2_23 w5595 g0 sh_4 (by decide) (by decide) ty_4_2 rfl rfl (by omega) (by omega) ⟨by omega, by omega⟩ rfl (fun H5598 e5599 w5600 => ?_))
                                    have f5601 := f5596.put' e5599 g0 rfl
                                    have k5602 : H5598 r0 2 = v5304 := wq_u_s e5599
                                    exact wp_return e16 c16_285 rfl ⟨rfl, w5600, f5601, rfl⟩
                                  · refine wp_of e16 c16_234 (rw_aload_n (pc' := 235) (v := .ref r0) rfl rfl rfl ?_)
                                    refine wp_of e16 c16_235 (rw_aload_n (pc' := 236) (v := .ref r0) rfl rfl rfl ?_)
                                    refine wp_of e16 c16_236 (xg_K (pc' := 239) lf_2_7 w5306 g0 sh_4 (by decide) (by decide) rfl q5513 rfl ?_)
                                    refine wp_of e16 c16_239 (rw_iload_n (pc' := 240) (z := v5304) rfl rfl ?_)
                                    refine wp_of e16 c16_240 (xa_B (by decide) (pc' := 241) w5306 grb sh_2 (by decide) (ty_2 _) (by omega) (by omega) rfl (fun b5603 b5604 => ?_))
                                    refine wp_of e16 c16_241 (rw_bipush (pc' := 243) (z := 59) rfl (by decide) ?_)
                                    refine wp_of e16 c16_243 (rw_icmp_ne (p1 := 250) (p2 := 246) (by decide) rfl ⟨by omega, by omega⟩ ⟨by omega, by omega⟩ (fun c5605 => ?_) (fun c5605 => ?_))
                                    · refine wp_of e16 c16_250 (rw_aload_n (pc' := 251) (v := .ref r0) rfl rfl rfl ?_)
                                      refine wp_of e16 c16_251 (xg_K (pc' := 254) lf_2_7 w5306 g0 sh_4 (by decide) (by decide) rfl q5513 rfl ?_)
                                      refine wp_of e16 c16_254 (rw_iload_n (pc' := 255) (z := v5304) rfl rfl ?_)
                                      refine wp_of e16 c16_255 (xa_B (by decide) (pc' := 256) w5306 grb sh_2 (by decide) (ty_2 _) (by omega) (by omega) rfl (fun b5606 b5607 => ?_))
                                      refine wp_of e16 c16_256 (rw_bipush (pc' := 258) (z := 44) rfl (by decide) ?_)
                                      refine wp_of e16 c16_258 (rw_icmp_ne (p1 := 265) (p2 := 261) (by decide) rfl ⟨by omega, by omega⟩ ⟨by omega, by omega⟩ (fun c5608 => ?_) (fun c5608 => ?_))
                                      · refine wp_of e16 c16_265 (rw_iconst (pc' := 266) rfl ?_)
                                        refine wp_of e16 c16_266 (xp_I (pc' := 269) lf_2_41 w5306 g0 sh_4 (by decide) (by decide) ty_4_3 rfl rfl (by omega) (by omega) ⟨by omega, by omega⟩ rfl (fun H5609 e5610 w5611 => ?_))
                                        have f5612 := f5310.put' e5610 g0 rfl
                                        have k5613 : H5609 r0 3 = 5 := wq_u_s e5610
                                        refine wp_of e16 c16_269 (rw_iinc (pc' := 272) (z := v5304) (L' := [(1, vI (v5304 + 1)), (3, vI ((v5304 - (H5305 r0 4)) - (v4806 - (H4807 r0 4)))), (2, vI (v4806 - (H4807 r0 4))), (0, .ref r0)]) rfl rfl rfl rfl ?_)
                                        refine wp_of e16 c16_272 (rw_goto (p1 := 280) (by decide) ?_)
                                        refine wp_of e16 c16_280 (rw_aload_n (pc' := 281) (v := .ref r0) rfl rfl rfl ?_)
                                        refine wp_of e16 c16_281 (rw_iload_n (pc' := 282) (z := v5304 + 1) rfl rfl ?_)
                                        refine wp_of e16 c16_282 (xp_I (pc' := 285) lf_2_23 w5611 g0 sh_4 (by decide) (by decide) ty_4_2 rfl rfl (by omega) (by omega) ⟨by omega, by omega⟩ rfl (fun H5614 e5615 w5616 => ?_))
                                        have f5617 := f5612.put' e5615 g0 rfl
                                        have k5618 : H5614 r0 2 = v5304 + 1 := wq_u_s e5615
                                        exact wp_return e16 c16_285 rfl ⟨rfl, w5616, f5617, rfl⟩
                                      · exfalso
                                        omega
                                    · refine wp_of e16 c16_246 (rw_iconst (pc' := 247) rfl ?_)
                                      refine wp_of e16 c16_247 (rw_goto (p1 := 266) (by decide) ?_)
                                      refine wp_of e16 c16_266 (xp_I (pc' := 269) lf_2_41 w5306 g0 sh_4 (by decide) (by decide) ty_4_3 rfl rfl (by omega) (by omega) ⟨by omega, by omega⟩ rfl (fun H5619 e5620 w5621 => ?_))
                                      have f5622 := f5310.put' e5620 g0 rfl
                                      have k5623 : H5619 r0 3 = 3 := wq_u_s e5620
                                      refine wp_of e16 c16_269 (rw_iinc (pc' := 272) (z := v5304) (L' := [(1, vI (v5304 + 1)), (3, vI ((v5304 - (H5305 r0 4)) - (v4806 - (H4807 r0 4)))), (2, vI (v4806 - (H4807 r0 4))), (0, .ref r0)]) rfl rfl rfl rfl ?_)
                                      refine wp_of e16 c16_272 (rw_goto (p1 := 280) (by decide) ?_)
                                      refine wp_of e16 c16_280 (rw_aload_n (pc' := 281) (v := .ref r0) rfl rfl rfl ?_)
                                      refine wp_of e16 c16_281 (rw_iload_n (pc' := 282) (z := v5304 + 1) rfl rfl ?_)
                                      refine wp_of e16 c16_282 (xp_I (pc' := 285) lf_2_23 w5621 g0 sh_4 (by decide) (by decide) ty_4_2 rfl rfl (by omega) (by omega) ⟨by omega, by omega⟩ rfl (fun H5624 e5625 w5626 => ?_))
                                      have f5627 := f5622.put' e5625 g0 rfl
                                      have k5628 : H5624 r0 2 = v5304 + 1 := wq_u_s e5625
                                      exact wp_return e16 c16_285 rfl ⟨rfl, w5626, f5627, rfl⟩
                                · refine wp_of e16 c16_209 (rw_aload_n (pc' := 210) (v := .ref r0) rfl rfl rfl ?_)
                                  refine wp_of e16 c16_210 (rw_iload_n (pc' := 211) (z := (v5304 - (H5305 r0 4)) - (v4806 - (H4807 r0 4))) rfl rfl ?_)
                                  refine wp_of e16 c16_211 (rw_iconst (pc' := 212) rfl ?_)
                                  refine wp_of e16 c16_212 (rw_icmp_gt (p1 := 219) (p2 := 215) (by decide) rfl ⟨by omega, by omega⟩ ⟨by omega, by omega⟩ (fun c5629 => ?_) (fun c5629 => ?_))
                                  · refine wp_of e16 c16_219 (rw_iconst (pc' := 220) rfl ?_)
                                    refine wp_of e16 c16_220 (xp_I (pc' := 223) lf_2_41 w5306 g0 sh_4 (by decide) (by decide) ty_4_3 rfl rfl (by omega) (by omega) ⟨by omega, by omega⟩ rfl (fun H5630 e5631 w5632 => ?_))
                                    have f5633 := f5310.put' e5631 g0 rfl
                                    have k5634 : H5630 r0 3 = 5 := wq_u_s e5631
                                    refine wp_of e16 c16_223 (rw_goto (p1 := 280) (by decide) ?_)
                                    refine wp_of e16 c16_280 (rw_aload_n (pc' := 281) (v := .ref r0) rfl rfl rfl ?_)
                                    refine wp_of e16 c16_281 (rw_iload_n (pc' := 282) (z := v5304) rfl rfl ?_)
                                    refine wp_of e16 c16_282 (xp_I (pc' := 285) lf_2_23 w5632 g0 sh_4 (by decide) (by decide) ty_4_2 rfl rfl (by omega) (by omega) ⟨by omega, by omega⟩ rfl (fun H5635 e5636 w5637 => ?_))
                                    have f5638 := f5633.put' e5636 g0 rfl
                                    have k5639 : H5635 r0 2 = v5304 := wq_u_s e5636
                                    exact wp_return e16 c16_285 rfl ⟨rfl, w5637, f5638, rfl⟩
                                  · refine wp_of e16 c16_215 (rw_iconst (pc' := 216) rfl ?_)
                                    refine wp_of e16 c16_216 (rw_goto (p1 := 220) (by decide) ?_)
                                    refine wp_of e16 c16_220 (xp_I (pc' := 223) lf_2_41 w5306 g0 sh_4 (by decide) (by decide) ty_4_3 rfl rfl (by omega) (by omega) ⟨by omega, by omega⟩ rfl (fun H5640 e5641 w5642 => ?_))
                                    have f5643 := f5310.put' e5641 g0 rfl
                                    have k5644 : H5640 r0 3 = 2 := wq_u_s e5641
                                    refine wp_of e16 c16_223 (rw_goto (p1 := 280) (by decide) ?_)
                                    refine wp_of e16 c16_280 (rw_aload_n (pc' := 281) (v := .ref r0) rfl rfl rfl ?_)
                                    refine wp_of e16 c16_281 (rw_iload_n (pc' := 282) (z := v5304) rfl rfl ?_)
                                    refine wp_of e16 c16_282 (xp_I (pc' := 285) lf_2_23 w5642 g0 sh_4 (by decide) (by decide) ty_4_2 rfl rfl (by omega) (by omega) ⟨by omega, by omega⟩ rfl (fun H5645 e5646 w5647 => ?_))
                                    have f5648 := f5643.put' e5646 g0 rfl
                                    have k5649 : H5645 r0 2 = v5304 := wq_u_s e5646
                                    exact wp_return e16 c16_285 rfl ⟨rfl, w5647, f5648, rfl⟩
                              · exfalso
                                omega
                            · refine wp_of e16 c16_147 (rw_aload_n (pc' := 148) (v := .ref r0) rfl rfl rfl ?_)
                              refine wp_of e16 c16_148 (rw_aload_n (pc' := 149) (v := .ref r0) rfl rfl rfl ?_)
                              refine wp_of e16 c16_149 (xg_I (pc' := 152) lf_2_38 w5306 g0 sh_4 (by decide) (by decide) ty_4_5 rfl rfl (fun b5650 b5651 => ?_))
                              refine wp_of e16 c16_152 (rw_bipush (pc' := 154) (z := 10) rfl (by decide) ?_)
                              refine wp_of e16 c16_154 (rw_imulw (pc' := 155) rfl ?_)
                              obtain ⟨v5652, e5653⟩ : ∃ x : Int, x = wq_w ((H5305 r0 5) * 10) := ⟨_, rfl⟩
                              rw [← e5653]
                              have b5654 : -2147483648 ≤ v5652 ∧ v5652 ≤ 2147483647 := by
                                rw [e5653]
                                exact wI_w _
                              refine wp_of e16 c16_155 (rw_aload_n (pc' := 156) (v := .ref r0) rfl rfl rfl ?_)
                              refine wp_of e16 c16_156 (xg_K (pc' := 159) lf_2_7 w5306 g0 sh_4 (by decide) (by decide) rfl q5513 rfl ?_)
                              refine wp_of e16 c16_159 (rw_iload_n (pc' := 160) (z := v5304) rfl rfl ?_)
                              refine wp_of e16 c16_160 (xa_B (by decide) (pc' := 161) w5306 grb sh_2 (by decide) (ty_2 _) (by omega) (by omega) rfl (fun b5655 b5656 => ?_))
                              refine wp_of e16 c16_161 (rw_bipush (pc' := 163) (z := 48) rfl (by decide) ?_)
                              refine wp_of e16 c16_163 (rw_isub (pc' := 164) rfl ?_)
                              refine wp_of e16 c16_164 (rw_iaddw (pc' := 165) rfl ?_)
                              obtain ⟨v5657, e5658⟩ : ∃ x : Int, x = wq_w (v5652 + ((H5305 rb (v5304.toNat)) - 48)) := ⟨_, rfl⟩
                              rw [← e5658]
                              have b5659 : -2147483648 ≤ v5657 ∧ v5657 ≤ 2147483647 := by
                                rw [e5658]
                                exact wI_w _
                              refine wp_of e16 c16_165 (xp_I (pc' := 168) lf_2_38 w5306 g0 sh_4 (by decide) (by decide) ty_4_5 rfl rfl (by omega) (by omega) ⟨by omega, by omega⟩ rfl (fun H5660 e5661 w5662 => ?_))
                              have f5663 := f5310.put' e5661 g0 rfl
                              have f5664 := f5307.put' e5661 g0 rfl
                              have k5665 : H5660 r0 5 = v5657 := wq_u_s e5661
                              refine wp_of e16 c16_168 (rw_iinc (pc' := 171) (z := v5304) (L' := [(1, vI (v5304 + 1)), (2, vI (v4806 - (H4807 r0 4))), (0, .ref r0)]) rfl rfl rfl rfl ?_)
                              refine wp_of e16 c16_171 (rw_goto (p1 := 113) (by decide) ?_)
                              exact wp_lc (ks := [1, 2, 0]) (wl_c rfl (wl_c rfl (wl_c rfl wl_n))) rfl (by decide) (ih5303 _ (by omega) (v5304 + 1) H5660 w5662 f5664 ⟨by omega, by omega⟩ rfl)
                  exact wp_lc (ks := [2, 1, 0]) (wl_c rfl (wl_c rfl (wl_c rfl wl_n))) rfl (by decide) (lp5301 _ v4806 H5247 w5249 wfr.rf ⟨by omega, by omega⟩ rfl)
                · refine wp_of e16 c16_59 (rw_aload_n (pc' := 60) (v := .ref r0) rfl rfl rfl ?_)
                  refine wp_of e16 c16_60 (xg_K (pc' := 63) lf_2_7 w4808 g0 sh_4 (by decide) (by decide) rfl q5240 rfl ?_)
                  refine wp_of e16 c16_63 (rw_iload_n (pc' := 64) (z := v4806) rfl rfl ?_)
                  refine wp_of e16 c16_64 (xa_B (by decide) (pc' := 65) w4808 grb sh_2 (by decide) (ty_2 _) (by omega) (by omega) rfl (fun b5666 b5667 => ?_))
                  refine wp_of e16 c16_65 (rw_bipush (pc' := 67) (z := 122) rfl (by decide) ?_)
                  refine wp_of e16 c16_67 (rw_icmp_gt (p1 := 101) (p2 := 70) (by decide) rfl ⟨by omega, by omega⟩ ⟨by omega, by omega⟩ (fun c5668 => ?_) (fun c5668 => ?_))
                  · refine wp_of e16 c16_101 (rw_iload_n (pc' := 102) (z := v4806) rfl rfl ?_)
                    refine wp_of e16 c16_102 (rw_aload_n (pc' := 103) (v := .ref r0) rfl rfl rfl ?_)
                    have k5669 : H4807 r0 4 = H4746 r0 4 := ((f4809 r0 4 _ g0 rfl).trans (wq_u_j e4752 rfl))
                    refine wp_of e16 c16_103 (xg_I (pc' := 106) lf_2_29 w4808 g0 sh_4 (by decide) (by decide) ty_4_4 rfl rfl (fun b5670 b5671 => ?_))
                    refine wp_of e16 c16_106 (rw_isub (pc' := 107) rfl ?_)
                    refine wp_of e16 c16_107 (rw_istore_n (pc' := 108) (z := v4806 - (H4807 r0 4)) (L' := [(2, vI (v4806 - (H4807 r0 4))), (1, vI v4806), (0, .ref r0)]) rfl rfl rfl ?_)
                    refine wp_of e16 c16_108 (rw_aload_n (pc' := 109) (v := .ref r0) rfl rfl rfl ?_)
                    refine wp_of e16 c16_109 (rw_iconst (pc' := 110) rfl ?_)
                    refine wp_of e16 c16_110 (xp_I (pc' := 113) lf_2_38 w4808 g0 sh_4 (by decide) (by decide) ty_4_5 rfl rfl (by omega) (by omega) ⟨by omega, by omega⟩ rfl (fun H5672 e5673 w5674 => ?_))
                    have f5675 := f4812.put' e5673 g0 rfl
                    have k5676 : H5672 r0 5 = 0 := wq_u_s e5673
                    have lp5726 : ∀ (n5727 : Nat) (v5729 : Int) (H5730 : wq_H), WT T H5730 → wfr [(4, 5)] T H5672 H5730 → (0 ≤ v5729 ∧ v5729 ≤ 900) → (900 - v5729).toNat = n5727 → wp kt 0 16 113 [(1, vI v5729), (2, vI (v4806 - (H4807 r0 4))), (0, .ref r0)] [] T H5730 (q_16 r0 rb T H) := by
                      intro n5727
                      induction n5727 using Nat.strongRecOn with
                      | _ n5727 ih5728 =>
                        intro v5729 H5730 w5731 f5732 b5733 m5734
                        have f5735 := f5675.tr f5732 rfl
                        refine wp_of e16 c16_113 (rw_iload_n (pc' := 114) (z := v5729) rfl rfl ?_)
                        refine wp_of e16 c16_114 (rw_aload_n (pc' := 115) (v := .ref r0) rfl rfl rfl ?_)
                        have k5736 : H5730 r0 1 = H4807 r0 1 := ((f5732 r0 1 _ g0 rfl).trans (wq_u_j e5673 rfl))
                        refine wp_of e16 c16_115 (xg_I (pc' := 118) lf_2_19 w5731 g0 sh_4 (by decide) (by decide) ty_4_1 rfl rfl (fun b5737 b5738 => ?_))
                        refine wp_of e16 c16_118 (rw_icmp_ge (p1 := 174) (p2 := 121) (by decide) rfl ⟨by omega, by omega⟩ ⟨by omega, by omega⟩ (fun c5739 => ?_) (fun c5739 => ?_))
                        · refine wp_of e16 c16_174 (rw_iload_n (pc' := 175) (z := v5729) rfl rfl ?_)
                          refine wp_of e16 c16_175 (rw_aload_n (pc' := 176) (v := .ref r0) rfl rfl rfl ?_)
                          have k5740 : H5730 r0 4 = H4807 r0 4 := ((f5732 r0 4 _ g0 rfl).trans (wq_u_j e5673 rfl))
                          refine wp_of e16 c16_176 (xg_I (pc' := 179) lf_2_29 w5731 g0 sh_4 (by decide) (by decide) ty_4_4 rfl rfl (fun b5741 b5742 => ?_))
                          refine wp_of e16 c16_179 (rw_isub (pc' := 180) rfl ?_)
                          refine wp_of e16 c16_180 (rw_iload_n (pc' := 181) (z := v4806 - (H4807 r0 4)) rfl rfl ?_)
                          refine wp_of e16 c16_181 (rw_isub (pc' := 182) rfl ?_)
                          refine wp_of e16 c16_182 (rw_istore_n (pc' := 183) (z := (v5729 - (H5730 r0 4)) - (v4806 - (H4807 r0 4))) (L' := [(3, vI ((v5729 - (H5730 r0 4)) - (v4806 - (H4807 r0 4)))), (1, vI v5729), (2, vI (v4806 - (H4807 r0 4))), (0, .ref r0)]) rfl rfl rfl ?_)
                          refine wp_of e16 c16_183 (rw_iload_n (pc' := 184) (z := v4806 - (H4807 r0 4)) rfl rfl ?_)
                          refine wp_of e16 c16_184 (rw_if_le (p1 := 205) (p2 := 187) (by decide) rfl ⟨by omega, by omega⟩ (fun c5743 => ?_) (fun c5743 => ?_))
                          · refine wp_of e16 c16_205 (rw_iload_n (pc' := 206) (z := (v5729 - (H5730 r0 4)) - (v4806 - (H4807 r0 4))) rfl rfl ?_)
                            refine wp_of e16 c16_206 (rw_if_le (p1 := 226) (p2 := 209) (by decide) rfl ⟨by omega, by omega⟩ (fun c5744 => ?_) (fun c5744 => ?_))
                            · refine wp_of e16 c16_226 (rw_iload_n (pc' := 227) (z := v5729) rfl rfl ?_)
                              refine wp_of e16 c16_227 (rw_aload_n (pc' := 228) (v := .ref r0) rfl rfl rfl ?_)
                              refine wp_of e16 c16_228 (xg_I (pc' := 231) lf_2_19 w5731 g0 sh_4 (by decide) (by decide) ty_4_1 rfl rfl (fun b5745 b5746 => ?_))
                              refine wp_of e16 c16_231 (rw_icmp_ge (p1 := 275) (p2 := 234) (by decide) rfl ⟨by omega, by omega⟩ ⟨by omega, by omega⟩ (fun c5747 => ?_) (fun c5747 => ?_))
                              · refine wp_of e16 c16_275 (rw_aload_n (pc' := 276) (v := .ref r0) rfl rfl rfl ?_)
                                refine wp_of e16 c16_276 (rw_iconst (pc' := 277) rfl ?_)
                                refine wp_of e16 c16_277 (xp_I (pc' := 280) lf_2_41 w5731 g0 sh_4 (by decide) (by decide) ty_4_3 rfl rfl (by omega) (by omega) ⟨by omega, by omega⟩ rfl (fun H5748 e5749 w5750 => ?_))
                                have f5751 := f5735.put' e5749 g0 rfl
                                have k5752 : H5748 r0 3 = 0 := wq_u_s e5749
                                refine wp_of e16 c16_280 (rw_aload_n (pc' := 281) (v := .ref r0) rfl rfl rfl ?_)
                                refine wp_of e16 c16_281 (rw_iload_n (pc' := 282) (z := v5729) rfl rfl ?_)
                                refine wp_of e16 c16_282 (xp_I (pc' := 285) lf_2_23 w5750 g0 sh_4 (by decide) (by decide) ty_4_2 rfl rfl (by omega) (by omega) ⟨by omega, by omega⟩ rfl (fun H5753 e5754 w5755 => ?_))
                                have f5756 := f5751.put' e5754 g0 rfl
                                have k5757 : H5753 r0 2 = v5729 := wq_u_s e5754
                                exact wp_return e16 c16_285 rfl ⟨rfl, w5755, f5756, rfl⟩
                              · refine wp_of e16 c16_234 (rw_aload_n (pc' := 235) (v := .ref r0) rfl rfl rfl ?_)
                                refine wp_of e16 c16_235 (rw_aload_n (pc' := 236) (v := .ref r0) rfl rfl rfl ?_)
                                have k5758 : H5730 r0 0 = H4807 r0 0 := ((f5732 r0 0 _ g0 rfl).trans (wq_u_j e5673 rfl))
                                have q5759 : H5730 r0 0 = (rb : Int) := k5758.trans q5240
                                refine wp_of e16 c16_236 (xg_K (pc' := 239) lf_2_7 w5731 g0 sh_4 (by decide) (by decide) rfl q5759 rfl ?_)
                                refine wp_of e16 c16_239 (rw_iload_n (pc' := 240) (z := v5729) rfl rfl ?_)
                                refine wp_of e16 c16_240 (xa_B (by decide) (pc' := 241) w5731 grb sh_2 (by decide) (ty_2 _) (by omega) (by omega) rfl (fun b5760 b5761 => ?_))
                                refine wp_of e16 c16_241 (rw_bipush (pc' := 243) (z := 59) rfl (by decide) ?_)
                                refine wp_of e16 c16_243 (rw_icmp_ne (p1 := 250) (p2 := 246) (by decide) rfl ⟨by omega, by omega⟩ ⟨by omega, by omega⟩ (fun c5762 => ?_) (fun c5762 => ?_))
                                · refine wp_of e16 c16_250 (rw_aload_n (pc' := 251) (v := .ref r0) rfl rfl rfl ?_)
                                  refine wp_of e16 c16_251 (xg_K (pc' := 254) lf_2_7 w5731 g0 sh_4 (by decide) (by decide) rfl q5759 rfl ?_)
                                  refine wp_of e16 c16_254 (rw_iload_n (pc' := 255) (z := v5729) rfl rfl ?_)
                                  refine wp_of e16 c16_255 (xa_B (by decide) (pc' := 256) w5731 grb sh_2 (by decide) (ty_2 _) (by omega) (by omega) rfl (fun b5763 b5764 => ?_))
                                  refine wp_of e16 c16_256 (rw_bipush (pc' := 258) (z := 44) rfl (by decide) ?_)
                                  refine wp_of e16 c16_258 (rw_icmp_ne (p1 := 265) (p2 := 261) (by decide) rfl ⟨by omega, by omega⟩ ⟨by omega, by omega⟩ (fun c5765 => ?_) (fun c5765 => ?_))
                                  · refine wp_of e16 c16_265 (rw_iconst (pc' := 266) rfl ?_)
                                    refine wp_of e16 c16_266 (xp_I (pc' := 269) lf_2_41 w5731 g0 sh_4 (by decide) (by decide) ty_4_3 rfl rfl (by omega) (by omega) ⟨by omega, by omega⟩ rfl (fun H5766 e5767 w5768 => ?_))
                                    have f5769 := f5735.put' e5767 g0 rfl
                                    have k5770 : H5766 r0 3 = 5 := wq_u_s e5767
                                    refine wp_of e16 c16_269 (rw_iinc (pc' := 272) (z := v5729) (L' := [(1, vI (v5729 + 1)), (3, vI ((v5729 - (H5730 r0 4)) - (v4806 - (H4807 r0 4)))), (2, vI (v4806 - (H4807 r0 4))), (0, .ref r0)]) rfl rfl rfl rfl ?_)
                                    refine wp_of e16 c16_272 (rw_goto (p1 := 280) (by decide) ?_)
                                    refine wp_of e16 c16_280 (rw_aload_n (pc' := 281) (v := .ref r0) rfl rfl rfl ?_)
                                    refine wp_of e16 c16_281 (rw_iload_n (pc' := 282) (z := v5729 + 1) rfl rfl ?_)
                                    refine wp_of e16 c16_282 (xp_I (pc' := 285) lf_2_23 w5768 g0 sh_4 (by decide) (by decide) ty_4_2 rfl rfl (by omega) (by omega) ⟨by omega, by omega⟩ rfl (fun H5771 e5772 w5773 => ?_))
                                    have f5774 := f5769.put' e5772 g0 rfl
                                    have k5775 : H5771 r0 2 = v5729 + 1 := wq_u_s e5772
                                    exact wp_return e16 c16_285 rfl ⟨rfl, w5773, f5774, rfl⟩
                                  · refine wp_of e16 c16_261 (rw_iconst (pc' := 262) rfl ?_)
                                    refine wp_of e16 c16_262 (rw_goto (p1 := 266) (by decide) ?_)
                                    refine wp_of e16 c16_266 (xp_I (pc' := 269) lf_2_41 w5731 g0 sh_4 (by decide) (by decide) ty_4_3 rfl rfl (by omega) (by omega) ⟨by omega, by omega⟩ rfl (fun H5776 e5777 w5778 => ?_))
                                    have f5779 := f5735.put' e5777 g0 rfl
                                    have k5780 : H5776 r0 3 = 4 := wq_u_s e5777
                                    refine wp_of e16 c16_269 (rw_iinc (pc' := 272) (z := v5729) (L' := [(1, vI (v5729 + 1)), (3, vI ((v5729 - (H5730 r0 4)) - (v4806 - (H4807 r0 4)))), (2, vI (v4806 - (H4807 r0 4))), (0, .ref r0)]) rfl rfl rfl rfl ?_)
                                    refine wp_of e16 c16_272 (rw_goto (p1 := 280) (by decide) ?_)
                                    refine wp_of e16 c16_280 (rw_aload_n (pc' := 281) (v := .ref r0) rfl rfl rfl ?_)
                                    refine wp_of e16 c16_281 (rw_iload_n (pc' := 282) (z := v5729 + 1) rfl rfl ?_)
                                    refine wp_of e16 c16_282 (xp_I (pc' := 285) lf_2_23 w5778 g0 sh_4 (by decide) (by decide) ty_4_2 rfl rfl (by omega) (by omega) ⟨by omega, by omega⟩ rfl (fun H5781 e5782 w5783 => ?_))
                                    have f5784 := f5779.put' e5782 g0 rfl
                                    have k5785 : H5781 r0 2 = v5729 + 1 := wq_u_s e5782
                                    exact wp_return e16 c16_285 rfl ⟨rfl, w5783, f5784, rfl⟩
                                · refine wp_of e16 c16_246 (rw_iconst (pc' := 247) rfl ?_)
                                  refine wp_of e16 c16_247 (rw_goto (p1 := 266) (by decide) ?_)
                                  refine wp_of e16 c16_266 (xp_I (pc' := 269) lf_2_41 w5731 g0 sh_4 (by decide) (by decide) ty_4_3 rfl rfl (by omega) (by omega) ⟨by omega, by omega⟩ rfl (fun H5786 e5787 w5788 => ?_))
                                  have f5789 := f5735.put' e5787 g0 rfl
                                  have k5790 : H5786 r0 3 = 3 := wq_u_s e5787
                                  refine wp_of e16 c16_269 (rw_iinc (pc' := 272) (z := v5729) (L' := [(1, vI (v5729 + 1)), (3, vI ((v5729 - (H5730 r0 4)) - (v4806 - (H4807 r0 4)))), (2, vI (v4806 - (H4807 r0 4))), (0, .ref r0)]) rfl rfl rfl rfl ?_)
                                  refine wp_of e16 c16_272 (rw_goto (p1 := 280) (by decide) ?_)
                                  refine wp_of e16 c16_280 (rw_aload_n (pc' := 281) (v := .ref r0) rfl rfl rfl ?_)
                                  refine wp_of e16 c16_281 (rw_iload_n (pc' := 282) (z := v5729 + 1) rfl rfl ?_)
                                  refine wp_of e16 c16_282 (xp_I (pc' := 285) lf_2_23 w5788 g0 sh_4 (by decide) (by decide) ty_4_2 rfl rfl (by omega) (by omega) ⟨by omega, by omega⟩ rfl (fun H5791 e5792 w5793 => ?_))
                                  have f5794 := f5789.put' e5792 g0 rfl
                                  have k5795 : H5791 r0 2 = v5729 + 1 := wq_u_s e5792
                                  exact wp_return e16 c16_285 rfl ⟨rfl, w5793, f5794, rfl⟩
                            · refine wp_of e16 c16_209 (rw_aload_n (pc' := 210) (v := .ref r0) rfl rfl rfl ?_)
                              refine wp_of e16 c16_210 (rw_iload_n (pc' := 211) (z := (v5729 - (H5730 r0 4)) - (v4806 - (H4807 r0 4))) rfl rfl ?_)
                              refine wp_of e16 c16_211 (rw_iconst (pc' := 212) rfl ?_)
                              refine wp_of e16 c16_212 (rw_icmp_gt (p1 := 219) (p2 := 215) (by decide) rfl ⟨by omega, by omega⟩ ⟨by omega, by omega⟩ (fun c5796 => ?_) (fun c5796 => ?_))
                              · refine wp_of e16 c16_219 (rw_iconst (pc' := 220) rfl ?_)
                                refine wp_of e16 c16_220 (xp_I (pc' := 223) lf_2_41 w5731 g0 sh_4 (by decide) (by decide) ty_4_3 rfl rfl (by omega) (by omega) ⟨by omega, by omega⟩ rfl (fun H5797 e5798 w5799 => ?_))
                                have f5800 := f5735.put' e5798 g0 rfl
                                have k5801 : H5797 r0 3 = 5 := wq_u_s e5798
                                refine wp_of e16 c16_223 (rw_goto (p1 := 280) (by decide) ?_)
                                refine wp_of e16 c16_280 (rw_aload_n (pc' := 281) (v := .ref r0) rfl rfl rfl ?_)
                                refine wp_of e16 c16_281 (rw_iload_n (pc' := 282) (z := v5729) rfl rfl ?_)
                                refine wp_of e16 c16_282 (xp_I (pc' := 285) lf_2_23 w5799 g0 sh_4 (by decide) (by decide) ty_4_2 rfl rfl (by omega) (by omega) ⟨by omega, by omega⟩ rfl (fun H5802 e5803 w5804 => ?_))
                                have f5805 := f5800.put' e5803 g0 rfl
                                have k5806 : H5802 r0 2 = v5729 := wq_u_s e5803
                                exact wp_return e16 c16_285 rfl ⟨rfl, w5804, f5805, rfl⟩
                              · refine wp_of e16 c16_215 (rw_iconst (pc' := 216) rfl ?_)
                                refine wp_of e16 c16_216 (rw_goto (p1 := 220) (by decide) ?_)
                                refine wp_of e16 c16_220 (xp_I (pc' := 223) lf_2_41 w5731 g0 sh_4 (by decide) (by decide) ty_4_3 rfl rfl (by omega) (by omega) ⟨by omega, by omega⟩ rfl (fun H5807 e5808 w5809 => ?_))
                                have f5810 := f5735.put' e5808 g0 rfl
                                have k5811 : H5807 r0 3 = 2 := wq_u_s e5808
                                refine wp_of e16 c16_223 (rw_goto (p1 := 280) (by decide) ?_)
                                refine wp_of e16 c16_280 (rw_aload_n (pc' := 281) (v := .ref r0) rfl rfl rfl ?_)
                                refine wp_of e16 c16_281 (rw_iload_n (pc' := 282) (z := v5729) rfl rfl ?_)
                                refine wp_of e16 c16_282 (xp_I (pc' := 285) lf_2_23 w5809 g0 sh_4 (by decide) (by decide) ty_4_2 rfl rfl (by omega) (by omega) ⟨by omega, by omega⟩ rfl (fun H5812 e5813 w5814 => ?_))
                                have f5815 := f5810.put' e5813 g0 rfl
                                have k5816 : H5812 r0 2 = v5729 := wq_u_s e5813
                                exact wp_return e16 c16_285 rfl ⟨rfl, w5814, f5815, rfl⟩
                          · refine wp_of e16 c16_187 (rw_aload_n (pc' := 188) (v := .ref r0) rfl rfl rfl ?_)
                            refine wp_of e16 c16_188 (rw_iload_n (pc' := 189) (z := v4806 - (H4807 r0 4)) rfl rfl ?_)
                            refine wp_of e16 c16_189 (rw_bipush (pc' := 191) (z := 8) rfl (by decide) ?_)
                            refine wp_of e16 c16_191 (rw_icmp_gt (p1 := 198) (p2 := 194) (by decide) rfl ⟨by omega, by omega⟩ ⟨by omega, by omega⟩ (fun c5817 => ?_) (fun c5817 => ?_))
                            · refine wp_of e16 c16_198 (rw_iconst (pc' := 199) rfl ?_)
                              refine wp_of e16 c16_199 (xp_I (pc' := 202) lf_2_41 w5731 g0 sh_4 (by decide) (by decide) ty_4_3 rfl rfl (by omega) (by omega) ⟨by omega, by omega⟩ rfl (fun H5818 e5819 w5820 => ?_))
                              have f5821 := f5735.put' e5819 g0 rfl
                              have k5822 : H5818 r0 3 = 5 := wq_u_s e5819
                              refine wp_of e16 c16_202 (rw_goto (p1 := 280) (by decide) ?_)
                              refine wp_of e16 c16_280 (rw_aload_n (pc' := 281) (v := .ref r0) rfl rfl rfl ?_)
                              refine wp_of e16 c16_281 (rw_iload_n (pc' := 282) (z := v5729) rfl rfl ?_)
                              refine wp_of e16 c16_282 (xp_I (pc' := 285) lf_2_23 w5820 g0 sh_4 (by decide) (by decide) ty_4_2 rfl rfl (by omega) (by omega) ⟨by omega, by omega⟩ rfl (fun H5823 e5824 w5825 => ?_))
                              have f5826 := f5821.put' e5824 g0 rfl
                              have k5827 : H5823 r0 2 = v5729 := wq_u_s e5824
                              exact wp_return e16 c16_285 rfl ⟨rfl, w5825, f5826, rfl⟩
                            · refine wp_of e16 c16_194 (rw_iconst (pc' := 195) rfl ?_)
                              refine wp_of e16 c16_195 (rw_goto (p1 := 199) (by decide) ?_)
                              refine wp_of e16 c16_199 (xp_I (pc' := 202) lf_2_41 w5731 g0 sh_4 (by decide) (by decide) ty_4_3 rfl rfl (by omega) (by omega) ⟨by omega, by omega⟩ rfl (fun H5828 e5829 w5830 => ?_))
                              have f5831 := f5735.put' e5829 g0 rfl
                              have k5832 : H5828 r0 3 = 1 := wq_u_s e5829
                              refine wp_of e16 c16_202 (rw_goto (p1 := 280) (by decide) ?_)
                              refine wp_of e16 c16_280 (rw_aload_n (pc' := 281) (v := .ref r0) rfl rfl rfl ?_)
                              refine wp_of e16 c16_281 (rw_iload_n (pc' := 282) (z := v5729) rfl rfl ?_)
                              refine wp_of e16 c16_282 (xp_I (pc' := 285) lf_2_23 w5830 g0 sh_4 (by decide) (by decide) ty_4_2 rfl rfl (by omega) (by omega) ⟨by omega, by omega⟩ rfl (fun H5833 e5834 w5835 => ?_))
                              have f5836 := f5831.put' e5834 g0 rfl
                              have k5837 : H5833 r0 2 = v5729 := wq_u_s e5834
                              exact wp_return e16 c16_285 rfl ⟨rfl, w5835, f5836, rfl⟩
                        · refine wp_of e16 c16_121 (rw_iload_n (pc' := 122) (z := v4806 - (H4807 r0 4)) rfl rfl ?_)
                          refine wp_of e16 c16_122 (rw_if_ne (p1 := 174) (p2 := 125) (by decide) rfl ⟨by omega, by omega⟩ (fun c5838 => ?_) (fun c5838 => ?_))
                          · refine wp_of e16 c16_174 (rw_iload_n (pc' := 175) (z := v5729) rfl rfl ?_)
                            refine wp_of e16 c16_175 (rw_aload_n (pc' := 176) (v := .ref r0) rfl rfl rfl ?_)
                            have k5839 : H5730 r0 4 = H4807 r0 4 := ((f5732 r0 4 _ g0 rfl).trans (wq_u_j e5673 rfl))
                            refine wp_of e16 c16_176 (xg_I (pc' := 179) lf_2_29 w5731 g0 sh_4 (by decide) (by decide) ty_4_4 rfl rfl (fun b5840 b5841 => ?_))
                            refine wp_of e16 c16_179 (rw_isub (pc' := 180) rfl ?_)
                            refine wp_of e16 c16_180 (rw_iload_n (pc' := 181) (z := v4806 - (H4807 r0 4)) rfl rfl ?_)
                            refine wp_of e16 c16_181 (rw_isub (pc' := 182) rfl ?_)
                            refine wp_of e16 c16_182 (rw_istore_n (pc' := 183) (z := (v5729 - (H5730 r0 4)) - (v4806 - (H4807 r0 4))) (L' := [(3, vI ((v5729 - (H5730 r0 4)) - (v4806 - (H4807 r0 4)))), (1, vI v5729), (2, vI (v4806 - (H4807 r0 4))), (0, .ref r0)]) rfl rfl rfl ?_)
                            refine wp_of e16 c16_183 (rw_iload_n (pc' := 184) (z := v4806 - (H4807 r0 4)) rfl rfl ?_)
                            refine wp_of e16 c16_184 (rw_if_le (p1 := 205) (p2 := 187) (by decide) rfl ⟨by omega, by omega⟩ (fun c5842 => ?_) (fun c5842 => ?_))
                            · refine wp_of e16 c16_205 (rw_iload_n (pc' := 206) (z := (v5729 - (H5730 r0 4)) - (v4806 - (H4807 r0 4))) rfl rfl ?_)
                              refine wp_of e16 c16_206 (rw_if_le (p1 := 226) (p2 := 209) (by decide) rfl ⟨by omega, by omega⟩ (fun c5843 => ?_) (fun c5843 => ?_))
                              · refine wp_of e16 c16_226 (rw_iload_n (pc' := 227) (z := v5729) rfl rfl ?_)
                                refine wp_of e16 c16_227 (rw_aload_n (pc' := 228) (v := .ref r0) rfl rfl rfl ?_)
                                refine wp_of e16 c16_228 (xg_I (pc' := 231) lf_2_19 w5731 g0 sh_4 (by decide) (by decide) ty_4_1 rfl rfl (fun b5844 b5845 => ?_))
                                refine wp_of e16 c16_231 (rw_icmp_ge (p1 := 275) (p2 := 234) (by decide) rfl ⟨by omega, by omega⟩ ⟨by omega, by omega⟩ (fun c5846 => ?_) (fun c5846 => ?_))
                                · refine wp_of e16 c16_275 (rw_aload_n (pc' := 276) (v := .ref r0) rfl rfl rfl ?_)
                                  refine wp_of e16 c16_276 (rw_iconst (pc' := 277) rfl ?_)
                                  refine wp_of e16 c16_277 (xp_I (pc' := 280) lf_2_41 w5731 g0 sh_4 (by decide) (by decide) ty_4_3 rfl rfl (by omega) (by omega) ⟨by omega, by omega⟩ rfl (fun H5847 e5848 w5849 => ?_))
                                  have f5850 := f5735.put' e5848 g0 rfl
                                  have k5851 : H5847 r0 3 = 0 := wq_u_s e5848
                                  refine wp_of e16 c16_280 (rw_aload_n (pc' := 281) (v := .ref r0) rfl rfl rfl ?_)
                                  refine wp_of e16 c16_281 (rw_iload_n (pc' := 282) (z := v5729) rfl rfl ?_)
                                  refine wp_of e16 c16_282 (xp_I (pc' := 285) lf_2_23 w5849 g0 sh_4 (by decide) (by decide) ty_4_2 rfl rfl (by omega) (by omega) ⟨by omega, by omega⟩ rfl (fun H5852 e5853 w5854 => ?_))
                                  have f5855 := f5850.put' e5853 g0 rfl
                                  have k5856 : H5852 r0 2 = v5729 := wq_u_s e5853
                                  exact wp_return e16 c16_285 rfl ⟨rfl, w5854, f5855, rfl⟩
                                · refine wp_of e16 c16_234 (rw_aload_n (pc' := 235) (v := .ref r0) rfl rfl rfl ?_)
                                  refine wp_of e16 c16_235 (rw_aload_n (pc' := 236) (v := .ref r0) rfl rfl rfl ?_)
                                  have k5857 : H5730 r0 0 = H4807 r0 0 := ((f5732 r0 0 _ g0 rfl).trans (wq_u_j e5673 rfl))
                                  have q5858 : H5730 r0 0 = (rb : Int) := k5857.trans q5240
                                  refine wp_of e16 c16_236 (xg_K (pc' := 239) lf_2_7 w5731 g0 sh_4 (by decide) (by decide) rfl q5858 rfl ?_)
                                  refine wp_of e16 c16_239 (rw_iload_n (pc' := 240) (z := v5729) rfl rfl ?_)
                                  refine wp_of e16 c16_240 (xa_B (by decide) (pc' := 241) w5731 grb sh_2 (by decide) (ty_2 _) (by omega) (by omega) rfl (fun b5859 b5860 => ?_))
                                  refine wp_of e16 c16_241 (rw_bipush (pc' := 243) (z := 59) rfl (by decide) ?_)
                                  refine wp_of e16 c16_243 (rw_icmp_ne (p1 := 250) (p2 := 246) (by decide) rfl ⟨by omega, by omega⟩ ⟨by omega, by omega⟩ (fun c5861 => ?_) (fun c5861 => ?_))
                                  · refine wp_of e16 c16_250 (rw_aload_n (pc' := 251) (v := .ref r0) rfl rfl rfl ?_)
                                    refine wp_of e16 c16_251 (xg_K (pc' := 254) lf_2_7 w5731 g0 sh_4 (by decide) (by decide) rfl q5858 rfl ?_)
                                    refine wp_of e16 c16_254 (rw_iload_n (pc' := 255) (z := v5729) rfl rfl ?_)
                                    refine wp_of e16 c16_255 (xa_B (by decide) (pc' := 256) w5731 grb sh_2 (by decide) (ty_2 _) (by omega) (by omega) rfl (fun b5862 b5863 => ?_))
                                    refine wp_of e16 c16_256 (rw_bipush (pc' := 258) (z := 44) rfl (by decide) ?_)
                                    refine wp_of e16 c16_258 (rw_icmp_ne (p1 := 265) (p2 := 261) (by decide) rfl ⟨by omega, by omega⟩ ⟨by omega, by omega⟩ (fun c5864 => ?_) (fun c5864 => ?_))
                                    · refine wp_of e16 c16_265 (rw_iconst (pc' := 266) rfl ?_)
                                      refine wp_of e16 c16_266 (xp_I (pc' := 269) lf_2_41 w5731 g0 sh_4 (by decide) (by decide) ty_4_3 rfl rfl (by omega) (by omega) ⟨by omega, by omega⟩ rfl (fun H5865 e5866 w5867 => ?_))
                                      have f5868 := f5735.put' e5866 g0 rfl
                                      have k5869 : H5865 r0 3 = 5 := wq_u_s e5866
                                      refine wp_of e16 c16_269 (rw_iinc (pc' := 272) (z := v5729) (L' := [(1, vI (v5729 + 1)), (3, vI ((v5729 - (H5730 r0 4)) - (v4806 - (H4807 r0 4)))), (2, vI (v4806 - (H4807 r0 4))), (0, .ref r0)]) rfl rfl rfl rfl ?_)
                                      refine wp_of e16 c16_272 (rw_goto (p1 := 280) (by decide) ?_)
                                      refine wp_of e16 c16_280 (rw_aload_n (pc' := 281) (v := .ref r0) rfl rfl rfl ?_)
                                      refine wp_of e16 c16_281 (rw_iload_n (pc' := 282) (z := v5729 + 1) rfl rfl ?_)
                                      refine wp_of e16 c16_282 (xp_I (pc' := 285) lf_2_23 w5867 g0 sh_4 (by decide) (by decide) ty_4_2 rfl rfl (by omega) (by omega) ⟨by omega, by omega⟩ rfl (fun H5870 e5871 w5872 => ?_))
                                      have f5873 := f5868.put' e5871 g0 rfl
                                      have k5874 : H5870 r0 2 = v5729 + 1 := wq_u_s e5871
                                      exact wp_return e16 c16_285 rfl ⟨rfl, w5872, f5873, rfl⟩
                                    · refine wp_of e16 c16_261 (rw_iconst (pc' := 262) rfl ?_)
                                      refine wp_of e16 c16_262 (rw_goto (p1 := 266) (by decide) ?_)
                                      refine wp_of e16 c16_266 (xp_I (pc' := 269) lf_2_41 w5731 g0 sh_4 (by decide) (by decide) ty_4_3 rfl rfl (by omega) (by omega) ⟨by omega, by omega⟩ rfl (fun H5875 e5876 w5877 => ?_))
                                      have f5878 := f5735.put' e5876 g0 rfl
                                      have k5879 : H5875 r0 3 = 4 := wq_u_s e5876
                                      refine wp_of e16 c16_269 (rw_iinc (pc' := 272) (z := v5729) (L' := [(1, vI (v5729 + 1)), (3, vI ((v5729 - (H5730 r0 4)) - (v4806 - (H4807 r0 4)))), (2, vI (v4806 - (H4807 r0 4))), (0, .ref r0)]) rfl rfl rfl rfl ?_)
                                      refine wp_of e16 c16_272 (rw_goto (p1 := 280) (by decide) ?_)
                                      refine wp_of e16 c16_280 (rw_aload_n (pc' := 281) (v := .ref r0) rfl rfl rfl ?_)
                                      refine wp_of e16 c16_281 (rw_iload_n (pc' := 282) (z := v5729 + 1) rfl rfl ?_)
                                      refine wp_of e16 c16_282 (xp_I (pc' := 285) lf_2_23 w5877 g0 sh_4 (by decide) (by decide) ty_4_2 rfl rfl (by omega) (by omega) ⟨by omega, by omega⟩ rfl (fun H5880 e5881 w5882 => ?_))
                                      have f5883 := f5878.put' e5881 g0 rfl
                                      have k5884 : H5880 r0 2 = v5729 + 1 := wq_u_s e5881
                                      exact wp_return e16 c16_285 rfl ⟨rfl, w5882, f5883, rfl⟩
                                  · refine wp_of e16 c16_246 (rw_iconst (pc' := 247) rfl ?_)
                                    refine wp_of e16 c16_247 (rw_goto (p1 := 266) (by decide) ?_)
                                    refine wp_of e16 c16_266 (xp_I (pc' := 269) lf_2_41 w5731 g0 sh_4 (by decide) (by decide) ty_4_3 rfl rfl (by omega) (by omega) ⟨by omega, by omega⟩ rfl (fun H5885 e5886 w5887 => ?_))
                                    have f5888 := f5735.put' e5886 g0 rfl
                                    have k5889 : H5885 r0 3 = 3 := wq_u_s e5886
                                    refine wp_of e16 c16_269 (rw_iinc (pc' := 272) (z := v5729) (L' := [(1, vI (v5729 + 1)), (3, vI ((v5729 - (H5730 r0 4)) - (v4806 - (H4807 r0 4)))), (2, vI (v4806 - (H4807 r0 4))), (0, .ref r0)]) rfl rfl rfl rfl ?_)
                                    refine wp_of e16 c16_272 (rw_goto (p1 := 280) (by decide) ?_)
                                    refine wp_of e16 c16_280 (rw_aload_n (pc' := 281) (v := .ref r0) rfl rfl rfl ?_)
                                    refine wp_of e16 c16_281 (rw_iload_n (pc' := 282) (z := v5729 + 1) rfl rfl ?_)
                                    refine wp_of e16 c16_282 (xp_I (pc' := 285) lf_2_23 w5887 g0 sh_4 (by decide) (by decide) ty_4_2 rfl rfl (by omega) (by omega) ⟨by omega, by omega⟩ rfl (fun H5890 e5891 w5892 => ?_))
                                    have f5893 := f5888.put' e5891 g0 rfl
                                    have k5894 : H5890 r0 2 = v5729 + 1 := wq_u_s e5891
                                    exact wp_return e16 c16_285 rfl ⟨rfl, w5892, f5893, rfl⟩
                              · refine wp_of e16 c16_209 (rw_aload_n (pc' := 210) (v := .ref r0) rfl rfl rfl ?_)
                                refine wp_of e16 c16_210 (rw_iload_n (pc' := 211) (z := (v5729 - (H5730 r0 4)) - (v4806 - (H4807 r0 4))) rfl rfl ?_)
                                refine wp_of e16 c16_211 (rw_iconst (pc' := 212) rfl ?_)
                                refine wp_of e16 c16_212 (rw_icmp_gt (p1 := 219) (p2 := 215) (by decide) rfl ⟨by omega, by omega⟩ ⟨by omega, by omega⟩ (fun c5895 => ?_) (fun c5895 => ?_))
                                · refine wp_of e16 c16_219 (rw_iconst (pc' := 220) rfl ?_)
                                  refine wp_of e16 c16_220 (xp_I (pc' := 223) lf_2_41 w5731 g0 sh_4 (by decide) (by decide) ty_4_3 rfl rfl (by omega) (by omega) ⟨by omega, by omega⟩ rfl (fun H5896 e5897 w5898 => ?_))
                                  have f5899 := f5735.put' e5897 g0 rfl
                                  have k5900 : H5896 r0 3 = 5 := wq_u_s e5897
                                  refine wp_of e16 c16_223 (rw_goto (p1 := 280) (by decide) ?_)
                                  refine wp_of e16 c16_280 (rw_aload_n (pc' := 281) (v := .ref r0) rfl rfl rfl ?_)
                                  refine wp_of e16 c16_281 (rw_iload_n (pc' := 282) (z := v5729) rfl rfl ?_)
                                  refine wp_of e16 c16_282 (xp_I (pc' := 285) lf_2_23 w5898 g0 sh_4 (by decide) (by decide) ty_4_2 rfl rfl (by omega) (by omega) ⟨by omega, by omega⟩ rfl (fun H5901 e5902 w5903 => ?_))
                                  have f5904 := f5899.put' e5902 g0 rfl
                                  have k5905 : H5901 r0 2 = v5729 := wq_u_s e5902
                                  exact wp_return e16 c16_285 rfl ⟨rfl, w5903, f5904, rfl⟩
                                · refine wp_of e16 c16_215 (rw_iconst (pc' := 216) rfl ?_)
                                  refine wp_of e16 c16_216 (rw_goto (p1 := 220) (by decide) ?_)
                                  refine wp_of e16 c16_220 (xp_I (pc' := 223) lf_2_41 w5731 g0 sh_4 (by decide) (by decide) ty_4_3 rfl rfl (by omega) (by omega) ⟨by omega, by omega⟩ rfl (fun H5906 e5907 w5908 => ?_))
                                  have f5909 := f5735.put' e5907 g0 rfl
                                  have k5910 : H5906 r0 3 = 2 := wq_u_s e5907
                                  refine wp_of e16 c16_223 (rw_goto (p1 := 280) (by decide) ?_)
                                  refine wp_of e16 c16_280 (rw_aload_n (pc' := 281) (v := .ref r0) rfl rfl rfl ?_)
                                  refine wp_of e16 c16_281 (rw_iload_n (pc' := 282) (z := v5729) rfl rfl ?_)
                                  refine wp_of e16 c16_282 (xp_I (pc' := 285) lf_2_23 w5908 g0 sh_4 (by decide) (by decide) ty_4_2 rfl rfl (by omega) (by omega) ⟨by omega, by omega⟩ rfl (fun H5911 e5912 w5913 => ?_))
                                  have f5914 := f5909.put' e5912 g0 rfl
                                  have k5915 : H5911 r0 2 = v5729 := wq_u_s e5912
                                  exact wp_return e16 c16_285 rfl ⟨rfl, w5913, f5914, rfl⟩
                            · refine wp_of e16 c16_187 (rw_aload_n (pc' := 188) (v := .ref r0) rfl rfl rfl ?_)
                              refine wp_of e16 c16_188 (rw_iload_n (pc' := 189) (z := v4806 - (H4807 r0 4)) rfl rfl ?_)
                              refine wp_of e16 c16_189 (rw_bipush (pc' := 191) (z := 8) rfl (by decide) ?_)
                              refine wp_of e16 c16_191 (rw_icmp_gt (p1 := 198) (p2 := 194) (by decide) rfl ⟨by omega, by omega⟩ ⟨by omega, by omega⟩ (fun c5916 => ?_) (fun c5916 => ?_))
                              · refine wp_of e16 c16_198 (rw_iconst (pc' := 199) rfl ?_)
                                refine wp_of e16 c16_199 (xp_I (pc' := 202) lf_2_41 w5731 g0 sh_4 (by decide) (by decide) ty_4_3 rfl rfl (by omega) (by omega) ⟨by omega, by omega⟩ rfl (fun H5917 e5918 w5919 => ?_))
                                have f5920 := f5735.put' e5918 g0 rfl
                                have k5921 : H5917 r0 3 = 5 := wq_u_s e5918
                                refine wp_of e16 c16_202 (rw_goto (p1 := 280) (by decide) ?_)
                                refine wp_of e16 c16_280 (rw_aload_n (pc' := 281) (v := .ref r0) rfl rfl rfl ?_)
                                refine wp_of e16 c16_281 (rw_iload_n (pc' := 282) (z := v5729) rfl rfl ?_)
                                refine wp_of e16 c16_282 (xp_I (pc' := 285) lf_2_23 w5919 g0 sh_4 (by decide) (by decide) ty_4_2 rfl rfl (by omega) (by omega) ⟨by omega, by omega⟩ rfl (fun H5922 e5923 w5924 => ?_))
                                have f5925 := f5920.put' e5923 g0 rfl
                                have k5926 : H5922 r0 2 = v5729 := wq_u_s e5923
                                exact wp_return e16 c16_285 rfl ⟨rfl, w5924, f5925, rfl⟩
                              · refine wp_of e16 c16_194 (rw_iconst (pc' := 195) rfl ?_)
                                refine wp_of e16 c16_195 (rw_goto (p1 := 199) (by decide) ?_)
                                refine wp_of e16 c16_199 (xp_I (pc' := 202) lf_2_41 w5731 g0 sh_4 (by decide) (by decide) ty_4_3 rfl rfl (by omega) (by omega) ⟨by omega, by omega⟩ rfl (fun H5927 e5928 w5929 => ?_))
                                have f5930 := f5735.put' e5928 g0 rfl
                                have k5931 : H5927 r0 3 = 1 := wq_u_s e5928
                                refine wp_of e16 c16_202 (rw_goto (p1 := 280) (by decide) ?_)
                                refine wp_of e16 c16_280 (rw_aload_n (pc' := 281) (v := .ref r0) rfl rfl rfl ?_)
                                refine wp_of e16 c16_281 (rw_iload_n (pc' := 282) (z := v5729) rfl rfl ?_)
                                refine wp_of e16 c16_282 (xp_I (pc' := 285) lf_2_23 w5929 g0 sh_4 (by decide) (by decide) ty_4_2 rfl rfl (by omega) (by omega) ⟨by omega, by omega⟩ rfl (fun H5932 e5933 w5934 => ?_))
                                have f5935 := f5930.put' e5933 g0 rfl
                                have k5936 : H5932 r0 2 = v5729 := wq_u_s e5933
                                exact wp_return e16 c16_285 rfl ⟨rfl, w5934, f5935, rfl⟩
                          · refine wp_of e16 c16_125 (rw_aload_n (pc' := 126) (v := .ref r0) rfl rfl rfl ?_)
                            have k5937 : H5730 r0 0 = H4807 r0 0 := ((f5732 r0 0 _ g0 rfl).trans (wq_u_j e5673 rfl))
                            have q5938 : H5730 r0 0 = (rb : Int) := k5937.trans q5240
                            refine wp_of e16 c16_126 (xg_K (pc' := 129) lf_2_7 w5731 g0 sh_4 (by decide) (by decide) rfl q5938 rfl ?_)
                            refine wp_of e16 c16_129 (rw_iload_n (pc' := 130) (z := v5729) rfl rfl ?_)
                            refine wp_of e16 c16_130 (xa_B (by decide) (pc' := 131) w5731 grb sh_2 (by decide) (ty_2 _) (by omega) (by omega) rfl (fun b5939 b5940 => ?_))
                            refine wp_of e16 c16_131 (rw_bipush (pc' := 133) (z := 48) rfl (by decide) ?_)
                            refine wp_of e16 c16_133 (rw_icmp_lt (p1 := 174) (p2 := 136) (by decide) rfl ⟨by omega, by omega⟩ ⟨by omega, by omega⟩ (fun c5941 => ?_) (fun c5941 => ?_))
                            · refine wp_of e16 c16_174 (rw_iload_n (pc' := 175) (z := v5729) rfl rfl ?_)
                              refine wp_of e16 c16_175 (rw_aload_n (pc' := 176) (v := .ref r0) rfl rfl rfl ?_)
                              have k5942 : H5730 r0 4 = H4807 r0 4 := ((f5732 r0 4 _ g0 rfl).trans (wq_u_j e5673 rfl))
                              refine wp_of e16 c16_176 (xg_I (pc' := 179) lf_2_29 w5731 g0 sh_4 (by decide) (by decide) ty_4_4 rfl rfl (fun b5943 b5944 => ?_))
                              refine wp_of e16 c16_179 (rw_isub (pc' := 180) rfl ?_)
                              refine wp_of e16 c16_180 (rw_iload_n (pc' := 181) (z := v4806 - (H4807 r0 4)) rfl rfl ?_)
                              refine wp_of e16 c16_181 (rw_isub (pc' := 182) rfl ?_)
                              refine wp_of e16 c16_182 (rw_istore_n (pc' := 183) (z := (v5729 - (H5730 r0 4)) - (v4806 - (H4807 r0 4))) (L' := [(3, vI ((v5729 - (H5730 r0 4)) - (v4806 - (H4807 r0 4)))), (1, vI v5729), (2, vI (v4806 - (H4807 r0 4))), (0, .ref r0)]) rfl rfl rfl ?_)
                              refine wp_of e16 c16_183 (rw_iload_n (pc' := 184) (z := v4806 - (H4807 r0 4)) rfl rfl ?_)
                              refine wp_of e16 c16_184 (rw_if_le (p1 := 205) (p2 := 187) (by decide) rfl ⟨by omega, by omega⟩ (fun c5945 => ?_) (fun c5945 => ?_))
                              · refine wp_of e16 c16_205 (rw_iload_n (pc' := 206) (z := (v5729 - (H5730 r0 4)) - (v4806 - (H4807 r0 4))) rfl rfl ?_)
                                refine wp_of e16 c16_206 (rw_if_le (p1 := 226) (p2 := 209) (by decide) rfl ⟨by omega, by omega⟩ (fun c5946 => ?_) (fun c5946 => ?_))
                                · refine wp_of e16 c16_226 (rw_iload_n (pc' := 227) (z := v5729) rfl rfl ?_)
                                  refine wp_of e16 c16_227 (rw_aload_n (pc' := 228) (v := .ref r0) rfl rfl rfl ?_)
                                  refine wp_of e16 c16_228 (xg_I (pc' := 231) lf_2_19 w5731 g0 sh_4 (by decide) (by decide) ty_4_1 rfl rfl (fun b5947 b5948 => ?_))
                                  refine wp_of e16 c16_231 (rw_icmp_ge (p1 := 275) (p2 := 234) (by decide) rfl ⟨by omega, by omega⟩ ⟨by omega, by omega⟩ (fun c5949 => ?_) (fun c5949 => ?_))
                                  · refine wp_of e16 c16_275 (rw_aload_n (pc' := 276) (v := .ref r0) rfl rfl rfl ?_)
                                    refine wp_of e16 c16_276 (rw_iconst (pc' := 277) rfl ?_)
                                    refine wp_of e16 c16_277 (xp_I (pc' := 280) lf_2_41 w5731 g0 sh_4 (by decide) (by decide) ty_4_3 rfl rfl (by omega) (by omega) ⟨by omega, by omega⟩ rfl (fun H5950 e5951 w5952 => ?_))
                                    have f5953 := f5735.put' e5951 g0 rfl
                                    have k5954 : H5950 r0 3 = 0 := wq_u_s e5951
                                    refine wp_of e16 c16_280 (rw_aload_n (pc' := 281) (v := .ref r0) rfl rfl rfl ?_)
                                    refine wp_of e16 c16_281 (rw_iload_n (pc' := 282) (z := v5729) rfl rfl ?_)
                                    refine wp_of e16 c16_282 (xp_I (pc' := 285) lf_2_23 w5952 g0 sh_4 (by decide) (by decide) ty_4_2 rfl rfl (by omega) (by omega) ⟨by omega, by omega⟩ rfl (fun H5955 e5956 w5957 => ?_))
                                    have f5958 := f5953.put' e5956 g0 rfl
                                    have k5959 : H5955 r0 2 = v5729 := wq_u_s e5956
                                    exact wp_return e16 c16_285 rfl ⟨rfl, w5957, f5958, rfl⟩
                                  · refine wp_of e16 c16_234 (rw_aload_n (pc' := 235) (v := .ref r0) rfl rfl rfl ?_)
                                    refine wp_of e16 c16_235 (rw_aload_n (pc' := 236) (v := .ref r0) rfl rfl rfl ?_)
                                    refine wp_of e16 c16_236 (xg_K (pc' := 239) lf_2_7 w5731 g0 sh_4 (by decide) (by decide) rfl q5938 rfl ?_)
                                    refine wp_of e16 c16_239 (rw_iload_n (pc' := 240) (z := v5729) rfl rfl ?_)
                                    refine wp_of e16 c16_240 (xa_B (by decide) (pc' := 241) w5731 grb sh_2 (by decide) (ty_2 _) (by omega) (by omega) rfl (fun b5960 b5961 => ?_))
                                    refine wp_of e16 c16_241 (rw_bipush (pc' := 243) (z := 59) rfl (by decide) ?_)
                                    refine wp_of e16 c16_243 (rw_icmp_ne (p1 := 250) (p2 := 246) (by decide) rfl ⟨by omega, by omega⟩ ⟨by omega, by omega⟩ (fun c5962 => ?_) (fun c5962 => ?_))
                                    · refine wp_of e16 c16_250 (rw_aload_n (pc' := 251) (v := .ref r0) rfl rfl rfl ?_)
                                      refine wp_of e16 c16_251 (xg_K (pc' := 254) lf_2_7 w5731 g0 sh_4 (by decide) (by decide) rfl q5938 rfl ?_)
                                      refine wp_of e16 c16_254 (rw_iload_n (pc' := 255) (z := v5729) rfl rfl ?_)
                                      refine wp_of e16 c16_255 (xa_B (by decide) (pc' := 256) w5731 grb sh_2 (by decide) (ty_2 _) (by omega) (by omega) rfl (fun b5963 b5964 => ?_))
                                      refine wp_of e16 c16_256 (rw_bipush (pc' := 258) (z := 44) rfl (by decide) ?_)
                                      refine wp_of e16 c16_258 (rw_icmp_ne (p1 := 265) (p2 := 261) (by decide) rfl ⟨by omega, by omega⟩ ⟨by omega, by omega⟩ (fun c5965 => ?_) (fun c5965 => ?_))
                                      · refine wp_of e16 c16_265 (rw_iconst (pc' := 266) rfl ?_)
                                        refine wp_of e16 c16_266 (xp_I (pc' := 269) lf_2_41 w5731 g0 sh_4 (by decide) (by decide) ty_4_3 rfl rfl (by omega) (by omega) ⟨by omega, by omega⟩ rfl (fun H5966 e5967 w5968 => ?_))
                                        have f5969 := f5735.put' e5967 g0 rfl
                                        have k5970 : H5966 r0 3 = 5 := wq_u_s e5967
                                        refine wp_of e16 c16_269 (rw_iinc (pc' := 272) (z := v5729) (L' := [(1, vI (v5729 + 1)), (3, vI ((v5729 - (H5730 r0 4)) - (v4806 - (H4807 r0 4)))), (2, vI (v4806 - (H4807 r0 4))), (0, .ref r0)]) rfl rfl rfl rfl ?_)
                                        refine wp_of e16 c16_272 (rw_goto (p1 := 280) (by decide) ?_)
                                        refine wp_of e16 c16_280 (rw_aload_n (pc' := 281) (v := .ref r0) rfl rfl rfl ?_)
                                        refine wp_of e16 c16_281 (rw_iload_n (pc' := 282) (z := v5729 + 1) rfl rfl ?_)
                                        refine wp_of e16 c16_282 (xp_I (pc' := 285) lf_2_23 w5968 g0 sh_4 (by decide) (by decide) ty_4_2 rfl rfl (by omega) (by omega) ⟨by omega, by omega⟩ rfl (fun H5971 e5972 w5973 => ?_))
                                        have f5974 := f5969.put' e5972 g0 rfl
                                        have k5975 : H5971 r0 2 = v5729 + 1 := wq_u_s e5972
                                        exact wp_return e16 c16_285 rfl ⟨rfl, w5973, f5974, rfl⟩
                                      · refine wp_of e16 c16_261 (rw_iconst (pc' := 262) rfl ?_)
                                        refine wp_of e16 c16_262 (rw_goto (p1 := 266) (by decide) ?_)
                                        refine wp_of e16 c16_266 (xp_I (pc' := 269) lf_2_41 w5731 g0 sh_4 (by decide) (by decide) ty_4_3 rfl rfl (by omega) (by omega) ⟨by omega, by omega⟩ rfl (fun H5976 e5977 w5978 => ?_))
                                        have f5979 := f5735.put' e5977 g0 rfl
                                        have k5980 : H5976 r0 3 = 4 := wq_u_s e5977
                                        refine wp_of e16 c16_269 (rw_iinc (pc' := 272) (z := v5729) (L' := [(1, vI (v5729 + 1)), (3, vI ((v5729 - (H5730 r0 4)) - (v4806 - (H4807 r0 4)))), (2, vI (v4806 - (H4807 r0 4))), (0, .ref r0)]) rfl rfl rfl rfl ?_)
                                        refine wp_of e16 c16_272 (rw_goto (p1 := 280) (by decide) ?_)
                                        refine wp_of e16 c16_280 (rw_aload_n (pc' := 281) (v := .ref r0) rfl rfl rfl ?_)
                                        refine wp_of e16 c16_281 (rw_iload_n (pc' := 282) (z := v5729 + 1) rfl rfl ?_)
                                        refine wp_of e16 c16_282 (xp_I (pc' := 285) lf_2_23 w5978 g0 sh_4 (by decide) (by decide) ty_4_2 rfl rfl (by omega) (by omega) ⟨by omega, by omega⟩ rfl (fun H5981 e5982 w5983 => ?_))
                                        have f5984 := f5979.put' e5982 g0 rfl
                                        have k5985 : H5981 r0 2 = v5729 + 1 := wq_u_s e5982
                                        exact wp_return e16 c16_285 rfl ⟨rfl, w5983, f5984, rfl⟩
                                    · exfalso
                                      omega
                                · refine wp_of e16 c16_209 (rw_aload_n (pc' := 210) (v := .ref r0) rfl rfl rfl ?_)
                                  refine wp_of e16 c16_210 (rw_iload_n (pc' := 211) (z := (v5729 - (H5730 r0 4)) - (v4806 - (H4807 r0 4))) rfl rfl ?_)
                                  refine wp_of e16 c16_211 (rw_iconst (pc' := 212) rfl ?_)
                                  refine wp_of e16 c16_212 (rw_icmp_gt (p1 := 219) (p2 := 215) (by decide) rfl ⟨by omega, by omega⟩ ⟨by omega, by omega⟩ (fun c5986 => ?_) (fun c5986 => ?_))
                                  · refine wp_of e16 c16_219 (rw_iconst (pc' := 220) rfl ?_)
                                    refine wp_of e16 c16_220 (xp_I (pc' := 223) lf_2_41 w5731 g0 sh_4 (by decide) (by decide) ty_4_3 rfl rfl (by omega) (by omega) ⟨by omega, by omega⟩ rfl (fun H5987 e5988 w5989 => ?_))
                                    have f5990 := f5735.put' e5988 g0 rfl
                                    have k5991 : H5987 r0 3 = 5 := wq_u_s e5988
                                    refine wp_of e16 c16_223 (rw_goto (p1 := 280) (by decide) ?_)
                                    refine wp_of e16 c16_280 (rw_aload_n (pc' := 281) (v := .ref r0) rfl rfl rfl ?_)
                                    refine wp_of e16 c16_281 (rw_iload_n (pc' := 282) (z := v5729) rfl rfl ?_)
                                    refine wp_of e16 c16_282 (xp_I (pc' := 285) lf_2_23 w5989 g0 sh_4 (by decide) (by decide) ty_4_2 rfl rfl (by omega) (by omega) ⟨by omega, by omega⟩ rfl (fun H5992 e5993 w5994 => ?_))
                                    have f5995 := f5990.put' e5993 g0 rfl
                                    have k5996 : H5992 r0 2 = v5729 := wq_u_s e5993
                                    exact wp_return e16 c16_285 rfl ⟨rfl, w5994, f5995, rfl⟩
                                  · refine wp_of e16 c16_215 (rw_iconst (pc' := 216) rfl ?_)
                                    refine wp_of e16 c16_216 (rw_goto (p1 := 220) (by decide) ?_)
                                    refine wp_of e16 c16_220 (xp_I (pc' := 223) lf_2_41 w5731 g0 sh_4 (by decide) (by decide) ty_4_3 rfl rfl (by omega) (by omega) ⟨by omega, by omega⟩ rfl (fun H5997 e5998 w5999 => ?_))
                                    have f6000 := f5735.put' e5998 g0 rfl
                                    have k6001 : H5997 r0 3 = 2 := wq_u_s e5998
                                    refine wp_of e16 c16_223 (rw_goto (p1 := 280) (by decide) ?_)
                                    refine wp_of e16 c16_280 (rw_aload_n (pc' := 281) (v := .ref r0) rfl rfl rfl ?_)
                                    refine wp_of e16 c16_281 (rw_iload_n (pc' := 282) (z := v5729) rfl rfl ?_)
                                    refine wp_of e16 c16_282 (xp_I (pc' := 285) lf_2_23 w5999 g0 sh_4 (by decide) (by decide) ty_4_2 rfl rfl (by omega) (by omega) ⟨by omega, by omega⟩ rfl (fun H6002 e6003 w6004 => ?_))
                                    have f6005 := f6000.put' e6003 g0 rfl
                                    have k6006 : H6002 r0 2 = v5729 := wq_u_s e6003
                                    exact wp_return e16 c16_285 rfl ⟨rfl, w6004, f6005, rfl⟩
                              · exfalso
                                omega
                            · refine wp_of e16 c16_136 (rw_aload_n (pc' := 137) (v := .ref r0) rfl rfl rfl ?_)
                              refine wp_of e16 c16_137 (xg_K (pc' := 140) lf_2_7 w5731 g0 sh_4 (by decide) (by decide) rfl q5938 rfl ?_)
                              refine wp_of e16 c16_140 (rw_iload_n (pc' := 141) (z := v5729) rfl rfl ?_)
                              refine wp_of e16 c16_141 (xa_B (by decide) (pc' := 142) w5731 grb sh_2 (by decide) (ty_2 _) (by omega) (by omega) rfl (fun b6007 b6008 => ?_))
                              refine wp_of e16 c16_142 (rw_bipush (pc' := 144) (z := 57) rfl (by decide) ?_)
                              refine wp_of e16 c16_144 (rw_icmp_gt (p1 := 174) (p2 := 147) (by decide) rfl ⟨by omega, by omega⟩ ⟨by omega, by omega⟩ (fun c6009 => ?_) (fun c6009 => ?_))
                              · refine wp_of e16 c16_174 (rw_iload_n (pc' := 175) (z := v5729) rfl rfl ?_)
                                refine wp_of e16 c16_175 (rw_aload_n (pc' := 176) (v := .ref r0) rfl rfl rfl ?_)
                                have k6010 : H5730 r0 4 = H4807 r0 4 := ((f5732 r0 4 _ g0 rfl).trans (wq_u_j e5673 rfl))
                                refine wp_of e16 c16_176 (xg_I (pc' := 179) lf_2_29 w5731 g0 sh_4 (by decide) (by decide) ty_4_4 rfl rfl (fun b6011 b6012 => ?_))
                                refine wp_of e16 c16_179 (rw_isub (pc' := 180) rfl ?_)
                                refine wp_of e16 c16_180 (rw_iload_n (pc' := 181) (z := v4806 - (H4807 r0 4)) rfl rfl ?_)
                                refine wp_of e16 c16_181 (rw_isub (pc' := 182) rfl ?_)
                                refine wp_of e16 c16_182 (rw_istore_n (pc' := 183) (z := (v5729 - (H5730 r0 4)) - (v4806 - (H4807 r0 4))) (L' := [(3, vI ((v5729 - (H5730 r0 4)) - (v4806 - (H4807 r0 4)))), (1, vI v5729), (2, vI (v4806 - (H4807 r0 4))), (0, .ref r0)]) rfl rfl rfl ?_)
                                refine wp_of e16 c16_183 (rw_iload_n (pc' := 184) (z := v4806 - (H4807 r0 4)) rfl rfl ?_)
                                refine wp_of e16 c16_184 (rw_if_le (p1 := 205) (p2 := 187) (by decide) rfl ⟨by omega, by omega⟩ (fun c6013 => ?_) (fun c6013 => ?_))
                                · refine wp_of e16 c16_205 (rw_iload_n (pc' := 206) (z := (v5729 - (H5730 r0 4)) - (v4806 - (H4807 r0 4))) rfl rfl ?_)
                                  refine wp_of e16 c16_206 (rw_if_le (p1 := 226) (p2 := 209) (by decide) rfl ⟨by omega, by omega⟩ (fun c6014 => ?_) (fun c6014 => ?_))
                                  · refine wp_of e16 c16_226 (rw_iload_n (pc' := 227) (z := v5729) rfl rfl ?_)
                                    refine wp_of e16 c16_227 (rw_aload_n (pc' := 228) (v := .ref r0) rfl rfl rfl ?_)
                                    refine wp_of e16 c16_228 (xg_I (pc' := 231) lf_2_19 w5731 g0 sh_4 (by decide) (by decide) ty_4_1 rfl rfl (fun b6015 b6016 => ?_))
                                    refine wp_of e16 c16_231 (rw_icmp_ge (p1 := 275) (p2 := 234) (by decide) rfl ⟨by omega, by omega⟩ ⟨by omega, by omega⟩ (fun c6017 => ?_) (fun c6017 => ?_))
                                    · refine wp_of e16 c16_275 (rw_aload_n (pc' := 276) (v := .ref r0) rfl rfl rfl ?_)
                                      refine wp_of e16 c16_276 (rw_iconst (pc' := 277) rfl ?_)
                                      refine wp_of e16 c16_277 (xp_I (pc' := 280) lf_2_41 w5731 g0 sh_4 (by decide) (by decide) ty_4_3 rfl rfl (by omega) (by omega) ⟨by omega, by omega⟩ rfl (fun H6018 e6019 w6020 => ?_))
                                      have f6021 := f5735.put' e6019 g0 rfl
                                      have k6022 : H6018 r0 3 = 0 := wq_u_s e6019
                                      refine wp_of e16 c16_280 (rw_aload_n (pc' := 281) (v := .ref r0) rfl rfl rfl ?_)
                                      refine wp_of e16 c16_281 (rw_iload_n (pc' := 282) (z := v5729) rfl rfl ?_)
                                      refine wp_of e16 c16_282 (xp_I (pc' := 285) lf_2_23 w6020 g0 sh_4 (by decide) (by decide) ty_4_2 rfl rfl (by omega) (by omega) ⟨by omega, by omega⟩ rfl (fun H6023 e6024 w6025 => ?_))
                                      have f6026 := f6021.put' e6024 g0 rfl
                                      have k6027 : H6023 r0 2 = v5729 := wq_u_s e6024
                                      exact wp_return e16 c16_285 rfl ⟨rfl, w6025, f6026, rfl⟩
                                    · refine wp_of e16 c16_234 (rw_aload_n (pc' := 235) (v := .ref r0) rfl rfl rfl ?_)
                                      refine wp_of e16 c16_235 (rw_aload_n (pc' := 236) (v := .ref r0) rfl rfl rfl ?_)
                                      refine wp_of e16 c16_236 (xg_K (pc' := 239) lf_2_7 w5731 g0 sh_4 (by decide) (by decide) rfl q5938 rfl ?_)
                                      refine wp_of e16 c16_239 (rw_iload_n (pc' := 240) (z := v5729) rfl rfl ?_)
                                      refine wp_of e16 c16_240 (xa_B (by decide) (pc' := 241) w5731 grb sh_2 (by decide) (ty_2 _) (by omega) (by omega) rfl (fun b6028 b6029 => ?_))
                                      refine wp_of e16 c16_241 (rw_bipush (pc' := 243) (z := 59) rfl (by decide) ?_)
                                      refine wp_of e16 c16_243 (rw_icmp_ne (p1 := 250) (p2 := 246) (by decide) rfl ⟨by omega, by omega⟩ ⟨by omega, by omega⟩ (fun c6030 => ?_) (fun c6030 => ?_))
                                      · refine wp_of e16 c16_250 (rw_aload_n (pc' := 251) (v := .ref r0) rfl rfl rfl ?_)
                                        refine wp_of e16 c16_251 (xg_K (pc' := 254) lf_2_7 w5731 g0 sh_4 (by decide) (by decide) rfl q5938 rfl ?_)
                                        refine wp_of e16 c16_254 (rw_iload_n (pc' := 255) (z := v5729) rfl rfl ?_)
                                        refine wp_of e16 c16_255 (xa_B (by decide) (pc' := 256) w5731 grb sh_2 (by decide) (ty_2 _) (by omega) (by omega) rfl (fun b6031 b6032 => ?_))
                                        refine wp_of e16 c16_256 (rw_bipush (pc' := 258) (z := 44) rfl (by decide) ?_)
                                        refine wp_of e16 c16_258 (rw_icmp_ne (p1 := 265) (p2 := 261) (by decide) rfl ⟨by omega, by omega⟩ ⟨by omega, by omega⟩ (fun c6033 => ?_) (fun c6033 => ?_))
                                        · refine wp_of e16 c16_265 (rw_iconst (pc' := 266) rfl ?_)
                                          refine wp_of e16 c16_266 (xp_I (pc' := 269) lf_2_41 w5731 g0 sh_4 (by decide) (by decide) ty_4_3 rfl rfl (by omega) (by omega) ⟨by omega, by omega⟩ rfl (fun H6034 e6035 w6036 => ?_))
                                          have f6037 := f5735.put' e6035 g0 rfl
                                          have k6038 : H6034 r0 3 = 5 := wq_u_s e6035
                                          refine wp_of e16 c16_269 (rw_iinc (pc' := 272) (z := v5729) (L' := [(1, vI (v5729 + 1)), (3, vI ((v5729 - (H5730 r0 4)) - (v4806 - (H4807 r0 4)))), (2, vI (v4806 - (H4807 r0 4))), (0, .ref r0)]) rfl rfl rfl rfl ?_)
                                          refine wp_of e16 c16_272 (rw_goto (p1 := 280) (by decide) ?_)
                                          refine wp_of e16 c16_280 (rw_aload_n (pc' := 281) (v := .ref r0) rfl rfl rfl ?_)
                                          refine wp_of e16 c16_281 (rw_iload_n (pc' := 282) (z := v5729 + 1) rfl rfl ?_)
                                          refine wp_of e16 c16_282 (xp_I (pc' := 285) lf_2_23 w6036 g0 sh_4 (by decide) (by decide) ty_4_2 rfl rfl (by omega) (by omega) ⟨by omega, by omega⟩ rfl (fun H6039 e6040 w6041 => ?_))
                                          have f6042 := f6037.put' e6040 g0 rfl
                                          have k6043 : H6039 r0 2 = v5729 + 1 := wq_u_s e6040
                                          exact wp_return e16 c16_285 rfl ⟨rfl, w6041, f6042, rfl⟩
                                        · exfalso
                                          omega
                                      · refine wp_of e16 c16_246 (rw_iconst (pc' := 247) rfl ?_)
                                        refine wp_of e16 c16_247 (rw_goto (p1 := 266) (by decide) ?_)
                                        refine wp_of e16 c16_266 (xp_I (pc' := 269) lf_2_41 w5731 g0 sh_4 (by decide) (by decide) ty_4_3 rfl rfl (by omega) (by omega) ⟨by omega, by omega⟩ rfl (fun H6044 e6045 w6046 => ?_))
                                        have f6047 := f5735.put' e6045 g0 rfl
                                        have k6048 : H6044 r0 3 = 3 := wq_u_s e6045
                                        refine wp_of e16 c16_269 (rw_iinc (pc' := 272) (z := v5729) (L' := [(1, vI (v5729 + 1)), (3, vI ((v5729 - (H5730 r0 4)) - (v4806 - (H4807 r0 4)))), (2, vI (v4806 - (H4807 r0 4))), (0, .ref r0)]) rfl rfl rfl rfl ?_)
                                        refine wp_of e16 c16_272 (rw_goto (p1 := 280) (by decide) ?_)
                                        refine wp_of e16 c16_280 (rw_aload_n (pc' := 281) (v := .ref r0) rfl rfl rfl ?_)
                                        refine wp_of e16 c16_281 (rw_iload_n (pc' := 282) (z := v5729 + 1) rfl rfl ?_)
                                        refine wp_of e16 c16_282 (xp_I (pc' := 285) lf_2_23 w6046 g0 sh_4 (by decide) (by decide) ty_4_2 rfl rfl (by omega) (by omega) ⟨by omega, by omega⟩ rfl (fun H6049 e6050 w6051 => ?_))
                                        have f6052 := f6047.put' e6050 g0 rfl
                                        have k6053 : H6049 r0 2 = v5729 + 1 := wq_u_s e6050
                                        exact wp_return e16 c16_285 rfl ⟨rfl, w6051, f6052, rfl⟩
                                  · refine wp_of e16 c16_209 (rw_aload_n (pc' := 210) (v := .ref r0) rfl rfl rfl ?_)
                                    refine wp_of e16 c16_210 (rw_iload_n (pc' := 211) (z := (v5729 - (H5730 r0 4)) - (v4806 - (H4807 r0 4))) rfl rfl ?_)
                                    refine wp_of e16 c16_211 (rw_iconst (pc' := 212) rfl ?_)
                                    refine wp_of e16 c16_212 (rw_icmp_gt (p1 := 219) (p2 := 215) (by decide) rfl ⟨by omega, by omega⟩ ⟨by omega, by omega⟩ (fun c6054 => ?_) (fun c6054 => ?_))
                                    · refine wp_of e16 c16_219 (rw_iconst (pc' := 220) rfl ?_)
                                      refine wp_of e16 c16_220 (xp_I (pc' := 223) lf_2_41 w5731 g0 sh_4 (by decide) (by decide) ty_4_3 rfl rfl (by omega) (by omega) ⟨by omega, by omega⟩ rfl (fun H6055 e6056 w6057 => ?_))
                                      have f6058 := f5735.put' e6056 g0 rfl
                                      have k6059 : H6055 r0 3 = 5 := wq_u_s e6056
                                      refine wp_of e16 c16_223 (rw_goto (p1 := 280) (by decide) ?_)
                                      refine wp_of e16 c16_280 (rw_aload_n (pc' := 281) (v := .ref r0) rfl rfl rfl ?_)
                                      refine wp_of e16 c16_281 (rw_iload_n (pc' := 282) (z := v5729) rfl rfl ?_)
                                      refine wp_of e16 c16_282 (xp_I (pc' := 285) lf_2_23 w6057 g0 sh_4 (by decide) (by decide) ty_4_2 rfl rfl (by omega) (by omega) ⟨by omega, by omega⟩ rfl (fun H6060 e6061 w6062 => ?_))
                                      have f6063 := f6058.put' e6061 g0 rfl
                                      have k6064 : H6060 r0 2 = v5729 := wq_u_s e6061
                                      exact wp_return e16 c16_285 rfl ⟨rfl, w6062, f6063, rfl⟩
                                    · refine wp_of e16 c16_215 (rw_iconst (pc' := 216) rfl ?_)
                                      refine wp_of e16 c16_216 (rw_goto (p1 := 220) (by decide) ?_)
                                      refine wp_of e16 c16_220 (xp_I (pc' := 223) lf_2_41 w5731 g0 sh_4 (by decide) (by decide) ty_4_3 rfl rfl (by omega) (by omega) ⟨by omega, by omega⟩ rfl (fun H6065 e6066 w6067 => ?_))
                                      have f6068 := f5735.put' e6066 g0 rfl
                                      have k6069 : H6065 r0 3 = 2 := wq_u_s e6066
                                      refine wp_of e16 c16_223 (rw_goto (p1 := 280) (by decide) ?_)
                                      refine wp_of e16 c16_280 (rw_aload_n (pc' := 281) (v := .ref r0) rfl rfl rfl ?_)
                                      refine wp_of e16 c16_281 (rw_iload_n (pc' := 282) (z := v5729) rfl rfl ?_)
                                      refine wp_of e16 c16_282 (xp_I (pc' := 285) lf_2_23 w6067 g0 sh_4 (by decide) (by decide) ty_4_2 rfl rfl (by omega) (by omega) ⟨by omega, by omega⟩ rfl (fun H6070 e6071 w6072 => ?_))
                                      have f6073 := f6068.put' e6071 g0 rfl
                                      have k6074 : H6070 r0 2 = v5729 := wq_u_s e6071
                                      exact wp_return e16 c16_285 rfl ⟨rfl, w6072, f6073, rfl⟩
                                · exfalso
                                  omega
                              · refine wp_of e16 c16_147 (rw_aload_n (pc' := 148) (v := .ref r0) rfl rfl rfl ?_)
                                refine wp_of e16 c16_148 (rw_aload_n (pc' := 149) (v := .ref r0) rfl rfl rfl ?_)
                                refine wp_of e16 c16_149 (xg_I (pc' := 152) lf_2_38 w5731 g0 sh_4 (by decide) (by decide) ty_4_5 rfl rfl (fun b6075 b6076 => ?_))
                                refine wp_of e16 c16_152 (rw_bipush (pc' := 154) (z := 10) rfl (by decide) ?_)
                                refine wp_of e16 c16_154 (rw_imulw (pc' := 155) rfl ?_)
                                obtain ⟨v6077, e6078⟩ : ∃ x : Int, x = wq_w ((H5730 r0 5) * 10) := ⟨_, rfl⟩
                                rw [← e6078]
                                have b6079 : -2147483648 ≤ v6077 ∧ v6077 ≤ 2147483647 := by
                                  rw [e6078]
                                  exact wI_w _
                                refine wp_of e16 c16_155 (rw_aload_n (pc' := 156) (v := .ref r0) rfl rfl rfl ?_)
                                refine wp_of e16 c16_156 (xg_K (pc' := 159) lf_2_7 w5731 g0 sh_4 (by decide) (by decide) rfl q5938 rfl ?_)
                                refine wp_of e16 c16_159 (rw_iload_n (pc' := 160) (z := v5729) rfl rfl ?_)
                                refine wp_of e16 c16_160 (xa_B (by decide) (pc' := 161) w5731 grb sh_2 (by decide) (ty_2 _) (by omega) (by omega) rfl (fun b6080 b6081 => ?_))
                                refine wp_of e16 c16_161 (rw_bipush (pc' := 163) (z := 48) rfl (by decide) ?_)
                                refine wp_of e16 c16_163 (rw_isub (pc' := 164) rfl ?_)
                                refine wp_of e16 c16_164 (rw_iaddw (pc' := 165) rfl ?_)
                                obtain ⟨v6082, e6083⟩ : ∃ x : Int, x = wq_w (v6077 + ((H5730 rb (v5729.toNat)) - 48)) := ⟨_, rfl⟩
                                rw [← e6083]
                                have b6084 : -2147483648 ≤ v6082 ∧ v6082 ≤ 2147483647 := by
                                  rw [e6083]
                                  exact wI_w _
                                refine wp_of e16 c16_165 (xp_I (pc' := 168) lf_2_38 w5731 g0 sh_4 (by decide) (by decide) ty_4_5 rfl rfl (by omega) (by omega) ⟨by omega, by omega⟩ rfl (fun H6085 e6086 w6087 => ?_))
                                have f6088 := f5735.put' e6086 g0 rfl
                                have f6089 := f5732.put' e6086 g0 rfl
                                have k6090 : H6085 r0 5 = v6082 := wq_u_s e6086
                                refine wp_of e16 c16_168 (rw_iinc (pc' := 171) (z := v5729) (L' := [(1, vI (v5729 + 1)), (2, vI (v4806 - (H4807 r0 4))), (0, .ref r0)]) rfl rfl rfl rfl ?_)
                                refine wp_of e16 c16_171 (rw_goto (p1 := 113) (by decide) ?_)
                                exact wp_lc (ks := [1, 2, 0]) (wl_c rfl (wl_c rfl (wl_c rfl wl_n))) rfl (by decide) (ih5728 _ (by omega) (v5729 + 1) H6085 w6087 f6089 ⟨by omega, by omega⟩ rfl)
                    exact wp_lc (ks := [2, 1, 0]) (wl_c rfl (wl_c rfl (wl_c rfl wl_n))) rfl (by decide) (lp5726 _ v4806 H5672 w5674 wfr.rf ⟨by omega, by omega⟩ rfl)
                  · refine wp_of e16 c16_70 (rw_aload_n (pc' := 71) (v := .ref r0) rfl rfl rfl ?_)
                    refine wp_of e16 c16_71 (rw_aload_n (pc' := 72) (v := .ref r0) rfl rfl rfl ?_)
                    refine wp_of e16 c16_72 (xg_L (pc' := 75) lf_2_32 w4808 g0 sh_4 (by decide) (by decide) ty_4_6 rfl rfl (fun b6091 b6092 => ?_))
                    refine wp_of e16 c16_75 (rw_ldc2 (pc' := 78) (z := 32) rfl rfl rfl ?_)
                    refine wp_of e16 c16_78 (rw_lmulw (pc' := 79) rfl ?_)
                    obtain ⟨v6093, e6094⟩ : ∃ x : Int, x = wl_w ((H4807 r0 6) * 32) := ⟨_, rfl⟩
                    rw [← e6094]
                    have b6095 : -9223372036854775808 ≤ v6093 ∧ v6093 ≤ 9223372036854775807 := by
                      rw [e6094]
                      exact wL_w _
                    refine wp_of e16 c16_79 (rw_aload_n (pc' := 80) (v := .ref r0) rfl rfl rfl ?_)
                    refine wp_of e16 c16_80 (xg_K (pc' := 83) lf_2_7 w4808 g0 sh_4 (by decide) (by decide) rfl q5240 rfl ?_)
                    refine wp_of e16 c16_83 (rw_iload_n (pc' := 84) (z := v4806) rfl rfl ?_)
                    refine wp_of e16 c16_84 (xa_B (by decide) (pc' := 85) w4808 grb sh_2 (by decide) (ty_2 _) (by omega) (by omega) rfl (fun b6096 b6097 => ?_))
                    refine wp_of e16 c16_85 (rw_bipush (pc' := 87) (z := 97) rfl (by decide) ?_)
                    refine wp_of e16 c16_87 (rw_isub (pc' := 88) rfl ?_)
                    refine wp_of e16 c16_88 (rw_iconst (pc' := 89) rfl ?_)
                    refine wp_of e16 c16_89 (rw_iadd (pc' := 90) rfl ?_)
                    refine wp_of e16 c16_90 (rw_i2l (pc' := 91) rfl ⟨by omega, by omega⟩ ?_)
                    refine wp_of e16 c16_91 (rw_laddw (pc' := 92) rfl ?_)
                    obtain ⟨v6098, e6099⟩ : ∃ x : Int, x = wl_w (v6093 + (((H4807 rb (v4806.toNat)) - 97) + 1)) := ⟨_, rfl⟩
                    rw [← e6099]
                    have b6100 : -9223372036854775808 ≤ v6098 ∧ v6098 ≤ 9223372036854775807 := by
                      rw [e6099]
                      exact wL_w _
                    refine wp_of e16 c16_92 (xp_L (pc' := 95) lf_2_32 w4808 g0 sh_4 (by decide) (by decide) ty_4_6 rfl rfl (by omega) (by omega) ⟨by omega, by omega⟩ rfl (fun H6101 e6102 w6103 => ?_))
                    have f6104 := f4812.put' e6102 g0 rfl
                    have f6105 := f4809.put' e6102 g0 rfl
                    have k6106 : H6101 r0 6 = v6098 := wq_u_s e6102
                    refine wp_of e16 c16_95 (rw_iinc (pc' := 98) (z := v4806) (L' := [(1, vI (v4806 + 1)), (0, .ref r0)]) rfl rfl rfl rfl ?_)
                    refine wp_of e16 c16_98 (rw_goto (p1 := 40) (by decide) ?_)
                    exact wp_lc (ks := [1, 0]) (wl_c rfl (wl_c rfl wl_n)) rfl (by decide) (ih4805 _ (by omega) (v4806 + 1) H6101 w6103 f6105 ⟨by omega, by omega⟩ rfl)
          exact wp_lc (ks := [1, 0]) (wl_c rfl (wl_c rfl wl_n)) rfl (by decide) (lp4803 _ v3374 H4751 w4753 wfr.rf ⟨by omega, by omega⟩ rfl)
        · refine wp_of e16 c16_24 (rw_iinc (pc' := 27) (z := v3374) (L' := [(1, vI (v3374 + 1)), (0, .ref r0)]) rfl rfl rfl rfl ?_)
          refine wp_of e16 c16_27 (rw_goto (p1 := 5) (by decide) ?_)
          exact wp_lc (ks := [1, 0]) (wl_c rfl (wl_c rfl wl_n)) rfl (by decide) (ih3373 _ (by omega) (v3374 + 1) ⟨by omega, by omega⟩ rfl)
  exact wp_lc (ks := [1, 0]) (wl_c rfl (wl_c rfl wl_n)) rfl (by decide) (lp3371 _ (H r0 2) ⟨by omega, by omega⟩ rfl)
