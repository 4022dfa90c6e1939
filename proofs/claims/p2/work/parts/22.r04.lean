/-! methods of the reference (own work, written by wip/gen2/sx.py) -/
/-! StrikeAwakeModel.done(I)I -/
theorem e209 : wq_en 209 = some (9, 2, false, some FieldType.int) := rfl
theorem c209_0 : mc_cd 209 0 = some (.aload_n 0, 1) := by decide +kernel
theorem c209_1 : mc_cd 209 1 = some (.iconst 0, 1) := by decide +kernel
theorem c209_2 : mc_cd 209 2 = some (.putfield 51, 3) := by decide +kernel
theorem c209_5 : mc_cd 209 5 = some (.aload_n 0, 1) := by decide +kernel
theorem c209_6 : mc_cd 209 6 = some (.iconst (-1), 1) := by decide +kernel
theorem c209_7 : mc_cd 209 7 = some (.putfield 9, 3) := by decide +kernel
theorem c209_10 : mc_cd 209 10 = some (.iload_n 1, 1) := by decide +kernel
theorem c209_11 : mc_cd 209 11 = some (.ireturn, 1) := by decide +kernel
abbrev q_209 (r0 : Nat) (a1 : Int) (T : wq_T) (H : wq_H) : Option Value → wq_T → wq_H → Prop := fun r T' H' => T = T' ∧ WT T H' ∧ wfr [(42, 1), (42, 2)] T H H' ∧ ∃ z : Int, some (vI z) = r ∧ ((-2147483648) ≤ z ∧ z ≤ 2147483647)
set_option maxHeartbeats 4000000 in
theorem s_209 {kt : Nat → Option mc_E} {T : wq_T} {H : wq_H} {r0 : Nat} {a1 : Int} (hW : WT T H) (g0 : T.2.2.2 r0 = some 42) (i1 : (-2147483648) ≤ a1 ∧ a1 ≤ 2147483647) : wpc kt 1 209 [.ref r0, vI a1] T H (q_209 r0 a1 T H) := by
  refine wp_enter e209 (Nat.le_of_ble_eq_true rfl) rfl ?_
  have f0 : wfr [(42, 1), (42, 2)] T H H := wfr.rf
  show wp _ _ 209 0 [(0, .ref r0), (1, vI a1)] [] _ H _
  refine wp_of e209 c209_0 (rw_aload_n (pc' := 1) (v := .ref r0) rfl rfl rfl ?_)
  refine wp_of e209 c209_1 (rw_iconst (pc' := 2) rfl ?_)
  refine wp_of e209 c209_2 (xp_I (pc' := 5) lf_9_51 hW g0 sh_42 (by decide) (by decide) ty_42_1 rfl rfl (by omega) (by omega) ⟨by omega, by omega⟩ rfl (fun H125285 e125286 w125287 => ?_))
  have f125288 := f0.put' e125286 g0 rfl
  have k125289 : H125285 r0 1 = 0 := wq_u_s e125286
  refine wp_of e209 c209_5 (rw_aload_n (pc' := 6) (v := .ref r0) rfl rfl rfl ?_)
  refine wp_of e209 c209_6 (rw_iconst (pc' := 7) rfl ?_)
  refine wp_of e209 c209_7 (xp_I (pc' := 10) lf_9_9 w125287 g0 sh_42 (by decide) (by decide) ty_42_2 rfl rfl (by omega) (by omega) ⟨by omega, by omega⟩ rfl (fun H125290 e125291 w125292 => ?_))
  have f125293 := f125288.put' e125291 g0 rfl
  have k125294 : H125290 r0 2 = -1 := wq_u_s e125291
  refine wp_of e209 c209_10 (rw_iload_n (pc' := 11) (z := a1) rfl rfl ?_)
  exact wp_ireturn e209 c209_11 rfl ⟨rfl, w125292, f125293, a1, rfl, ⟨by omega, by omega⟩⟩
/-! StrikeAwakeModel.fault()I -/
theorem e210 : wq_en 210 = some (9, 1, false, some FieldType.int) := rfl
theorem c210_0 : mc_cd 210 0 = some (.aload_n 0, 1) := by decide +kernel
theorem c210_1 : mc_cd 210 1 = some (.iconst 0, 1) := by decide +kernel
theorem c210_2 : mc_cd 210 2 = some (.putfield 48, 3) := by decide +kernel
theorem c210_5 : mc_cd 210 5 = some (.aload_n 0, 1) := by decide +kernel
theorem c210_6 : mc_cd 210 6 = some (.getfield 104, 3) := by decide +kernel
theorem c210_9 : mc_cd 210 9 = some (.ireturn, 1) := by decide +kernel
abbrev q_210 (r0 : Nat) (T : wq_T) (H : wq_H) : Option Value → wq_T → wq_H → Prop := fun r T' H' => T = T' ∧ WT T H' ∧ wfr [(42, 0)] T H H' ∧ ∃ z : Int, some (vI z) = r ∧ ((-2147483648) ≤ z ∧ z ≤ 2147483647) ∧ (wKI H' r0 = 1)
set_option maxHeartbeats 4000000 in
theorem s_210 {kt : Nat → Option mc_E} {T : wq_T} {H : wq_H} {r0 : Nat} (hW : WT T H) (g0 : T.2.2.2 r0 = some 42) (p0 : wKI H r0 = 1) : wpc kt 1 210 [.ref r0] T H (q_210 r0 T H) := by
  refine wp_enter e210 (Nat.le_of_ble_eq_true rfl) rfl ?_
  have f0 : wfr [(42, 0)] T H H := wfr.rf
  show wp _ _ 210 0 [(0, .ref r0)] [] _ H _
  refine wp_of e210 c210_0 (rw_aload_n (pc' := 1) (v := .ref r0) rfl rfl rfl ?_)
  refine wp_of e210 c210_1 (rw_iconst (pc' := 2) rfl ?_)
  refine wp_of e210 c210_2 (xp_I (pc' := 5) lf_9_48 hW g0 sh_42 (by decide) (by decide) ty_42_0 rfl rfl (by omega) (by omega) ⟨by omega, by omega⟩ rfl (fun H125348 e125349 w125350 => ?_))
  have f125351 := f0.put' e125349 g0 rfl
  have k125352 : H125348 r0 0 = 0 := wq_u_s e125349
  refine wp_of e210 c210_5 (rw_aload_n (pc' := 6) (v := .ref r0) rfl rfl rfl ?_)
  refine wp_of e210 c210_6 (xg_I (pc' := 9) lf_9_104 w125350 g0 sh_42 (by decide) (by decide) ty_42_13 rfl rfl (fun b125353 b125354 => ?_))
  have k125355 : wKI H125348 r0 = wKI H r0 := (wKI_fr hW g0 ((wfr.rf (l := [(42, 0)])).put' e125349 g0 rfl) rfl)
  exact wp_ireturn e210 c210_9 rfl ⟨rfl, w125350, f125351, H125348 r0 13, rfl, ⟨by omega, by omega⟩, by omega⟩
/-! StrikeAwakeModel.where()I -/
theorem e211 : wq_en 211 = some (9, 1, false, some FieldType.int) := rfl
theorem c211_0 : mc_cd 211 0 = some (.aload_n 0, 1) := by decide +kernel
theorem c211_1 : mc_cd 211 1 = some (.iconst 0, 1) := by decide +kernel
theorem c211_2 : mc_cd 211 2 = some (.putfield 48, 3) := by decide +kernel
theorem c211_5 : mc_cd 211 5 = some (.aload_n 0, 1) := by decide +kernel
theorem c211_6 : mc_cd 211 6 = some (.getfield 9, 3) := by decide +kernel
theorem c211_9 : mc_cd 211 9 = some (.ireturn, 1) := by decide +kernel
abbrev q_211 (r0 : Nat) (T : wq_T) (H : wq_H) : Option Value → wq_T → wq_H → Prop := fun r T' H' => T = T' ∧ WT T H' ∧ wfr [(42, 0)] T H H' ∧ ∃ z : Int, some (vI z) = r ∧ ((-2147483648) ≤ z ∧ z ≤ 2147483647) ∧ (wKI H' r0 = 1)
set_option maxHeartbeats 4000000 in
theorem s_211 {kt : Nat → Option mc_E} {T : wq_T} {H : wq_H} {r0 : Nat} (hW : WT T H) (g0 : T.2.2.2 r0 = some 42) (p0 : wKI H r0 = 1) : wpc kt 1 211 [.ref r0] T H (q_211 r0 T H) := by
  refine wp_enter e211 (Nat.le_of_ble_eq_true rfl) rfl ?_
  have f0 : wfr [(42, 0)] T H H := wfr.rf
  show wp _ _ 211 0 [(0, .ref r0)] [] _ H _
  refine wp_of e211 c211_0 (rw_aload_n (pc' := 1) (v := .ref r0) rfl rfl rfl ?_)
  refine wp_of e211 c211_1 (rw_iconst (pc' := 2) rfl ?_)
  refine wp_of e211 c211_2 (xp_I (pc' := 5) lf_9_48 hW g0 sh_42 (by decide) (by decide) ty_42_0 rfl rfl (by omega) (by omega) ⟨by omega, by omega⟩ rfl (fun H125364 e125365 w125366 => ?_))
  have f125367 := f0.put' e125365 g0 rfl
  have k125368 : H125364 r0 0 = 0 := wq_u_s e125365
  refine wp_of e211 c211_5 (rw_aload_n (pc' := 6) (v := .ref r0) rfl rfl rfl ?_)
  refine wp_of e211 c211_6 (xg_I (pc' := 9) lf_9_9 w125366 g0 sh_42 (by decide) (by decide) ty_42_2 rfl rfl (fun b125369 b125370 => ?_))
  have k125371 : wKI H125364 r0 = wKI H r0 := (wKI_fr hW g0 ((wfr.rf (l := [(42, 0)])).put' e125365 g0 rfl) rfl)
  exact wp_ireturn e211 c211_9 rfl ⟨rfl, w125366, f125367, H125364 r0 2, rfl, ⟨by omega, by omega⟩, by omega⟩
/-! StrikeAwakeModel.isPerson(I)Z -/
theorem e213 : wq_en 213 = some (9, 2, false, some FieldType.boolean) := rfl
theorem c213_0 : mc_cd 213 0 = some (.aload_n 0, 1) := by decide +kernel
theorem c213_1 : mc_cd 213 1 = some (.getfield 337, 3) := by decide +kernel
theorem c213_4 : mc_cd 213 4 = some (.ifnull 22, 3) := by decide +kernel
theorem c213_7 : mc_cd 213 7 = some (.iload_n 1, 1) := by decide +kernel
theorem c213_8 : mc_cd 213 8 = some (.ifCond .lt 18, 3) := by decide +kernel
theorem c213_11 : mc_cd 213 11 = some (.iload_n 1, 1) := by decide +kernel
theorem c213_12 : mc_cd 213 12 = some (.aload_n 0, 1) := by decide +kernel
theorem c213_13 : mc_cd 213 13 = some (.getfield 337, 3) := by decide +kernel
theorem c213_16 : mc_cd 213 16 = some (.getfield 188, 3) := by decide +kernel
theorem c213_19 : mc_cd 213 19 = some (.if_icmp .ge 7, 3) := by decide +kernel
theorem c213_22 : mc_cd 213 22 = some (.iconst 1, 1) := by decide +kernel
theorem c213_23 : mc_cd 213 23 = some (.goto 4, 3) := by decide +kernel
theorem c213_26 : mc_cd 213 26 = some (.iconst 0, 1) := by decide +kernel
theorem c213_27 : mc_cd 213 27 = some (.ireturn, 1) := by decide +kernel
abbrev q_213 (r0 : Nat) (a1 : Int) (T : wq_T) (H : wq_H) : Option Value → wq_T → wq_H → Prop := fun r T' H' => T = T' ∧ H = H' ∧ ∃ z : Int, some (vI z) = r ∧ (0 ≤ z ∧ z ≤ 1) ∧ (z = 0 ∨ (H r0 3 ≠ -1 ∧ 0 ≤ a1 ∧ a1 ≤ 5))
set_option maxHeartbeats 4000000 in
theorem s_213 {kt : Nat → Option mc_E} {T : wq_T} {H : wq_H} {r0 : Nat} {a1 : Int} (hW : WT T H) (g0 : T.2.2.2 r0 = some 42) (i1 : (-2147483648) ≤ a1 ∧ a1 ≤ 2147483647) : wpc kt 1 213 [.ref r0, vI a1] T H (q_213 r0 a1 T H) := by
  refine wp_enter e213 (Nat.le_of_ble_eq_true rfl) rfl ?_
  show wp _ _ 213 0 [(0, .ref r0), (1, vI a1)] [] _ H _
  refine wp_of e213 c213_0 (rw_aload_n (pc' := 1) (v := .ref r0) rfl rfl rfl ?_)
  refine wp_of e213 c213_1 (xg_O (pc' := 4) lf_9_337 hW g0 sh_42 (by decide) (by decide) ty_42_3 rfl rfl (fun q125380 => ?_) (fun r125379 q125380 g125381 => ?_))
  · refine wp_of e213 c213_4 (rw_ifnull_n (p1 := 26) (p2 := 7) (by decide) rfl ?_)
    refine wp_of e213 c213_26 (rw_iconst (pc' := 27) rfl ?_)
    exact wp_zreturn e213 c213_27 rfl (by omega) ⟨rfl, rfl, 0, rfl, ⟨by omega, by omega⟩, by omega⟩
  · refine wp_of e213 c213_4 (rw_ifnull_r (p1 := 26) (p2 := 7) (by decide) rfl ?_)
    refine wp_of e213 c213_7 (rw_iload_n (pc' := 8) (z := a1) rfl rfl ?_)
    refine wp_of e213 c213_8 (rw_if_lt (p1 := 26) (p2 := 11) (by decide) rfl ⟨by omega, by omega⟩ (fun c125382 => ?_) (fun c125382 => ?_))
    · refine wp_of e213 c213_26 (rw_iconst (pc' := 27) rfl ?_)
      exact wp_zreturn e213 c213_27 rfl (by omega) ⟨rfl, rfl, 0, rfl, ⟨by omega, by omega⟩, by omega⟩
    · refine wp_of e213 c213_11 (rw_iload_n (pc' := 12) (z := a1) rfl rfl ?_)
      refine wp_of e213 c213_12 (rw_aload_n (pc' := 13) (v := .ref r0) rfl rfl rfl ?_)
      refine wp_of e213 c213_13 (xg_K (pc' := 16) lf_9_337 hW g0 sh_42 (by decide) (by decide) rfl q125380 rfl ?_)
      refine wp_of e213 c213_16 (xg_I (pc' := 19) lf_9_188 hW g125381 sh_54 (by decide) (by decide) ty_54_3 rfl rfl (fun b125383 b125384 => ?_))
      refine wp_of e213 c213_19 (rw_icmp_ge (p1 := 26) (p2 := 22) (by decide) rfl ⟨by omega, by omega⟩ ⟨by omega, by omega⟩ (fun c125385 => ?_) (fun c125385 => ?_))
      · refine wp_of e213 c213_26 (rw_iconst (pc' := 27) rfl ?_)
        exact wp_zreturn e213 c213_27 rfl (by omega) ⟨rfl, rfl, 0, rfl, ⟨by omega, by omega⟩, by omega⟩
      · refine wp_of e213 c213_22 (rw_iconst (pc' := 23) rfl ?_)
        refine wp_of e213 c213_23 (rw_goto (p1 := 27) (by decide) ?_)
        exact wp_zreturn e213 c213_27 rfl (by omega) ⟨rfl, rfl, 1, rfl, ⟨by omega, by omega⟩, by omega⟩
/-! StrikeAwakeModel.spans(I)I -/
theorem e212 : wq_en 212 = some (9, 2, false, some FieldType.int) := rfl
theorem c212_0 : mc_cd 212 0 = some (.aload_n 0, 1) := by decide +kernel
theorem c212_1 : mc_cd 212 1 = some (.iconst 0, 1) := by decide +kernel
theorem c212_2 : mc_cd 212 2 = some (.putfield 48, 3) := by decide +kernel
theorem c212_5 : mc_cd 212 5 = some (.aload_n 0, 1) := by decide +kernel
theorem c212_6 : mc_cd 212 6 = some (.iload_n 1, 1) := by decide +kernel
theorem c212_7 : mc_cd 212 7 = some (.invokevirtual 364, 3) := by decide +kernel
theorem c212_10 : mc_cd 212 10 = some (.ifCond .eq 16, 3) := by decide +kernel
theorem c212_13 : mc_cd 212 13 = some (.aload_n 0, 1) := by decide +kernel
theorem c212_14 : mc_cd 212 14 = some (.aload_n 0, 1) := by decide +kernel
theorem c212_15 : mc_cd 212 15 = some (.getfield 21, 3) := by decide +kernel
theorem c212_18 : mc_cd 212 18 = some (.iload_n 1, 1) := by decide +kernel
theorem c212_19 : mc_cd 212 19 = some (.iaload, 1) := by decide +kernel
theorem c212_20 : mc_cd 212 20 = some (.invokevirtual 58, 3) := by decide +kernel
theorem c212_23 : mc_cd 212 23 = some (.goto 8, 3) := by decide +kernel
theorem c212_26 : mc_cd 212 26 = some (.aload_n 0, 1) := by decide +kernel
theorem c212_27 : mc_cd 212 27 = some (.iconst 1, 1) := by decide +kernel
theorem c212_28 : mc_cd 212 28 = some (.invokevirtual 54, 3) := by decide +kernel
theorem c212_31 : mc_cd 212 31 = some (.ireturn, 1) := by decide +kernel
abbrev q_212 (r0 : Nat) (a1 : Int) (T : wq_T) (H : wq_H) : Option Value → wq_T → wq_H → Prop := fun r T' H' => T = T' ∧ WT T H' ∧ wfr [(42, 0), (42, 1), (42, 2)] T H H' ∧ ∃ z : Int, some (vI z) = r ∧ ((-2147483648) ≤ z ∧ z ≤ 2147483647) ∧ (wKI H' r0 = 1)
set_option maxHeartbeats 4000000 in
theorem s_212 {kt : Nat → Option mc_E} {T : wq_T} {H : wq_H} {r0 : Nat} {a1 : Int} (hW : WT T H) (g0 : T.2.2.2 r0 = some 42) (i1 : (-2147483648) ≤ a1 ∧ a1 ≤ 2147483647) (p0 : wKI H r0 = 1) : wpc kt 2 212 [.ref r0, vI a1] T H (q_212 r0 a1 T H) := by
  refine wp_enter e212 (Nat.le_of_ble_eq_true rfl) rfl ?_
  have f0 : wfr [(42, 0), (42, 1), (42, 2)] T H H := wfr.rf
  show wp _ _ 212 0 [(0, .ref r0), (1, vI a1)] [] _ H _
  refine wp_of e212 c212_0 (rw_aload_n (pc' := 1) (v := .ref r0) rfl rfl rfl ?_)
  refine wp_of e212 c212_1 (rw_iconst (pc' := 2) rfl ?_)
  refine wp_of e212 c212_2 (xp_I (pc' := 5) lf_9_48 hW g0 sh_42 (by decide) (by decide) ty_42_0 rfl rfl (by omega) (by omega) ⟨by omega, by omega⟩ rfl (fun H125431 e125432 w125433 => ?_))
  have f125434 := f0.put' e125432 g0 rfl
  have k125435 : H125431 r0 0 = 0 := wq_u_s e125432
  refine wp_of e212 c212_5 (rw_aload_n (pc' := 6) (v := .ref r0) rfl rfl rfl ?_)
  refine wp_of e212 c212_6 (rw_iload_n (pc' := 7) (z := a1) rfl rfl ?_)
  refine wp_of e212 c212_7 (xc_V (pc' := 10) (r := r0) (as := [vI a1]) (st := []) (lm_9_364) rfl rfl (Nat.le_of_ble_eq_true rfl) w125433 g0 sh_42 (by decide) rfl (by decide) (s_213 w125433 g0 ⟨by omega, by omega⟩) (fun R125436 T125437 H125438 p125439 => ?_))
  obtain ⟨e125440, e125442, z125444, e125441, b125445, p125443⟩ := p125439
  subst e125440
  subst e125441
  subst e125442
  show wp _ _ 212 10 [(0, .ref r0), (1, vI a1)] [vI z125444] _ H125431 _
  refine wp_of e212 c212_10 (rw_if_eq (p1 := 26) (p2 := 13) (by decide) rfl ⟨by omega, by omega⟩ (fun c125446 => ?_) (fun c125446 => ?_))
  · refine wp_of e212 c212_26 (rw_aload_n (pc' := 27) (v := .ref r0) rfl rfl rfl ?_)
    refine wp_of e212 c212_27 (rw_iconst (pc' := 28) rfl ?_)
    refine wp_of e212 c212_28 (xc_V (pc' := 31) (r := r0) (as := [vI 1]) (st := []) (lm_9_54) rfl rfl (Nat.le_of_ble_eq_true rfl) w125433 g0 sh_42 (by decide) rfl (by decide) (s_170 w125433 g0 ⟨by omega, by omega⟩) (fun R125447 T125448 H125449 p125450 => ?_))
    obtain ⟨e125451, w125453, f125454, z125455, e125452, b125456⟩ := p125450
    subst e125451
    subst e125452
    have f125457 := f125434.tr f125454 rfl
    show wp _ _ 212 31 [(0, .ref r0), (1, vI a1)] [vI z125455] _ H125449 _
    have k125458 : wKI H125449 r0 = wKI H r0 := ((wKI_fr w125433 g0 f125454 rfl).trans (wKI_fr hW g0 ((wfr.rf (l := [(42, 0)])).put' e125432 g0 rfl) rfl))
    exact wp_ireturn e212 c212_31 rfl ⟨rfl, w125453, f125457, z125455, rfl, ⟨by omega, by omega⟩, by omega⟩
  · refine wp_of e212 c212_13 (rw_aload_n (pc' := 14) (v := .ref r0) rfl rfl rfl ?_)
    refine wp_of e212 c212_14 (rw_aload_n (pc' := 15) (v := .ref r0) rfl rfl rfl ?_)
    refine wp_of e212 c212_15 (xg_R (pc' := 18) lf_9_21 w125433 g0 sh_42 (by decide) (by decide) ty_42_21 rfl rfl (fun r125459 q125460 g125461 => ?_))
    refine wp_of e212 c212_18 (rw_iload_n (pc' := 19) (z := a1) rfl rfl ?_)
    refine wp_of e212 c212_19 (xa_I (so := 0) (pc' := 20) w125433 g125461 sh_45 (by decide) (ty_45 _) (by omega) (by omega) rfl (fun b125462 b125463 => ?_))
    refine wp_of e212 c212_20 (xc_V (pc' := 23) (r := r0) (as := [vI (H125431 r125459 (a1.toNat))]) (st := []) (lm_9_58) rfl rfl (Nat.le_of_ble_eq_true rfl) w125433 g0 sh_42 (by decide) rfl (by decide) (s_209 w125433 g0 ⟨by omega, by omega⟩) (fun R125464 T125465 H125466 p125467 => ?_))
    obtain ⟨e125468, w125470, f125471, z125472, e125469, b125473⟩ := p125467
    subst e125468
    subst e125469
    have f125474 := f125434.tr f125471 rfl
    show wp _ _ 212 23 [(0, .ref r0), (1, vI a1)] [vI z125472] _ H125466 _
    refine wp_of e212 c212_23 (rw_goto (p1 := 31) (by decide) ?_)
    have k125475 : wKI H125466 r0 = wKI H r0 := ((wKI_fr w125433 g0 f125471 rfl).trans (wKI_fr hW g0 ((wfr.rf (l := [(42, 0)])).put' e125432 g0 rfl) rfl))
    exact wp_ireturn e212 c212_31 rfl ⟨rfl, w125470, f125474, z125472, rfl, ⟨by omega, by omega⟩, by omega⟩
/-! StrikeAwakeModel.isSpan(II)Z -/
theorem e215 : wq_en 215 = some (9, 3, false, some FieldType.boolean) := rfl
theorem c215_0 : mc_cd 215 0 = some (.aload_n 0, 1) := by decide +kernel
theorem c215_1 : mc_cd 215 1 = some (.iload_n 1, 1) := by decide +kernel
theorem c215_2 : mc_cd 215 2 = some (.invokevirtual 364, 3) := by decide +kernel
theorem c215_5 : mc_cd 215 5 = some (.ifCond .eq 21, 3) := by decide +kernel
theorem c215_8 : mc_cd 215 8 = some (.iload_n 2, 1) := by decide +kernel
theorem c215_9 : mc_cd 215 9 = some (.ifCond .lt 17, 3) := by decide +kernel
theorem c215_12 : mc_cd 215 12 = some (.iload_n 2, 1) := by decide +kernel
theorem c215_13 : mc_cd 215 13 = some (.aload_n 0, 1) := by decide +kernel
theorem c215_14 : mc_cd 215 14 = some (.getfield 21, 3) := by decide +kernel
theorem c215_17 : mc_cd 215 17 = some (.iload_n 1, 1) := by decide +kernel
theorem c215_18 : mc_cd 215 18 = some (.iaload, 1) := by decide +kernel
theorem c215_19 : mc_cd 215 19 = some (.if_icmp .ge 7, 3) := by decide +kernel
theorem c215_22 : mc_cd 215 22 = some (.iconst 1, 1) := by decide +kernel
theorem c215_23 : mc_cd 215 23 = some (.goto 4, 3) := by decide +kernel
theorem c215_26 : mc_cd 215 26 = some (.iconst 0, 1) := by decide +kernel
theorem c215_27 : mc_cd 215 27 = some (.ireturn, 1) := by decide +kernel
abbrev q_215 (r0 : Nat) (a1 : Int) (a2 : Int) (T : wq_T) (H : wq_H) : Option Value → wq_T → wq_H → Prop := fun r T' H' => T = T' ∧ H = H' ∧ ∃ z : Int, some (vI z) = r ∧ (0 ≤ z ∧ z ≤ 1) ∧ (z = 0 ∨ (H r0 3 ≠ -1 ∧ 0 ≤ a1 ∧ a1 ≤ 5 ∧ 0 ≤ a2 ∧ a2 ≤ 39))
set_option maxHeartbeats 4000000 in
theorem s_215 {kt : Nat → Option mc_E} {T : wq_T} {H : wq_H} {r0 : Nat} {a1 : Int} {a2 : Int} (hW : WT T H) (g0 : T.2.2.2 r0 = some 42) (i1 : (-2147483648) ≤ a1 ∧ a1 ≤ 2147483647) (i2 : (-2147483648) ≤ a2 ∧ a2 ≤ 2147483647) : wpc kt 2 215 [.ref r0, vI a1, vI a2] T H (q_215 r0 a1 a2 T H) := by
  refine wp_enter e215 (Nat.le_of_ble_eq_true rfl) rfl ?_
  show wp _ _ 215 0 [(0, .ref r0), (1, vI a1), (2, vI a2)] [] _ H _
  refine wp_of e215 c215_0 (rw_aload_n (pc' := 1) (v := .ref r0) rfl rfl rfl ?_)
  refine wp_of e215 c215_1 (rw_iload_n (pc' := 2) (z := a1) rfl rfl ?_)
  refine wp_of e215 c215_2 (xc_V (pc' := 5) (r := r0) (as := [vI a1]) (st := []) (lm_9_364) rfl rfl (Nat.le_of_ble_eq_true rfl) hW g0 sh_42 (by decide) rfl (by decide) (s_213 hW g0 ⟨by omega, by omega⟩) (fun R125494 T125495 H125496 p125497 => ?_))
  obtain ⟨e125498, e125500, z125502, e125499, b125503, p125501⟩ := p125497
  subst e125498
  subst e125499
  subst e125500
  show wp _ _ 215 5 [(0, .ref r0), (1, vI a1), (2, vI a2)] [vI z125502] _ H _
  refine wp_of e215 c215_5 (rw_if_eq (p1 := 26) (p2 := 8) (by decide) rfl ⟨by omega, by omega⟩ (fun c125504 => ?_) (fun c125504 => ?_))
  · refine wp_of e215 c215_26 (rw_iconst (pc' := 27) rfl ?_)
    exact wp_zreturn e215 c215_27 rfl (by omega) ⟨rfl, rfl, 0, rfl, ⟨by omega, by omega⟩, by omega⟩
  · refine wp_of e215 c215_8 (rw_iload_n (pc' := 9) (z := a2) rfl rfl ?_)
    refine wp_of e215 c215_9 (rw_if_lt (p1 := 26) (p2 := 12) (by decide) rfl ⟨by omega, by omega⟩ (fun c125505 => ?_) (fun c125505 => ?_))
    · refine wp_of e215 c215_26 (rw_iconst (pc' := 27) rfl ?_)
      exact wp_zreturn e215 c215_27 rfl (by omega) ⟨rfl, rfl, 0, rfl, ⟨by omega, by omega⟩, by omega⟩
    · refine wp_of e215 c215_12 (rw_iload_n (pc' := 13) (z := a2) rfl rfl ?_)
      refine wp_of e215 c215_13 (rw_aload_n (pc' := 14) (v := .ref r0) rfl rfl rfl ?_)
      refine wp_of e215 c215_14 (xg_R (pc' := 17) lf_9_21 hW g0 sh_42 (by decide) (by decide) ty_42_21 rfl rfl (fun r125506 q125507 g125508 => ?_))
      refine wp_of e215 c215_17 (rw_iload_n (pc' := 18) (z := a1) rfl rfl ?_)
      refine wp_of e215 c215_18 (xa_I (so := 0) (pc' := 19) hW g125508 sh_45 (by decide) (ty_45 _) (by omega) (by omega) rfl (fun b125509 b125510 => ?_))
      refine wp_of e215 c215_19 (rw_icmp_ge (p1 := 26) (p2 := 22) (by decide) rfl ⟨by omega, by omega⟩ ⟨by omega, by omega⟩ (fun c125511 => ?_) (fun c125511 => ?_))
      · refine wp_of e215 c215_26 (rw_iconst (pc' := 27) rfl ?_)
        exact wp_zreturn e215 c215_27 rfl (by omega) ⟨rfl, rfl, 0, rfl, ⟨by omega, by omega⟩, by omega⟩
      · refine wp_of e215 c215_22 (rw_iconst (pc' := 23) rfl ?_)
        refine wp_of e215 c215_23 (rw_goto (p1 := 27) (by decide) ?_)
        exact wp_zreturn e215 c215_27 rfl (by omega) ⟨rfl, rfl, 1, rfl, ⟨by omega, by omega⟩, by omega⟩
/-! StrikeAwakeModel.weightOf(II)I -/
theorem e216 : wq_en 216 = some (9, 5, false, some FieldType.int) := rfl
theorem c216_0 : mc_cd 216 0 = some (.aload_n 0, 1) := by decide +kernel
theorem c216_1 : mc_cd 216 1 = some (.getfield 337, 3) := by decide +kernel
theorem c216_4 : mc_cd 216 4 = some (.getfield 259, 3) := by decide +kernel
theorem c216_7 : mc_cd 216 7 = some (.iload_n 1, 1) := by decide +kernel
theorem c216_8 : mc_cd 216 8 = some (.iaload, 1) := by decide +kernel
theorem c216_9 : mc_cd 216 9 = some (.iconst (-1), 1) := by decide +kernel
theorem c216_10 : mc_cd 216 10 = some (.if_icmp .ne 5, 3) := by decide +kernel
theorem c216_13 : mc_cd 216 13 = some (.iconst 1, 1) := by decide +kernel
theorem c216_14 : mc_cd 216 14 = some (.ireturn, 1) := by decide +kernel
theorem c216_15 : mc_cd 216 15 = some (.aload_n 0, 1) := by decide +kernel
theorem c216_16 : mc_cd 216 16 = some (.getfield 24, 3) := by decide +kernel
theorem c216_19 : mc_cd 216 19 = some (.bipush 40, 2) := by decide +kernel
theorem c216_21 : mc_cd 216 21 = some (.iload_n 1, 1) := by decide +kernel
theorem c216_22 : mc_cd 216 22 = some (.imul, 1) := by decide +kernel
theorem c216_23 : mc_cd 216 23 = some (.iload_n 2, 1) := by decide +kernel
theorem c216_24 : mc_cd 216 24 = some (.iadd, 1) := by decide +kernel
theorem c216_25 : mc_cd 216 25 = some (.iaload, 1) := by decide +kernel
theorem c216_26 : mc_cd 216 26 = some (.aload_n 0, 1) := by decide +kernel
theorem c216_27 : mc_cd 216 27 = some (.getfield 337, 3) := by decide +kernel
theorem c216_30 : mc_cd 216 30 = some (.getfield 259, 3) := by decide +kernel
theorem c216_33 : mc_cd 216 33 = some (.iload_n 1, 1) := by decide +kernel
theorem c216_34 : mc_cd 216 34 = some (.iaload, 1) := by decide +kernel
theorem c216_35 : mc_cd 216 35 = some (.isub, 1) := by decide +kernel
theorem c216_36 : mc_cd 216 36 = some (.istore_n 3, 1) := by decide +kernel
theorem c216_37 : mc_cd 216 37 = some (.bipush 10, 2) := by decide +kernel
theorem c216_39 : mc_cd 216 39 = some (.iload_n 3, 1) := by decide +kernel
theorem c216_40 : mc_cd 216 40 = some (.ifCond .ge 8, 3) := by decide +kernel
theorem c216_43 : mc_cd 216 43 = some (.iload_n 3, 1) := by decide +kernel
theorem c216_44 : mc_cd 216 44 = some (.ineg, 1) := by decide +kernel
theorem c216_45 : mc_cd 216 45 = some (.goto 4, 3) := by decide +kernel
theorem c216_48 : mc_cd 216 48 = some (.iload_n 3, 1) := by decide +kernel
theorem c216_49 : mc_cd 216 49 = some (.isub, 1) := by decide +kernel
theorem c216_50 : mc_cd 216 50 = some (.istore 4, 2) := by decide +kernel
theorem c216_52 : mc_cd 216 52 = some (.iload 4, 2) := by decide +kernel
theorem c216_54 : mc_cd 216 54 = some (.iconst 1, 1) := by decide +kernel
theorem c216_55 : mc_cd 216 55 = some (.if_icmp .ge 7, 3) := by decide +kernel
theorem c216_58 : mc_cd 216 58 = some (.iconst 1, 1) := by decide +kernel
theorem c216_59 : mc_cd 216 59 = some (.goto 5, 3) := by decide +kernel
theorem c216_62 : mc_cd 216 62 = some (.iload 4, 2) := by decide +kernel
theorem c216_64 : mc_cd 216 64 = some (.ireturn, 1) := by decide +kernel
abbrev q_216 (r0 : Nat) (a1 : Int) (a2 : Int) (pp : Nat) (T : wq_T) (H : wq_H) : Option Value → wq_T → wq_H → Prop := fun r T' H' => T = T' ∧ H = H' ∧ ∃ z : Int, some (vI z) = r ∧ (1 ≤ z ∧ z ≤ 10)
set_option maxHeartbeats 4000000 in
theorem s_216 {kt : Nat → Option mc_E} {T : wq_T} {H : wq_H} {r0 : Nat} {a1 : Int} {a2 : Int} {pp : Nat} (hW : WT T H) (g0 : T.2.2.2 r0 = some 42) (i1 : 0 ≤ a1 ∧ a1 ≤ 5) (i2 : 0 ≤ a2 ∧ a2 ≤ 39) (qpp : H r0 3 = (pp : Int)) (gpp : T.2.2.2 pp = some 54) : wpc kt 1 216 [.ref r0, vI a1, vI a2] T H (q_216 r0 a1 a2 pp T H) := by
  refine wp_enter e216 (Nat.le_of_ble_eq_true rfl) rfl ?_
  show wp _ _ 216 0 [(0, .ref r0), (1, vI a1), (2, vI a2)] [] _ H _
  refine wp_of e216 c216_0 (rw_aload_n (pc' := 1) (v := .ref r0) rfl rfl rfl ?_)
  refine wp_of e216 c216_1 (xg_K (pc' := 4) lf_9_337 hW g0 sh_42 (by decide) (by decide) rfl qpp rfl ?_)
  refine wp_of e216 c216_4 (xg_R (pc' := 7) lf_9_259 hW gpp sh_54 (by decide) (by decide) ty_54_14 rfl rfl (fun r125528 q125529 g125530 => ?_))
  refine wp_of e216 c216_7 (rw_iload_n (pc' := 8) (z := a1) rfl rfl ?_)
  refine wp_of e216 c216_8 (xa_I (so := 0) (pc' := 9) hW g125530 sh_60 (by decide) (ty_60 _) (by omega) (by omega) rfl (fun b125531 b125532 => ?_))
  refine wp_of e216 c216_9 (rw_iconst (pc' := 10) rfl ?_)
  refine wp_of e216 c216_10 (rw_icmp_ne (p1 := 15) (p2 := 13) (by decide) rfl ⟨by omega, by omega⟩ ⟨by omega, by omega⟩ (fun c125533 => ?_) (fun c125533 => ?_))
  · refine wp_of e216 c216_15 (rw_aload_n (pc' := 16) (v := .ref r0) rfl rfl rfl ?_)
    refine wp_of e216 c216_16 (xg_R (pc' := 19) lf_9_24 hW g0 sh_42 (by decide) (by decide) ty_42_22 rfl rfl (fun r125534 q125535 g125536 => ?_))
    refine wp_of e216 c216_19 (rw_bipush (pc' := 21) (z := 40) rfl (by decide) ?_)
    refine wp_of e216 c216_21 (rw_iload_n (pc' := 22) (z := a1) rfl rfl ?_)
    refine wp_of e216 c216_22 (rw_imul (pc' := 23) rfl ?_)
    refine wp_of e216 c216_23 (rw_iload_n (pc' := 24) (z := a2) rfl rfl ?_)
    refine wp_of e216 c216_24 (rw_iadd (pc' := 25) rfl ?_)
    refine wp_of e216 c216_25 (xa_I (so := 0) (pc' := 26) hW g125536 sh_46 (by decide) (ty_46 _) (by omega) (by omega) rfl (fun b125537 b125538 => ?_))
    refine wp_of e216 c216_26 (rw_aload_n (pc' := 27) (v := .ref r0) rfl rfl rfl ?_)
    refine wp_of e216 c216_27 (xg_K (pc' := 30) lf_9_337 hW g0 sh_42 (by decide) (by decide) rfl qpp rfl ?_)
    refine wp_of e216 c216_30 (xg_K (pc' := 33) lf_9_259 hW gpp sh_54 (by decide) (by decide) rfl q125529 rfl ?_)
    refine wp_of e216 c216_33 (rw_iload_n (pc' := 34) (z := a1) rfl rfl ?_)
    refine wp_of e216 c216_34 (xa_I (so := 0) (pc' := 35) hW g125530 sh_60 (by decide) (ty_60 _) (by omega) (by omega) rfl (fun b125539 b125540 => ?_))
    refine wp_of e216 c216_35 (rw_isub (pc' := 36) rfl ?_)
    refine wp_of e216 c216_36 (rw_istore_n (pc' := 37) (z := (H r125534 (((40 * a1) + a2).toNat)) - (H r125528 (a1.toNat))) (L' := [(3, vI ((H r125534 (((40 * a1) + a2).toNat)) - (H r125528 (a1.toNat)))), (0, .ref r0), (1, vI a1), (2, vI a2)]) rfl rfl rfl ?_)
    refine wp_of e216 c216_37 (rw_bipush (pc' := 39) (z := 10) rfl (by decide) ?_)
    refine wp_of e216 c216_39 (rw_iload_n (pc' := 40) (z := (H r125534 (((40 * a1) + a2).toNat)) - (H r125528 (a1.toNat))) rfl rfl ?_)
    refine wp_of e216 c216_40 (rw_if_ge (p1 := 48) (p2 := 43) (by decide) rfl ⟨by omega, by omega⟩ (fun c125541 => ?_) (fun c125541 => ?_))
    · refine wp_of e216 c216_48 (rw_iload_n (pc' := 49) (z := (H r125534 (((40 * a1) + a2).toNat)) - (H r125528 (a1.toNat))) rfl rfl ?_)
      refine wp_of e216 c216_49 (rw_isub (pc' := 50) rfl ?_)
      refine wp_of e216 c216_50 (rw_istore (pc' := 52) (z := 10 - ((H r125534 (((40 * a1) + a2).toNat)) - (H r125528 (a1.toNat)))) (L' := [(4, vI (10 - ((H r125534 (((40 * a1) + a2).toNat)) - (H r125528 (a1.toNat))))), (3, vI ((H r125534 (((40 * a1) + a2).toNat)) - (H r125528 (a1.toNat)))), (0, .ref r0), (1, vI a1), (2, vI a2)]) rfl rfl rfl ?_)
      refine wp_of e216 c216_52 (rw_iload (pc' := 54) (z := 10 - ((H r125534 (((40 * a1) + a2).toNat)) - (H r125528 (a1.toNat)))) rfl rfl ?_)
      refine wp_of e216 c216_54 (rw_iconst (pc' := 55) rfl ?_)
      refine wp_of e216 c216_55 (rw_icmp_ge (p1 := 62) (p2 := 58) (by decide) rfl ⟨by omega, by omega⟩ ⟨by omega, by omega⟩ (fun c125542 => ?_) (fun c125542 => ?_))
      · refine wp_of e216 c216_62 (rw_iload (pc' := 64) (z := 10 - ((H r125534 (((40 * a1) + a2).toNat)) - (H r125528 (a1.toNat)))) rfl rfl ?_)
        exact wp_ireturn e216 c216_64 rfl ⟨rfl, rfl, 10 - ((H r125534 (((40 * a1) + a2).toNat)) - (H r125528 (a1.toNat))), rfl, ⟨by omega, by omega⟩⟩
      · refine wp_of e216 c216_58 (rw_iconst (pc' := 59) rfl ?_)
        refine wp_of e216 c216_59 (rw_goto (p1 := 64) (by decide) ?_)
        exact wp_ireturn e216 c216_64 rfl ⟨rfl, rfl, 1, rfl, ⟨by omega, by omega⟩⟩
    · refine wp_of e216 c216_43 (rw_iload_n (pc' := 44) (z := (H r125534 (((40 * a1) + a2).toNat)) - (H r125528 (a1.toNat))) rfl rfl ?_)
      refine wp_of e216 c216_44 (rw_ineg (pc' := 45) rfl ?_)
      refine wp_of e216 c216_45 (rw_goto (p1 := 49) (by decide) ?_)
      refine wp_of e216 c216_49 (rw_isub (pc' := 50) rfl ?_)
      refine wp_of e216 c216_50 (rw_istore (pc' := 52) (z := 10 - (-((H r125534 (((40 * a1) + a2).toNat)) - (H r125528 (a1.toNat))))) (L' := [(4, vI (10 - (-((H r125534 (((40 * a1) + a2).toNat)) - (H r125528 (a1.toNat)))))), (3, vI ((H r125534 (((40 * a1) + a2).toNat)) - (H r125528 (a1.toNat)))), (0, .ref r0), (1, vI a1), (2, vI a2)]) rfl rfl rfl ?_)
      refine wp_of e216 c216_52 (rw_iload (pc' := 54) (z := 10 - (-((H r125534 (((40 * a1) + a2).toNat)) - (H r125528 (a1.toNat))))) rfl rfl ?_)
      refine wp_of e216 c216_54 (rw_iconst (pc' := 55) rfl ?_)
      refine wp_of e216 c216_55 (rw_icmp_ge (p1 := 62) (p2 := 58) (by decide) rfl ⟨by omega, by omega⟩ ⟨by omega, by omega⟩ (fun c125543 => ?_) (fun c125543 => ?_))
      · refine wp_of e216 c216_62 (rw_iload (pc' := 64) (z := 10 - (-((H r125534 (((40 * a1) + a2).toNat)) - (H r125528 (a1.toNat))))) rfl rfl ?_)
        exact wp_ireturn e216 c216_64 rfl ⟨rfl, rfl, 10 - (-((H r125534 (((40 * a1) + a2).toNat)) - (H r125528 (a1.toNat)))), rfl, ⟨by omega, by omega⟩⟩
      · refine wp_of e216 c216_58 (rw_iconst (pc' := 59) rfl ?_)
        refine wp_of e216 c216_59 (rw_goto (p1 := 64) (by decide) ?_)
        exact wp_ireturn e216 c216_64 rfl ⟨rfl, rfl, 1, rfl, ⟨by omega, by omega⟩⟩
  · refine wp_of e216 c216_13 (rw_iconst (pc' := 14) rfl ?_)
    exact wp_ireturn e216 c216_14 rfl ⟨rfl, rfl, 1, rfl, ⟨by omega, by omega⟩⟩
/-! StrikeAwakeModel.span(III)I -/
theorem e214 : wq_en 214 = some (9, 4, false, some FieldType.int) := rfl
theorem c214_0 : mc_cd 214 0 = some (.aload_n 0, 1) := by decide +kernel
theorem c214_1 : mc_cd 214 1 = some (.iconst 0, 1) := by decide +kernel
theorem c214_2 : mc_cd 214 2 = some (.putfield 48, 3) := by decide +kernel
theorem c214_5 : mc_cd 214 5 = some (.aload_n 0, 1) := by decide +kernel
theorem c214_6 : mc_cd 214 6 = some (.iload_n 1, 1) := by decide +kernel
theorem c214_7 : mc_cd 214 7 = some (.iload_n 2, 1) := by decide +kernel
theorem c214_8 : mc_cd 214 8 = some (.invokevirtual 367, 3) := by decide +kernel
theorem c214_11 : mc_cd 214 11 = some (.ifCond .eq 12, 3) := by decide +kernel
theorem c214_14 : mc_cd 214 14 = some (.iload_n 3, 1) := by decide +kernel
theorem c214_15 : mc_cd 214 15 = some (.iconst 0, 1) := by decide +kernel
theorem c214_16 : mc_cd 214 16 = some (.iconst 2, 1) := by decide +kernel
theorem c214_17 : mc_cd 214 17 = some (.invokestatic 125, 3) := by decide +kernel
theorem c214_20 : mc_cd 214 20 = some (.ifCond .ne 9, 3) := by decide +kernel
theorem c214_23 : mc_cd 214 23 = some (.aload_n 0, 1) := by decide +kernel
theorem c214_24 : mc_cd 214 24 = some (.iconst 1, 1) := by decide +kernel
theorem c214_25 : mc_cd 214 25 = some (.invokevirtual 54, 3) := by decide +kernel
theorem c214_28 : mc_cd 214 28 = some (.ireturn, 1) := by decide +kernel
theorem c214_29 : mc_cd 214 29 = some (.aload_n 0, 1) := by decide +kernel
theorem c214_30 : mc_cd 214 30 = some (.iload_n 3, 1) := by decide +kernel
theorem c214_31 : mc_cd 214 31 = some (.ifCond .ne 17, 3) := by decide +kernel
theorem c214_34 : mc_cd 214 34 = some (.aload_n 0, 1) := by decide +kernel
theorem c214_35 : mc_cd 214 35 = some (.getfield 24, 3) := by decide +kernel
theorem c214_38 : mc_cd 214 38 = some (.bipush 40, 2) := by decide +kernel
theorem c214_40 : mc_cd 214 40 = some (.iload_n 1, 1) := by decide +kernel
theorem c214_41 : mc_cd 214 41 = some (.imul, 1) := by decide +kernel
theorem c214_42 : mc_cd 214 42 = some (.iload_n 2, 1) := by decide +kernel
theorem c214_43 : mc_cd 214 43 = some (.iadd, 1) := by decide +kernel
theorem c214_44 : mc_cd 214 44 = some (.iaload, 1) := by decide +kernel
theorem c214_45 : mc_cd 214 45 = some (.goto 28, 3) := by decide +kernel
theorem c214_48 : mc_cd 214 48 = some (.iload_n 3, 1) := by decide +kernel
theorem c214_49 : mc_cd 214 49 = some (.iconst 1, 1) := by decide +kernel
theorem c214_50 : mc_cd 214 50 = some (.if_icmp .ne 17, 3) := by decide +kernel
theorem c214_53 : mc_cd 214 53 = some (.aload_n 0, 1) := by decide +kernel
theorem c214_54 : mc_cd 214 54 = some (.getfield 27, 3) := by decide +kernel
theorem c214_57 : mc_cd 214 57 = some (.bipush 40, 2) := by decide +kernel
theorem c214_59 : mc_cd 214 59 = some (.iload_n 1, 1) := by decide +kernel
theorem c214_60 : mc_cd 214 60 = some (.imul, 1) := by decide +kernel
theorem c214_61 : mc_cd 214 61 = some (.iload_n 2, 1) := by decide +kernel
theorem c214_62 : mc_cd 214 62 = some (.iadd, 1) := by decide +kernel
theorem c214_63 : mc_cd 214 63 = some (.iaload, 1) := by decide +kernel
theorem c214_64 : mc_cd 214 64 = some (.goto 9, 3) := by decide +kernel
theorem c214_67 : mc_cd 214 67 = some (.aload_n 0, 1) := by decide +kernel
theorem c214_68 : mc_cd 214 68 = some (.iload_n 1, 1) := by decide +kernel
theorem c214_69 : mc_cd 214 69 = some (.iload_n 2, 1) := by decide +kernel
theorem c214_70 : mc_cd 214 70 = some (.invokevirtual 370, 3) := by decide +kernel
theorem c214_73 : mc_cd 214 73 = some (.invokevirtual 58, 3) := by decide +kernel
theorem c214_76 : mc_cd 214 76 = some (.ireturn, 1) := by decide +kernel
abbrev q_214 (r0 : Nat) (a1 : Int) (a2 : Int) (a3 : Int) (T : wq_T) (H : wq_H) : Option Value → wq_T → wq_H → Prop := fun r T' H' => T = T' ∧ WT T H' ∧ wfr [(42, 0), (42, 1), (42, 2)] T H H' ∧ ∃ z : Int, some (vI z) = r ∧ ((-2147483648) ≤ z ∧ z ≤ 2147483647) ∧ (wKI H' r0 = 1)
set_option maxHeartbeats 4000000 in
theorem s_214 {kt : Nat → Option mc_E} {T : wq_T} {H : wq_H} {r0 : Nat} {a1 : Int} {a2 : Int} {a3 : Int} (hW : WT T H) (g0 : T.2.2.2 r0 = some 42) (i1 : (-2147483648) ≤ a1 ∧ a1 ≤ 2147483647) (i2 : (-2147483648) ≤ a2 ∧ a2 ≤ 2147483647) (i3 : (-2147483648) ≤ a3 ∧ a3 ≤ 2147483647) (p0 : wKI H r0 = 1) : wpc kt 3 214 [.ref r0, vI a1, vI a2, vI a3] T H (q_214 r0 a1 a2 a3 T H) := by
  refine wp_enter e214 (Nat.le_of_ble_eq_true rfl) rfl ?_
  have f0 : wfr [(42, 0), (42, 1), (42, 2)] T H H := wfr.rf
  show wp _ _ 214 0 [(0, .ref r0), (1, vI a1), (2, vI a2), (3, vI a3)] [] _ H _
  refine wp_of e214 c214_0 (rw_aload_n (pc' := 1) (v := .ref r0) rfl rfl rfl ?_)
  refine wp_of e214 c214_1 (rw_iconst (pc' := 2) rfl ?_)
  refine wp_of e214 c214_2 (xp_I (pc' := 5) lf_9_48 hW g0 sh_42 (by decide) (by decide) ty_42_0 rfl rfl (by omega) (by omega) ⟨by omega, by omega⟩ rfl (fun H125655 e125656 w125657 => ?_))
  have f125658 := f0.put' e125656 g0 rfl
  have k125659 : H125655 r0 0 = 0 := wq_u_s e125656
  refine wp_of e214 c214_5 (rw_aload_n (pc' := 6) (v := .ref r0) rfl rfl rfl ?_)
  refine wp_of e214 c214_6 (rw_iload_n (pc' := 7) (z := a1) rfl rfl ?_)
  refine wp_of e214 c214_7 (rw_iload_n (pc' := 8) (z := a2) rfl rfl ?_)
  refine wp_of e214 c214_8 (xc_V (pc' := 11) (r := r0) (as := [vI a1, vI a2]) (st := []) (lm_9_367) rfl rfl (Nat.le_of_ble_eq_true rfl) w125657 g0 sh_42 (by decide) rfl (by decide) (s_215 w125657 g0 ⟨by omega, by omega⟩ ⟨by omega, by omega⟩) (fun R125660 T125661 H125662 p125663 => ?_))
  obtain ⟨e125664, e125666, z125668, e125665, b125669, p125667⟩ := p125663
  subst e125664
  subst e125665
  subst e125666
  show wp _ _ 214 11 [(0, .ref r0), (1, vI a1), (2, vI a2), (3, vI a3)] [vI z125668] _ H125655 _
  refine wp_of e214 c214_11 (rw_if_eq (p1 := 23) (p2 := 14) (by decide) rfl ⟨by omega, by omega⟩ (fun c125670 => ?_) (fun c125670 => ?_))
  · refine wp_of e214 c214_23 (rw_aload_n (pc' := 24) (v := .ref r0) rfl rfl rfl ?_)
    refine wp_of e214 c214_24 (rw_iconst (pc' := 25) rfl ?_)
    refine wp_of e214 c214_25 (xc_V (pc' := 28) (r := r0) (as := [vI 1]) (st := []) (lm_9_54) rfl rfl (Nat.le_of_ble_eq_true rfl) w125657 g0 sh_42 (by decide) rfl (by decide) (s_170 w125657 g0 ⟨by omega, by omega⟩) (fun R125671 T125672 H125673 p125674 => ?_))
    obtain ⟨e125675, w125677, f125678, z125679, e125676, b125680⟩ := p125674
    subst e125675
    subst e125676
    have f125681 := f125658.tr f125678 rfl
    show wp _ _ 214 28 [(0, .ref r0), (1, vI a1), (2, vI a2), (3, vI a3)] [vI z125679] _ H125673 _
    have k125682 : wKI H125673 r0 = wKI H r0 := ((wKI_fr w125657 g0 f125678 rfl).trans (wKI_fr hW g0 ((wfr.rf (l := [(42, 0)])).put' e125656 g0 rfl) rfl))
    exact wp_ireturn e214 c214_28 rfl ⟨rfl, w125677, f125681, z125679, rfl, ⟨by omega, by omega⟩, by omega⟩
  · refine wp_of e214 c214_14 (rw_iload_n (pc' := 15) (z := a3) rfl rfl ?_)
    refine wp_of e214 c214_15 (rw_iconst (pc' := 16) rfl ?_)
    refine wp_of e214 c214_16 (rw_iconst (pc' := 17) rfl ?_)
    refine wp_of e214 c214_17 (xc_S (pc' := 20) (as := [vI a3, vI 0, vI 2]) (st := []) (lm_9_125) rfl rfl (Nat.le_of_ble_eq_true rfl) rfl (by decide) (s_186 w125657 ⟨by omega, by omega⟩ ⟨by omega, by omega⟩ ⟨by omega, by omega⟩) (fun R125683 T125684 H125685 p125686 => ?_))
    obtain ⟨e125687, e125689, z125691, e125688, b125692, p125690⟩ := p125686
    subst e125687
    subst e125688
    subst e125689
    show wp _ _ 214 20 [(0, .ref r0), (1, vI a1), (2, vI a2), (3, vI a3)] [vI z125691] _ H125655 _
    refine wp_of e214 c214_20 (rw_if_ne (p1 := 29) (p2 := 23) (by decide) rfl ⟨by omega, by omega⟩ (fun c125693 => ?_) (fun c125693 => ?_))
    · refine wp_of e214 c214_29 (rw_aload_n (pc' := 30) (v := .ref r0) rfl rfl rfl ?_)
      refine wp_of e214 c214_30 (rw_iload_n (pc' := 31) (z := a3) rfl rfl ?_)
      refine wp_of e214 c214_31 (rw_if_ne (p1 := 48) (p2 := 34) (by decide) rfl ⟨by omega, by omega⟩ (fun c125694 => ?_) (fun c125694 => ?_))
      · refine wp_of e214 c214_48 (rw_iload_n (pc' := 49) (z := a3) rfl rfl ?_)
        refine wp_of e214 c214_49 (rw_iconst (pc' := 50) rfl ?_)
        refine wp_of e214 c214_50 (rw_icmp_ne (p1 := 67) (p2 := 53) (by decide) rfl ⟨by omega, by omega⟩ ⟨by omega, by omega⟩ (fun c125695 => ?_) (fun c125695 => ?_))
        · refine wp_of e214 c214_67 (rw_aload_n (pc' := 68) (v := .ref r0) rfl rfl rfl ?_)
          refine wp_of e214 c214_68 (rw_iload_n (pc' := 69) (z := a1) rfl rfl ?_)
          refine wp_of e214 c214_69 (rw_iload_n (pc' := 70) (z := a2) rfl rfl ?_)
          obtain ⟨r125696, q125697, g125698⟩ := (w125657.opt g0 (t' := 54) (n := 33) (j := 3) (p := 0) (q := 0) rfl (by decide) rfl).resolve_left (by omega)
          refine wp_of e214 c214_70 (xc_V (pc' := 73) (r := r0) (as := [vI a1, vI a2]) (st := [.ref r0]) (lm_9_370) rfl rfl (Nat.le_of_ble_eq_true rfl) w125657 g0 sh_42 (by decide) rfl (by decide) (s_216 w125657 g0 ⟨by omega, by omega⟩ ⟨by omega, by omega⟩ q125697 g125698) (fun R125699 T125700 H125701 p125702 => ?_))
          obtain ⟨e125703, e125705, z125706, e125704, b125707⟩ := p125702
          subst e125703
          subst e125704
          subst e125705
          show wp _ _ 214 73 [(0, .ref r0), (1, vI a1), (2, vI a2), (3, vI a3)] [vI z125706, .ref r0] _ H125655 _
          refine wp_of e214 c214_73 (xc_V (pc' := 76) (r := r0) (as := [vI z125706]) (st := []) (lm_9_58) rfl rfl (Nat.le_of_ble_eq_true rfl) w125657 g0 sh_42 (by decide) rfl (by decide) (s_209 w125657 g0 ⟨by omega, by omega⟩) (fun R125708 T125709 H125710 p125711 => ?_))
          obtain ⟨e125712, w125714, f125715, z125716, e125713, b125717⟩ := p125711
          subst e125712
          subst e125713
          have f125718 := f125658.tr f125715 rfl
          show wp _ _ 214 76 [(0, .ref r0), (1, vI a1), (2, vI a2), (3, vI a3)] [vI z125716] _ H125710 _
          have k125719 : wKI H125710 r0 = wKI H r0 := ((wKI_fr w125657 g0 f125715 rfl).trans (wKI_fr hW g0 ((wfr.rf (l := [(42, 0)])).put' e125656 g0 rfl) rfl))
          exact wp_ireturn e214 c214_76 rfl ⟨rfl, w125714, f125718, z125716, rfl, ⟨by omega, by omega⟩, by omega⟩
        · refine wp_of e214 c214_53 (rw_aload_n (pc' := 54) (v := .ref r0) rfl rfl rfl ?_)
          refine wp_of e214 c214_54 (xg_R (pc' := 57) lf_9_27 w125657 g0 sh_42 (by decide) (by decide) ty_42_23 rfl rfl (fun r125720 q125721 g125722 => ?_))
          refine wp_of e214 c214_57 (rw_bipush (pc' := 59) (z := 40) rfl (by decide) ?_)
          refine wp_of e214 c214_59 (rw_iload_n (pc' := 60) (z := a1) rfl rfl ?_)
          refine wp_of e214 c214_60 (rw_imul (pc' := 61) rfl ?_)
          refine wp_of e214 c214_61 (rw_iload_n (pc' := 62) (z := a2) rfl rfl ?_)
          refine wp_of e214 c214_62 (rw_iadd (pc' := 63) rfl ?_)
          refine wp_of e214 c214_63 (xa_I (so := 0) (pc' := 64) w125657 g125722 sh_47 (by decide) (ty_47 _) (by omega) (by omega) rfl (fun b125723 b125724 => ?_))
          refine wp_of e214 c214_64 (rw_goto (p1 := 73) (by decide) ?_)
          refine wp_of e214 c214_73 (xc_V (pc' := 76) (r := r0) (as := [vI (H125655 r125720 (((40 * a1) + a2).toNat))]) (st := []) (lm_9_58) rfl rfl (Nat.le_of_ble_eq_true rfl) w125657 g0 sh_42 (by decide) rfl (by decide) (s_209 w125657 g0 ⟨by omega, by omega⟩) (fun R125725 T125726 H125727 p125728 => ?_))
          obtain ⟨e125729, w125731, f125732, z125733, e125730, b125734⟩ := p125728
          subst e125729
          subst e125730
          have f125735 := f125658.tr f125732 rfl
          show wp _ _ 214 76 [(0, .ref r0), (1, vI a1), (2, vI a2), (3, vI a3)] [vI z125733] _ H125727 _
          have k125736 : wKI H125727 r0 = wKI H r0 := ((wKI_fr w125657 g0 f125732 rfl).trans (wKI_fr hW g0 ((wfr.rf (l := [(42, 0)])).put' e125656 g0 rfl) rfl))
          exact wp_ireturn e214 c214_76 rfl ⟨rfl, w125731, f125735, z125733, rfl, ⟨by omega, by omega⟩, by omega⟩
      · refine wp_of e214 c214_34 (rw_aload_n (pc' := 35) (v := .ref r0) rfl rfl rfl ?_)
        refine wp_of e214 c214_35 (xg_R (pc' := 38) lf_9_24 w125657 g0 sh_42 (by decide) (by decide) ty_42_22 rfl rfl (fun r125737 q125738 g125739 => ?_))
        refine wp_of e214 c214_38 (rw_bipush (pc' := 40) (z := 40) rfl (by decide) ?_)
        refine wp_of e214 c214_40 (rw_iload_n (pc' := 41) (z := a1) rfl rfl ?_)
        refine wp_of e214 c214_41 (rw_imul (pc' := 42) rfl ?_)
        refine wp_of e214 c214_42 (rw_iload_n (pc' := 43) (z := a2) rfl rfl ?_)
        refine wp_of e214 c214_43 (rw_iadd (pc' := 44) rfl ?_)
        refine wp_of e214 c214_44 (xa_I (so := 0) (pc' := 45) w125657 g125739 sh_46 (by decide) (ty_46 _) (by omega) (by omega) rfl (fun b125740 b125741 => ?_))
        refine wp_of e214 c214_45 (rw_goto (p1 := 73) (by decide) ?_)
        refine wp_of e214 c214_73 (xc_V (pc' := 76) (r := r0) (as := [vI (H125655 r125737 (((40 * a1) + a2).toNat))]) (st := []) (lm_9_58) rfl rfl (Nat.le_of_ble_eq_true rfl) w125657 g0 sh_42 (by decide) rfl (by decide) (s_209 w125657 g0 ⟨by omega, by omega⟩) (fun R125742 T125743 H125744 p125745 => ?_))
        obtain ⟨e125746, w125748, f125749, z125750, e125747, b125751⟩ := p125745
        subst e125746
        subst e125747
        have f125752 := f125658.tr f125749 rfl
        show wp _ _ 214 76 [(0, .ref r0), (1, vI a1), (2, vI a2), (3, vI a3)] [vI z125750] _ H125744 _
        have k125753 : wKI H125744 r0 = wKI H r0 := ((wKI_fr w125657 g0 f125749 rfl).trans (wKI_fr hW g0 ((wfr.rf (l := [(42, 0)])).put' e125656 g0 rfl) rfl))
        exact wp_ireturn e214 c214_76 rfl ⟨rfl, w125748, f125752, z125750, rfl, ⟨by omega, by omega⟩, by omega⟩
    · refine wp_of e214 c214_23 (rw_aload_n (pc' := 24) (v := .ref r0) rfl rfl rfl ?_)
      refine wp_of e214 c214_24 (rw_iconst (pc' := 25) rfl ?_)
      refine wp_of e214 c214_25 (xc_V (pc' := 28) (r := r0) (as := [vI 1]) (st := []) (lm_9_54) rfl rfl (Nat.le_of_ble_eq_true rfl) w125657 g0 sh_42 (by decide) rfl (by decide) (s_170 w125657 g0 ⟨by omega, by omega⟩) (fun R125754 T125755 H125756 p125757 => ?_))
      obtain ⟨e125758, w125760, f125761, z125762, e125759, b125763⟩ := p125757
      subst e125758
      subst e125759
      have f125764 := f125658.tr f125761 rfl
      show wp _ _ 214 28 [(0, .ref r0), (1, vI a1), (2, vI a2), (3, vI a3)] [vI z125762] _ H125756 _
      have k125765 : wKI H125756 r0 = wKI H r0 := ((wKI_fr w125657 g0 f125761 rfl).trans (wKI_fr hW g0 ((wfr.rf (l := [(42, 0)])).put' e125656 g0 rfl) rfl))
      exact wp_ireturn e214 c214_28 rfl ⟨rfl, w125760, f125764, z125762, rfl, ⟨by omega, by omega⟩, by omega⟩
/-! StrikeAwakeModel.isHour(I)Z -/
theorem e218 : wq_en 218 = some (9, 2, false, some FieldType.boolean) := rfl
theorem c218_0 : mc_cd 218 0 = some (.aload_n 0, 1) := by decide +kernel
theorem c218_1 : mc_cd 218 1 = some (.getfield 337, 3) := by decide +kernel
theorem c218_4 : mc_cd 218 4 = some (.ifnull 22, 3) := by decide +kernel
theorem c218_7 : mc_cd 218 7 = some (.iload_n 1, 1) := by decide +kernel
theorem c218_8 : mc_cd 218 8 = some (.ifCond .lt 18, 3) := by decide +kernel
theorem c218_11 : mc_cd 218 11 = some (.iload_n 1, 1) := by decide +kernel
theorem c218_12 : mc_cd 218 12 = some (.aload_n 0, 1) := by decide +kernel
theorem c218_13 : mc_cd 218 13 = some (.getfield 337, 3) := by decide +kernel
theorem c218_16 : mc_cd 218 16 = some (.getfield 185, 3) := by decide +kernel
theorem c218_19 : mc_cd 218 19 = some (.if_icmp .ge 7, 3) := by decide +kernel
theorem c218_22 : mc_cd 218 22 = some (.iconst 1, 1) := by decide +kernel
theorem c218_23 : mc_cd 218 23 = some (.goto 4, 3) := by decide +kernel
theorem c218_26 : mc_cd 218 26 = some (.iconst 0, 1) := by decide +kernel
theorem c218_27 : mc_cd 218 27 = some (.ireturn, 1) := by decide +kernel
abbrev q_218 (r0 : Nat) (a1 : Int) (T : wq_T) (H : wq_H) : Option Value → wq_T → wq_H → Prop := fun r T' H' => T = T' ∧ H = H' ∧ ∃ z : Int, some (vI z) = r ∧ (0 ≤ z ∧ z ≤ 1) ∧ (z = 0 ∨ (H r0 3 ≠ -1 ∧ 0 ≤ a1 ∧ a1 ≤ 23))
set_option maxHeartbeats 4000000 in
theorem s_218 {kt : Nat → Option mc_E} {T : wq_T} {H : wq_H} {r0 : Nat} {a1 : Int} (hW : WT T H) (g0 : T.2.2.2 r0 = some 42) (i1 : (-2147483648) ≤ a1 ∧ a1 ≤ 2147483647) : wpc kt 1 218 [.ref r0, vI a1] T H (q_218 r0 a1 T H) := by
  refine wp_enter e218 (Nat.le_of_ble_eq_true rfl) rfl ?_
  show wp _ _ 218 0 [(0, .ref r0), (1, vI a1)] [] _ H _
  refine wp_of e218 c218_0 (rw_aload_n (pc' := 1) (v := .ref r0) rfl rfl rfl ?_)
  refine wp_of e218 c218_1 (xg_O (pc' := 4) lf_9_337 hW g0 sh_42 (by decide) (by decide) ty_42_3 rfl rfl (fun q125774 => ?_) (fun r125773 q125774 g125775 => ?_))
  · refine wp_of e218 c218_4 (rw_ifnull_n (p1 := 26) (p2 := 7) (by decide) rfl ?_)
    refine wp_of e218 c218_26 (rw_iconst (pc' := 27) rfl ?_)
    exact wp_zreturn e218 c218_27 rfl (by omega) ⟨rfl, rfl, 0, rfl, ⟨by omega, by omega⟩, by omega⟩
  · refine wp_of e218 c218_4 (rw_ifnull_r (p1 := 26) (p2 := 7) (by decide) rfl ?_)
    refine wp_of e218 c218_7 (rw_iload_n (pc' := 8) (z := a1) rfl rfl ?_)
    refine wp_of e218 c218_8 (rw_if_lt (p1 := 26) (p2 := 11) (by decide) rfl ⟨by omega, by omega⟩ (fun c125776 => ?_) (fun c125776 => ?_))
    · refine wp_of e218 c218_26 (rw_iconst (pc' := 27) rfl ?_)
      exact wp_zreturn e218 c218_27 rfl (by omega) ⟨rfl, rfl, 0, rfl, ⟨by omega, by omega⟩, by omega⟩
    · refine wp_of e218 c218_11 (rw_iload_n (pc' := 12) (z := a1) rfl rfl ?_)
      refine wp_of e218 c218_12 (rw_aload_n (pc' := 13) (v := .ref r0) rfl rfl rfl ?_)
      refine wp_of e218 c218_13 (xg_K (pc' := 16) lf_9_337 hW g0 sh_42 (by decide) (by decide) rfl q125774 rfl ?_)
      refine wp_of e218 c218_16 (xg_I (pc' := 19) lf_9_185 hW g125775 sh_54 (by decide) (by decide) ty_54_0 rfl rfl (fun b125777 b125778 => ?_))
      refine wp_of e218 c218_19 (rw_icmp_ge (p1 := 26) (p2 := 22) (by decide) rfl ⟨by omega, by omega⟩ ⟨by omega, by omega⟩ (fun c125779 => ?_) (fun c125779 => ?_))
      · refine wp_of e218 c218_26 (rw_iconst (pc' := 27) rfl ?_)
        exact wp_zreturn e218 c218_27 rfl (by omega) ⟨rfl, rfl, 0, rfl, ⟨by omega, by omega⟩, by omega⟩
      · refine wp_of e218 c218_22 (rw_iconst (pc' := 23) rfl ?_)
        refine wp_of e218 c218_23 (rw_goto (p1 := 27) (by decide) ?_)
        exact wp_zreturn e218 c218_27 rfl (by omega) ⟨rfl, rfl, 1, rfl, ⟨by omega, by omega⟩, by omega⟩
/-! StrikeAwakeModel.awake(III)I -/
theorem e217 : wq_en 217 = some (9, 4, false, some FieldType.int) := rfl
theorem c217_0 : mc_cd 217 0 = some (.aload_n 0, 1) := by decide +kernel
theorem c217_1 : mc_cd 217 1 = some (.iconst 0, 1) := by decide +kernel
theorem c217_2 : mc_cd 217 2 = some (.putfield 48, 3) := by decide +kernel
theorem c217_5 : mc_cd 217 5 = some (.aload_n 0, 1) := by decide +kernel
theorem c217_6 : mc_cd 217 6 = some (.iload_n 1, 1) := by decide +kernel
theorem c217_7 : mc_cd 217 7 = some (.iload_n 2, 1) := by decide +kernel
theorem c217_8 : mc_cd 217 8 = some (.invokevirtual 367, 3) := by decide +kernel
theorem c217_11 : mc_cd 217 11 = some (.ifCond .eq 41, 3) := by decide +kernel
theorem c217_14 : mc_cd 217 14 = some (.aload_n 0, 1) := by decide +kernel
theorem c217_15 : mc_cd 217 15 = some (.iload_n 3, 1) := by decide +kernel
theorem c217_16 : mc_cd 217 16 = some (.invokevirtual 373, 3) := by decide +kernel
theorem c217_19 : mc_cd 217 19 = some (.ifCond .eq 33, 3) := by decide +kernel
theorem c217_22 : mc_cd 217 22 = some (.aload_n 0, 1) := by decide +kernel
theorem c217_23 : mc_cd 217 23 = some (.aload_n 0, 1) := by decide +kernel
theorem c217_24 : mc_cd 217 24 = some (.getfield 33, 3) := by decide +kernel
theorem c217_27 : mc_cd 217 27 = some (.bipush 40, 2) := by decide +kernel
theorem c217_29 : mc_cd 217 29 = some (.iload_n 1, 1) := by decide +kernel
theorem c217_30 : mc_cd 217 30 = some (.imul, 1) := by decide +kernel
theorem c217_31 : mc_cd 217 31 = some (.iload_n 2, 1) := by decide +kernel
theorem c217_32 : mc_cd 217 32 = some (.iadd, 1) := by decide +kernel
theorem c217_33 : mc_cd 217 33 = some (.iaload, 1) := by decide +kernel
theorem c217_34 : mc_cd 217 34 = some (.iload_n 3, 1) := by decide +kernel
theorem c217_35 : mc_cd 217 35 = some (.invokestatic 346, 3) := by decide +kernel
theorem c217_38 : mc_cd 217 38 = some (.ifCond .eq 7, 3) := by decide +kernel
theorem c217_41 : mc_cd 217 41 = some (.iconst 1, 1) := by decide +kernel
theorem c217_42 : mc_cd 217 42 = some (.goto 4, 3) := by decide +kernel
theorem c217_45 : mc_cd 217 45 = some (.iconst 0, 1) := by decide +kernel
theorem c217_46 : mc_cd 217 46 = some (.invokevirtual 58, 3) := by decide +kernel
theorem c217_49 : mc_cd 217 49 = some (.goto 8, 3) := by decide +kernel
theorem c217_52 : mc_cd 217 52 = some (.aload_n 0, 1) := by decide +kernel
theorem c217_53 : mc_cd 217 53 = some (.iconst 1, 1) := by decide +kernel
theorem c217_54 : mc_cd 217 54 = some (.invokevirtual 54, 3) := by decide +kernel
theorem c217_57 : mc_cd 217 57 = some (.ireturn, 1) := by decide +kernel
abbrev q_217 (r0 : Nat) (a1 : Int) (a2 : Int) (a3 : Int) (T : wq_T) (H : wq_H) : Option Value → wq_T → wq_H → Prop := fun r T' H' => T = T' ∧ WT T H' ∧ wfr [(42, 0), (42, 1), (42, 2)] T H H' ∧ ∃ z : Int, some (vI z) = r ∧ ((-2147483648) ≤ z ∧ z ≤ 2147483647) ∧ (wKI H' r0 = 1)
set_option maxHeartbeats 4000000 in
theorem s_217 {kt : Nat → Option mc_E} {T : wq_T} {H : wq_H} {r0 : Nat} {a1 : Int} {a2 : Int} {a3 : Int} (hW : WT T H) (g0 : T.2.2.2 r0 = some 42) (i1 : (-2147483648) ≤ a1 ∧ a1 ≤ 2147483647) (i2 : (-2147483648) ≤ a2 ∧ a2 ≤ 2147483647) (i3 : (-2147483648) ≤ a3 ∧ a3 ≤ 2147483647) (p0 : wKI H r0 = 1) : wpc kt 3 217 [.ref r0, vI a1, vI a2, vI a3] T H (q_217 r0 a1 a2 a3 T H) := by
  refine wp_enter e217 (Nat.le_of_ble_eq_true rfl) rfl ?_
  have f0 : wfr [(42, 0), (42, 1), (42, 2)] T H H := wfr.rf
  show wp _ _ 217 0 [(0, .ref r0), (1, vI a1), (2, vI a2), (3, vI a3)] [] _ H _
  refine wp_of e217 c217_0 (rw_aload_n (pc' := 1) (v := .ref r0) rfl rfl rfl ?_)
  refine wp_of e217 c217_1 (rw_iconst (pc' := 2) rfl ?_)
  refine wp_of e217 c217_2 (xp_I (pc' := 5) lf_9_48 hW g0 sh_42 (by decide) (by decide) ty_42_0 rfl rfl (by omega) (by omega) ⟨by omega, by omega⟩ rfl (fun H125870 e125871 w125872 => ?_))
  have f125873 := f0.put' e125871 g0 rfl
  have k125874 : H125870 r0 0 = 0 := wq_u_s e125871
  refine wp_of e217 c217_5 (rw_aload_n (pc' := 6) (v := .ref r0) rfl rfl rfl ?_)
  refine wp_of e217 c217_6 (rw_iload_n (pc' := 7) (z := a1) rfl rfl ?_)
  refine wp_of e217 c217_7 (rw_iload_n (pc' := 8) (z := a2) rfl rfl ?_)
  refine wp_of e217 c217_8 (xc_V (pc' := 11) (r := r0) (as := [vI a1, vI a2]) (st := []) (lm_9_367) rfl rfl (Nat.le_of_ble_eq_true rfl) w125872 g0 sh_42 (by decide) rfl (by decide) (s_215 w125872 g0 ⟨by omega, by omega⟩ ⟨by omega, by omega⟩) (fun R125875 T125876 H125877 p125878 => ?_))
  obtain ⟨e125879, e125881, z125883, e125880, b125884, p125882⟩ := p125878
  subst e125879
  subst e125880
  subst e125881
  show wp _ _ 217 11 [(0, .ref r0), (1, vI a1), (2, vI a2), (3, vI a3)] [vI z125883] _ H125870 _
  refine wp_of e217 c217_11 (rw_if_eq (p1 := 52) (p2 := 14) (by decide) rfl ⟨by omega, by omega⟩ (fun c125885 => ?_) (fun c125885 => ?_))
  · refine wp_of e217 c217_52 (rw_aload_n (pc' := 53) (v := .ref r0) rfl rfl rfl ?_)
    refine wp_of e217 c217_53 (rw_iconst (pc' := 54) rfl ?_)
    refine wp_of e217 c217_54 (xc_V (pc' := 57) (r := r0) (as := [vI 1]) (st := []) (lm_9_54) rfl rfl (Nat.le_of_ble_eq_true rfl) w125872 g0 sh_42 (by decide) rfl (by decide) (s_170 w125872 g0 ⟨by omega, by omega⟩) (fun R125886 T125887 H125888 p125889 => ?_))
    obtain ⟨e125890, w125892, f125893, z125894, e125891, b125895⟩ := p125889
    subst e125890
    subst e125891
    have f125896 := f125873.tr f125893 rfl
    show wp _ _ 217 57 [(0, .ref r0), (1, vI a1), (2, vI a2), (3, vI a3)] [vI z125894] _ H125888 _
    have k125897 : wKI H125888 r0 = wKI H r0 := ((wKI_fr w125872 g0 f125893 rfl).trans (wKI_fr hW g0 ((wfr.rf (l := [(42, 0)])).put' e125871 g0 rfl) rfl))
    exact wp_ireturn e217 c217_57 rfl ⟨rfl, w125892, f125896, z125894, rfl, ⟨by omega, by omega⟩, by omega⟩
  · refine wp_of e217 c217_14 (rw_aload_n (pc' := 15) (v := .ref r0) rfl rfl rfl ?_)
    refine wp_of e217 c217_15 (rw_iload_n (pc' := 16) (z := a3) rfl rfl ?_)
    refine wp_of e217 c217_16 (xc_V (pc' := 19) (r := r0) (as := [vI a3]) (st := []) (lm_9_373) rfl rfl (Nat.le_of_ble_eq_true rfl) w125872 g0 sh_42 (by decide) rfl (by decide) (s_218 w125872 g0 ⟨by omega, by omega⟩) (fun R125898 T125899 H125900 p125901 => ?_))
    obtain ⟨e125902, e125904, z125906, e125903, b125907, p125905⟩ := p125901
    subst e125902
    subst e125903
    subst e125904
    show wp _ _ 217 19 [(0, .ref r0), (1, vI a1), (2, vI a2), (3, vI a3)] [vI z125906] _ H125870 _
    refine wp_of e217 c217_19 (rw_if_eq (p1 := 52) (p2 := 22) (by decide) rfl ⟨by omega, by omega⟩ (fun c125908 => ?_) (fun c125908 => ?_))
    · refine wp_of e217 c217_52 (rw_aload_n (pc' := 53) (v := .ref r0) rfl rfl rfl ?_)
      refine wp_of e217 c217_53 (rw_iconst (pc' := 54) rfl ?_)
      refine wp_of e217 c217_54 (xc_V (pc' := 57) (r := r0) (as := [vI 1]) (st := []) (lm_9_54) rfl rfl (Nat.le_of_ble_eq_true rfl) w125872 g0 sh_42 (by decide) rfl (by decide) (s_170 w125872 g0 ⟨by omega, by omega⟩) (fun R125909 T125910 H125911 p125912 => ?_))
      obtain ⟨e125913, w125915, f125916, z125917, e125914, b125918⟩ := p125912
      subst e125913
      subst e125914
      have f125919 := f125873.tr f125916 rfl
      show wp _ _ 217 57 [(0, .ref r0), (1, vI a1), (2, vI a2), (3, vI a3)] [vI z125917] _ H125911 _
      have k125920 : wKI H125911 r0 = wKI H r0 := ((wKI_fr w125872 g0 f125916 rfl).trans (wKI_fr hW g0 ((wfr.rf (l := [(42, 0)])).put' e125871 g0 rfl) rfl))
      exact wp_ireturn e217 c217_57 rfl ⟨rfl, w125915, f125919, z125917, rfl, ⟨by omega, by omega⟩, by omega⟩
    · refine wp_of e217 c217_22 (rw_aload_n (pc' := 23) (v := .ref r0) rfl rfl rfl ?_)
      refine wp_of e217 c217_23 (rw_aload_n (pc' := 24) (v := .ref r0) rfl rfl rfl ?_)
      refine wp_of e217 c217_24 (xg_R (pc' := 27) lf_9_33 w125872 g0 sh_42 (by decide) (by decide) ty_42_25 rfl rfl (fun r125921 q125922 g125923 => ?_))
      refine wp_of e217 c217_27 (rw_bipush (pc' := 29) (z := 40) rfl (by decide) ?_)
      refine wp_of e217 c217_29 (rw_iload_n (pc' := 30) (z := a1) rfl rfl ?_)
      refine wp_of e217 c217_30 (rw_imul (pc' := 31) rfl ?_)
      refine wp_of e217 c217_31 (rw_iload_n (pc' := 32) (z := a2) rfl rfl ?_)
      refine wp_of e217 c217_32 (rw_iadd (pc' := 33) rfl ?_)
      refine wp_of e217 c217_33 (xa_I (so := 0) (pc' := 34) w125872 g125923 sh_49 (by decide) (ty_49 _) (by omega) (by omega) rfl (fun b125924 b125925 => ?_))
      refine wp_of e217 c217_34 (rw_iload_n (pc' := 35) (z := a3) rfl rfl ?_)
      refine wp_of e217 c217_35 (xc_S (pc' := 38) (as := [vI (H125870 r125921 (((40 * a1) + a2).toNat)), vI a3]) (st := [.ref r0]) (lm_9_346) rfl rfl (Nat.le_of_ble_eq_true rfl) rfl (by decide) (s_205 w125872 ⟨by omega, by omega⟩ ⟨by omega, by omega⟩) (fun R125926 T125927 H125928 p125929 => ?_))
      obtain ⟨e125930, e125932, z125933, e125931, b125934⟩ := p125929
      subst e125930
      subst e125931
      subst e125932
      show wp _ _ 217 38 [(0, .ref r0), (1, vI a1), (2, vI a2), (3, vI a3)] [vI z125933, .ref r0] _ H125870 _
      refine wp_of e217 c217_38 (rw_if_eq (p1 := 45) (p2 := 41) (by decide) rfl ⟨by omega, by omega⟩ (fun c125935 => ?_) (fun c125935 => ?_))
      · refine wp_of e217 c217_45 (rw_iconst (pc' := 46) rfl ?_)
        refine wp_of e217 c217_46 (xc_V (pc' := 49) (r := r0) (as := [vI 0]) (st := []) (lm_9_58) rfl rfl (Nat.le_of_ble_eq_true rfl) w125872 g0 sh_42 (by decide) rfl (by decide) (s_209 w125872 g0 ⟨by omega, by omega⟩) (fun R125936 T125937 H125938 p125939 => ?_))
        obtain ⟨e125940, w125942, f125943, z125944, e125941, b125945⟩ := p125939
        subst e125940
        subst e125941
        have f125946 := f125873.tr f125943 rfl
        show wp _ _ 217 49 [(0, .ref r0), (1, vI a1), (2, vI a2), (3, vI a3)] [vI z125944] _ H125938 _
        refine wp_of e217 c217_49 (rw_goto (p1 := 57) (by decide) ?_)
        have k125947 : wKI H125938 r0 = wKI H r0 := ((wKI_fr w125872 g0 f125943 rfl).trans (wKI_fr hW g0 ((wfr.rf (l := [(42, 0)])).put' e125871 g0 rfl) rfl))
        exact wp_ireturn e217 c217_57 rfl ⟨rfl, w125942, f125946, z125944, rfl, ⟨by omega, by omega⟩, by omega⟩
      · refine wp_of e217 c217_41 (rw_iconst (pc' := 42) rfl ?_)
        refine wp_of e217 c217_42 (rw_goto (p1 := 46) (by decide) ?_)
        refine wp_of e217 c217_46 (xc_V (pc' := 49) (r := r0) (as := [vI 1]) (st := []) (lm_9_58) rfl rfl (Nat.le_of_ble_eq_true rfl) w125872 g0 sh_42 (by decide) rfl (by decide) (s_209 w125872 g0 ⟨by omega, by omega⟩) (fun R125948 T125949 H125950 p125951 => ?_))
        obtain ⟨e125952, w125954, f125955, z125956, e125953, b125957⟩ := p125951
        subst e125952
        subst e125953
        have f125958 := f125873.tr f125955 rfl
        show wp _ _ 217 49 [(0, .ref r0), (1, vI a1), (2, vI a2), (3, vI a3)] [vI z125956] _ H125950 _
        refine wp_of e217 c217_49 (rw_goto (p1 := 57) (by decide) ?_)
        have k125959 : wKI H125950 r0 = wKI H r0 := ((wKI_fr w125872 g0 f125955 rfl).trans (wKI_fr hW g0 ((wfr.rf (l := [(42, 0)])).put' e125871 g0 rfl) rfl))
        exact wp_ireturn e217 c217_57 rfl ⟨rfl, w125954, f125958, z125956, rfl, ⟨by omega, by omega⟩, by omega⟩
/-! StrikeAwakeModel.lotsMany()J -/
theorem e220 : wq_en 220 = some (9, 4, false, some FieldType.long) := rfl
theorem c220_0 : mc_cd 220 0 = some (.lconst 1, 1) := by decide +kernel
theorem c220_1 : mc_cd 220 1 = some (.lstore_n 1, 1) := by decide +kernel
theorem c220_2 : mc_cd 220 2 = some (.iconst 0, 1) := by decide +kernel
theorem c220_3 : mc_cd 220 3 = some (.istore_n 3, 1) := by decide +kernel
theorem c220_4 : mc_cd 220 4 = some (.iload_n 3, 1) := by decide +kernel
theorem c220_5 : mc_cd 220 5 = some (.aload_n 0, 1) := by decide +kernel
theorem c220_6 : mc_cd 220 6 = some (.getfield 337, 3) := by decide +kernel
theorem c220_9 : mc_cd 220 9 = some (.getfield 188, 3) := by decide +kernel
theorem c220_12 : mc_cd 220 12 = some (.if_icmp .ge 19, 3) := by decide +kernel
theorem c220_15 : mc_cd 220 15 = some (.lload_n 1, 1) := by decide +kernel
theorem c220_16 : mc_cd 220 16 = some (.aload_n 0, 1) := by decide +kernel
theorem c220_17 : mc_cd 220 17 = some (.getfield 21, 3) := by decide +kernel
theorem c220_20 : mc_cd 220 20 = some (.iload_n 3, 1) := by decide +kernel
theorem c220_21 : mc_cd 220 21 = some (.iaload, 1) := by decide +kernel
theorem c220_22 : mc_cd 220 22 = some (.i2l, 1) := by decide +kernel
theorem c220_23 : mc_cd 220 23 = some (.lmul, 1) := by decide +kernel
theorem c220_24 : mc_cd 220 24 = some (.lstore_n 1, 1) := by decide +kernel
theorem c220_25 : mc_cd 220 25 = some (.iinc 3 1, 3) := by decide +kernel
theorem c220_28 : mc_cd 220 28 = some (.goto (-24), 3) := by decide +kernel
theorem c220_31 : mc_cd 220 31 = some (.lload_n 1, 1) := by decide +kernel
theorem c220_32 : mc_cd 220 32 = some (.lreturn, 1) := by decide +kernel
abbrev q_220 (r0 : Nat) (pp : Nat) (T : wq_T) (H : wq_H) : Option Value → wq_T → wq_H → Prop := fun r T' H' => T = T' ∧ H = H' ∧ ∃ z : Int, some (vL z) = r ∧ (0 ≤ z ∧ z ≤ 4096000000) ∧ (z = wLM H r0)
set_option maxHeartbeats 4000000 in
theorem s_220 {kt : Nat → Option mc_E} {T : wq_T} {H : wq_H} {r0 : Nat} {pp : Nat} (hW : WT T H) (g0 : T.2.2.2 r0 = some 42) (qpp : H r0 3 = (pp : Int)) (gpp : T.2.2.2 pp = some 54) : wpc kt 1 220 [.ref r0] T H (q_220 r0 pp T H) := by
  refine wp_enter e220 (Nat.le_of_ble_eq_true rfl) rfl ?_
  show wp _ _ 220 0 [(0, .ref r0)] [] _ H _
  refine wp_of e220 c220_0 (rw_lconst (pc' := 1) (z := 1) rfl rfl ?_)
  refine wp_of e220 c220_1 (rw_lstore_n (pc' := 2) (z := 1) (L' := [(1, vL 1), (0, .ref r0)]) rfl rfl rfl ?_)
  refine wp_of e220 c220_2 (rw_iconst (pc' := 3) rfl ?_)
  refine wp_of e220 c220_3 (rw_istore_n (pc' := 4) (z := 0) (L' := [(3, vI 0), (1, vL 1), (0, .ref r0)]) rfl rfl rfl ?_)
  obtain ⟨r126140, q126141, g126142⟩ := hW.ref g0 (t' := 45) (n := 33) (j := 21) (p := 0) (q := 0) rfl (by decide) rfl
  have b126143 : 0 ≤ H pp 3 ∧ H pp 3 ≤ 6 := hW.box gpp (n := 27) rfl (by decide) rfl
  have lp126135 : ∀ (n126136 : Nat) (v126138 : Int) (v126139 : Int), (0 ≤ v126138 ∧ v126138 ≤ 6) → (0 ≤ v126139 ∧ v126139 ≤ 4096000000) → (v126138 ≤ H pp 3) → (v126139 = wpr (H r126140) (v126138).toNat) → (6 - v126138).toNat = n126136 → wp kt 0 220 4 [(3, vI v126138), (1, vL v126139), (0, .ref r0)] [] T H (q_220 r0 pp T H) := by
    intro n126136
    induction n126136 using Nat.strongRecOn with
    | _ n126136 ih126137 =>
      intro v126138 v126139 b126146 b126147 x126148 x126149 m126150
      have hx : H pp 3 = v126138 → v126139 = wLM H r0 := fun q => by
        rw [wLM_eq qpp q126141, q]
        assumption
      have hb := (wpr_b (f := H r126140) (fun j hj => hW.box g126142 (n := 6) rfl hj rfl) (v126138).toNat (by omega)).2
      have hc := w40 (n := (v126138).toNat) (by omega)
      refine wp_of e220 c220_4 (rw_iload_n (pc' := 5) (z := v126138) rfl rfl ?_)
      refine wp_of e220 c220_5 (rw_aload_n (pc' := 6) (v := .ref r0) rfl rfl rfl ?_)
      refine wp_of e220 c220_6 (xg_K (pc' := 9) lf_9_337 hW g0 sh_42 (by decide) (by decide) rfl qpp rfl ?_)
      refine wp_of e220 c220_9 (xg_I (pc' := 12) lf_9_188 hW gpp sh_54 (by decide) (by decide) ty_54_3 rfl rfl (fun b126151 b126152 => ?_))
      refine wp_of e220 c220_12 (rw_icmp_ge (p1 := 31) (p2 := 15) (by decide) rfl ⟨by omega, by omega⟩ ⟨by omega, by omega⟩ (fun c126153 => ?_) (fun c126153 => ?_))
      · refine wp_of e220 c220_31 (rw_lload_n (pc' := 32) (z := v126139) rfl rfl ?_)
        exact wp_lreturn e220 c220_32 rfl ⟨rfl, rfl, v126139, rfl, ⟨by omega, by omega⟩, by omega⟩
      · refine wp_of e220 c220_15 (rw_lload_n (pc' := 16) (z := v126139) rfl rfl ?_)
        refine wp_of e220 c220_16 (rw_aload_n (pc' := 17) (v := .ref r0) rfl rfl rfl ?_)
        refine wp_of e220 c220_17 (xg_K (pc' := 20) lf_9_21 hW g0 sh_42 (by decide) (by decide) rfl q126141 rfl ?_)
        refine wp_of e220 c220_20 (rw_iload_n (pc' := 21) (z := v126138) rfl rfl ?_)
        refine wp_of e220 c220_21 (xa_I (so := 0) (pc' := 22) hW g126142 sh_45 (by decide) (ty_45 _) (by omega) (by omega) rfl (fun b126154 b126155 => ?_))
        refine wp_of e220 c220_22 (rw_i2l (pc' := 23) rfl ⟨by omega, by omega⟩ ?_)
        refine wp_of e220 c220_23 (rw_lmul (pc' := 24) rfl ?_)
        obtain ⟨v126156, e126157⟩ : ∃ x : Int, x = v126139 * (H r126140 (v126138.toNat)) := ⟨_, rfl⟩
        rw [← e126157]
        have b126158 : 0 ≤ v126156 ∧ v126156 ≤ 163840000000 := by
          rw [e126157]
          exact wl_mul_b (a := 4096000000) (b := 40) ⟨by omega, by omega⟩ ⟨by omega, by omega⟩
        refine wp_of e220 c220_24 (rw_lstore_n (pc' := 25) (z := v126156) (L' := [(1, vL v126156), (3, vI v126138), (0, .ref r0)]) rfl rfl rfl ?_)
        refine wp_of e220 c220_25 (rw_iinc (pc' := 28) (z := v126138) (L' := [(3, vI (v126138 + 1)), (1, vL v126156), (0, .ref r0)]) rfl rfl rfl rfl ?_)
        refine wp_of e220 c220_28 (rw_goto (p1 := 4) (by decide) ?_)
        have hy : v126156 = wpr (H r126140) ((v126138 + 1)).toNat := wpr_s (by assumption) (by assumption) (by omega)
        have hz := (wpr_b (f := H r126140) (fun j hj => hW.box g126142 (n := 6) rfl hj rfl) ((v126138 + 1)).toNat (by omega)).2
        have hw := w40 (n := ((v126138 + 1)).toNat) (by omega)
        exact wp_lc (ks := [3, 1, 0]) (wl_c rfl (wl_c rfl (wl_c rfl wl_n))) rfl (by decide) (ih126137 _ (by omega) (v126138 + 1) v126156 ⟨by omega, by omega⟩ ⟨by omega, by omega⟩ (by omega) (by assumption) rfl)
  exact wp_lc (ks := [3, 1, 0]) (wl_c rfl (wl_c rfl (wl_c rfl wl_n))) rfl (by decide) (lp126135 _ 0 1 ⟨by omega, by omega⟩ ⟨by omega, by omega⟩ (by omega) (rfl) rfl)
/-! StrikeAwakeModel.doneLong(J)J -/
theorem e221 : wq_en 221 = some (9, 3, false, some FieldType.long) := rfl
theorem c221_0 : mc_cd 221 0 = some (.aload_n 0, 1) := by decide +kernel
theorem c221_1 : mc_cd 221 1 = some (.iconst 0, 1) := by decide +kernel
theorem c221_2 : mc_cd 221 2 = some (.invokevirtual 58, 3) := by decide +kernel
theorem c221_5 : mc_cd 221 5 = some (.pop, 1) := by decide +kernel
theorem c221_6 : mc_cd 221 6 = some (.lload_n 1, 1) := by decide +kernel
theorem c221_7 : mc_cd 221 7 = some (.lreturn, 1) := by decide +kernel
abbrev q_221 (r0 : Nat) (a1 : Int) (T : wq_T) (H : wq_H) : Option Value → wq_T → wq_H → Prop := fun r T' H' => T = T' ∧ WT T H' ∧ wfr [(42, 1), (42, 2)] T H H' ∧ ∃ z : Int, some (vL z) = r ∧ ((-9223372036854775808) ≤ z ∧ z ≤ 9223372036854775807)
set_option maxHeartbeats 4000000 in
theorem s_221 {kt : Nat → Option mc_E} {T : wq_T} {H : wq_H} {r0 : Nat} {a1 : Int} (hW : WT T H) (g0 : T.2.2.2 r0 = some 42) (i1 : (-9223372036854775808) ≤ a1 ∧ a1 ≤ 9223372036854775807) : wpc kt 2 221 [.ref r0, vL a1] T H (q_221 r0 a1 T H) := by
  refine wp_enter e221 (Nat.le_of_ble_eq_true rfl) rfl ?_
  have f0 : wfr [(42, 1), (42, 2)] T H H := wfr.rf
  show wp _ _ 221 0 [(0, .ref r0), (1, vL a1)] [] _ H _
  refine wp_of e221 c221_0 (rw_aload_n (pc' := 1) (v := .ref r0) rfl rfl rfl ?_)
  refine wp_of e221 c221_1 (rw_iconst (pc' := 2) rfl ?_)
  refine wp_of e221 c221_2 (xc_V (pc' := 5) (r := r0) (as := [vI 0]) (st := []) (lm_9_58) rfl rfl (Nat.le_of_ble_eq_true rfl) hW g0 sh_42 (by decide) rfl (by decide) (s_209 hW g0 ⟨by omega, by omega⟩) (fun R126170 T126171 H126172 p126173 => ?_))
  obtain ⟨e126174, w126176, f126177, z126178, e126175, b126179⟩ := p126173
  subst e126174
  subst e126175
  have f126180 := f0.tr f126177 rfl
  show wp _ _ 221 5 [(0, .ref r0), (1, vL a1)] [vI z126178] _ H126172 _
  refine wp_of e221 c221_5 (rw_pop (pc' := 6) rfl rfl ?_)
  refine wp_of e221 c221_6 (rw_lload_n (pc' := 7) (z := a1) rfl rfl ?_)
  exact wp_lreturn e221 c221_7 rfl ⟨rfl, w126176, f126180, a1, rfl, ⟨by omega, by omega⟩⟩
/-! StrikeAwakeModel.lots()J -/
theorem e219 : wq_en 219 = some (9, 1, false, some FieldType.long) := rfl
theorem c219_0 : mc_cd 219 0 = some (.aload_n 0, 1) := by decide +kernel
theorem c219_1 : mc_cd 219 1 = some (.iconst 0, 1) := by decide +kernel
theorem c219_2 : mc_cd 219 2 = some (.putfield 48, 3) := by decide +kernel
theorem c219_5 : mc_cd 219 5 = some (.aload_n 0, 1) := by decide +kernel
theorem c219_6 : mc_cd 219 6 = some (.getfield 337, 3) := by decide +kernel
theorem c219_9 : mc_cd 219 9 = some (.ifnonnull 12, 3) := by decide +kernel
theorem c219_12 : mc_cd 219 12 = some (.aload_n 0, 1) := by decide +kernel
theorem c219_13 : mc_cd 219 13 = some (.iconst 1, 1) := by decide +kernel
theorem c219_14 : mc_cd 219 14 = some (.invokevirtual 54, 3) := by decide +kernel
theorem c219_17 : mc_cd 219 17 = some (.i2l, 1) := by decide +kernel
theorem c219_18 : mc_cd 219 18 = some (.goto 11, 3) := by decide +kernel
theorem c219_21 : mc_cd 219 21 = some (.aload_n 0, 1) := by decide +kernel
theorem c219_22 : mc_cd 219 22 = some (.aload_n 0, 1) := by decide +kernel
theorem c219_23 : mc_cd 219 23 = some (.invokevirtual 376, 3) := by decide +kernel
theorem c219_26 : mc_cd 219 26 = some (.invokevirtual 380, 3) := by decide +kernel
theorem c219_29 : mc_cd 219 29 = some (.lreturn, 1) := by decide +kernel
abbrev q_219 (r0 : Nat) (T : wq_T) (H : wq_H) : Option Value → wq_T → wq_H → Prop := fun r T' H' => T = T' ∧ WT T H' ∧ wfr [(42, 0), (42, 1), (42, 2)] T H H' ∧ ∃ z : Int, some (vL z) = r ∧ ((-9223372036854775808) ≤ z ∧ z ≤ 9223372036854775807) ∧ (wKI H' r0 = 1)
set_option maxHeartbeats 4000000 in
theorem s_219 {kt : Nat → Option mc_E} {T : wq_T} {H : wq_H} {r0 : Nat} (hW : WT T H) (g0 : T.2.2.2 r0 = some 42) (p0 : wKI H r0 = 1) : wpc kt 3 219 [.ref r0] T H (q_219 r0 T H) := by
  refine wp_enter e219 (Nat.le_of_ble_eq_true rfl) rfl ?_
  have f0 : wfr [(42, 0), (42, 1), (42, 2)] T H H := wfr.rf
  show wp _ _ 219 0 [(0, .ref r0)] [] _ H _
  refine wp_of e219 c219_0 (rw_aload_n (pc' := 1) (v := .ref r0) rfl rfl rfl ?_)
  refine wp_of e219 c219_1 (rw_iconst (pc' := 2) rfl ?_)
  refine wp_of e219 c219_2 (xp_I (pc' := 5) lf_9_48 hW g0 sh_42 (by decide) (by decide) ty_42_0 rfl rfl (by omega) (by omega) ⟨by omega, by omega⟩ rfl (fun H126223 e126224 w126225 => ?_))
  have f126226 := f0.put' e126224 g0 rfl
  have k126227 : H126223 r0 0 = 0 := wq_u_s e126224
  refine wp_of e219 c219_5 (rw_aload_n (pc' := 6) (v := .ref r0) rfl rfl rfl ?_)
  refine wp_of e219 c219_6 (xg_O (pc' := 9) lf_9_337 w126225 g0 sh_42 (by decide) (by decide) ty_42_3 rfl rfl (fun q126229 => ?_) (fun r126228 q126229 g126230 => ?_))
  · refine wp_of e219 c219_9 (rw_ifnonnull_n (p1 := 21) (p2 := 12) (by decide) rfl ?_)
    refine wp_of e219 c219_12 (rw_aload_n (pc' := 13) (v := .ref r0) rfl rfl rfl ?_)
    refine wp_of e219 c219_13 (rw_iconst (pc' := 14) rfl ?_)
    refine wp_of e219 c219_14 (xc_V (pc' := 17) (r := r0) (as := [vI 1]) (st := []) (lm_9_54) rfl rfl (Nat.le_of_ble_eq_true rfl) w126225 g0 sh_42 (by decide) rfl (by decide) (s_170 w126225 g0 ⟨by omega, by omega⟩) (fun R126231 T126232 H126233 p126234 => ?_))
    obtain ⟨e126235, w126237, f126238, z126239, e126236, b126240⟩ := p126234
    subst e126235
    subst e126236
    have f126241 := f126226.tr f126238 rfl
    show wp _ _ 219 17 [(0, .ref r0)] [vI z126239] _ H126233 _
    refine wp_of e219 c219_17 (rw_i2l (pc' := 18) rfl ⟨by omega, by omega⟩ ?_)
    refine wp_of e219 c219_18 (rw_goto (p1 := 29) (by decide) ?_)
    have k126242 : wKI H126233 r0 = wKI H r0 := ((wKI_fr w126225 g0 f126238 rfl).trans (wKI_fr hW g0 ((wfr.rf (l := [(42, 0)])).put' e126224 g0 rfl) rfl))
    exact wp_lreturn e219 c219_29 rfl ⟨rfl, w126237, f126241, z126239, rfl, ⟨by omega, by omega⟩, by omega⟩
  · refine wp_of e219 c219_9 (rw_ifnonnull_r (p1 := 21) (p2 := 12) (by decide) rfl ?_)
    refine wp_of e219 c219_21 (rw_aload_n (pc' := 22) (v := .ref r0) rfl rfl rfl ?_)
    refine wp_of e219 c219_22 (rw_aload_n (pc' := 23) (v := .ref r0) rfl rfl rfl ?_)
    refine wp_of e219 c219_23 (xc_V (pc' := 26) (r := r0) (as := []) (st := [.ref r0]) (lm_9_376) rfl rfl (Nat.le_of_ble_eq_true rfl) w126225 g0 sh_42 (by decide) rfl (by decide) (s_220 w126225 g0 q126229 g126230) (fun R126243 T126244 H126245 p126246 => ?_))
    obtain ⟨e126247, e126249, z126251, e126248, b126252, p126250⟩ := p126246
    subst e126247
    subst e126248
    subst e126249
    show wp _ _ 219 26 [(0, .ref r0)] [vL z126251, .ref r0] _ H126223 _
    refine wp_of e219 c219_26 (xc_V (pc' := 29) (r := r0) (as := [vL z126251]) (st := []) (lm_9_380) rfl rfl (Nat.le_of_ble_eq_true rfl) w126225 g0 sh_42 (by decide) rfl (by decide) (s_221 w126225 g0 ⟨by omega, by omega⟩) (fun R126253 T126254 H126255 p126256 => ?_))
    obtain ⟨e126257, w126259, f126260, z126261, e126258, b126262⟩ := p126256
    subst e126257
    subst e126258
    have f126263 := f126226.tr f126260 rfl
    show wp _ _ 219 29 [(0, .ref r0)] [vL z126261] _ H126255 _
    have k126264 : wKI H126255 r0 = wKI H r0 := ((wKI_fr w126225 g0 f126260 rfl).trans (wKI_fr hW g0 ((wfr.rf (l := [(42, 0)])).put' e126224 g0 rfl) rfl))
    exact wp_lreturn e219 c219_29 rfl ⟨rfl, w126259, f126263, z126261, rfl, ⟨by omega, by omega⟩, by omega⟩
/-! StrikeAwakeModel.denied(I)Z -/
theorem e223 : wq_en 223 = some (9, 2, false, some FieldType.boolean) := rfl
theorem c223_0 : mc_cd 223 0 = some (.aload_n 0, 1) := by decide +kernel
theorem c223_1 : mc_cd 223 1 = some (.iload_n 1, 1) := by decide +kernel
theorem c223_2 : mc_cd 223 2 = some (.invokevirtual 54, 3) := by decide +kernel
theorem c223_5 : mc_cd 223 5 = some (.pop, 1) := by decide +kernel
theorem c223_6 : mc_cd 223 6 = some (.iconst 0, 1) := by decide +kernel
theorem c223_7 : mc_cd 223 7 = some (.ireturn, 1) := by decide +kernel
abbrev q_223 (r0 : Nat) (a1 : Int) (T : wq_T) (H : wq_H) : Option Value → wq_T → wq_H → Prop := fun r T' H' => T = T' ∧ WT T H' ∧ wfr [(42, 1), (42, 2)] T H H' ∧ ∃ z : Int, some (vI z) = r ∧ (0 ≤ z ∧ z ≤ 1)
set_option maxHeartbeats 4000000 in
theorem s_223 {kt : Nat → Option mc_E} {T : wq_T} {H : wq_H} {r0 : Nat} {a1 : Int} (hW : WT T H) (g0 : T.2.2.2 r0 = some 42) (i1 : (-2147483648) ≤ a1 ∧ a1 ≤ 2147483647) : wpc kt 2 223 [.ref r0, vI a1] T H (q_223 r0 a1 T H) := by
  refine wp_enter e223 (Nat.le_of_ble_eq_true rfl) rfl ?_
  have f0 : wfr [(42, 1), (42, 2)] T H H := wfr.rf
  show wp _ _ 223 0 [(0, .ref r0), (1, vI a1)] [] _ H _
  refine wp_of e223 c223_0 (rw_aload_n (pc' := 1) (v := .ref r0) rfl rfl rfl ?_)
  refine wp_of e223 c223_1 (rw_iload_n (pc' := 2) (z := a1) rfl rfl ?_)
  refine wp_of e223 c223_2 (xc_V (pc' := 5) (r := r0) (as := [vI a1]) (st := []) (lm_9_54) rfl rfl (Nat.le_of_ble_eq_true rfl) hW g0 sh_42 (by decide) rfl (by decide) (s_170 hW g0 ⟨by omega, by omega⟩) (fun R126276 T126277 H126278 p126279 => ?_))
  obtain ⟨e126280, w126282, f126283, z126284, e126281, b126285⟩ := p126279
  subst e126280
  subst e126281
  have f126286 := f0.tr f126283 rfl
  show wp _ _ 223 5 [(0, .ref r0), (1, vI a1)] [vI z126284] _ H126278 _
  refine wp_of e223 c223_5 (rw_pop (pc' := 6) rfl rfl ?_)
  refine wp_of e223 c223_6 (rw_iconst (pc' := 7) rfl ?_)
  exact wp_zreturn e223 c223_7 rfl (by omega) ⟨rfl, w126282, f126286, 0, rfl, ⟨by omega, by omega⟩⟩
/-! StrikeAwakeModel.granted()Z -/
theorem e224 : wq_en 224 = some (9, 1, false, some FieldType.boolean) := rfl
theorem c224_0 : mc_cd 224 0 = some (.aload_n 0, 1) := by decide +kernel
theorem c224_1 : mc_cd 224 1 = some (.iconst 0, 1) := by decide +kernel
theorem c224_2 : mc_cd 224 2 = some (.invokevirtual 58, 3) := by decide +kernel
theorem c224_5 : mc_cd 224 5 = some (.pop, 1) := by decide +kernel
theorem c224_6 : mc_cd 224 6 = some (.iconst 1, 1) := by decide +kernel
theorem c224_7 : mc_cd 224 7 = some (.ireturn, 1) := by decide +kernel
abbrev q_224 (r0 : Nat) (T : wq_T) (H : wq_H) : Option Value → wq_T → wq_H → Prop := fun r T' H' => T = T' ∧ WT T H' ∧ wfr [(42, 1), (42, 2)] T H H' ∧ ∃ z : Int, some (vI z) = r ∧ (0 ≤ z ∧ z ≤ 1)
set_option maxHeartbeats 4000000 in
theorem s_224 {kt : Nat → Option mc_E} {T : wq_T} {H : wq_H} {r0 : Nat} (hW : WT T H) (g0 : T.2.2.2 r0 = some 42) : wpc kt 2 224 [.ref r0] T H (q_224 r0 T H) := by
  refine wp_enter e224 (Nat.le_of_ble_eq_true rfl) rfl ?_
  have f0 : wfr [(42, 1), (42, 2)] T H H := wfr.rf
  show wp _ _ 224 0 [(0, .ref r0)] [] _ H _
  refine wp_of e224 c224_0 (rw_aload_n (pc' := 1) (v := .ref r0) rfl rfl rfl ?_)
  refine wp_of e224 c224_1 (rw_iconst (pc' := 2) rfl ?_)
  refine wp_of e224 c224_2 (xc_V (pc' := 5) (r := r0) (as := [vI 0]) (st := []) (lm_9_58) rfl rfl (Nat.le_of_ble_eq_true rfl) hW g0 sh_42 (by decide) rfl (by decide) (s_209 hW g0 ⟨by omega, by omega⟩) (fun R126298 T126299 H126300 p126301 => ?_))
  obtain ⟨e126302, w126304, f126305, z126306, e126303, b126307⟩ := p126301
  subst e126302
  subst e126303
  have f126308 := f0.tr f126305 rfl
  show wp _ _ 224 5 [(0, .ref r0)] [vI z126306] _ H126300 _
  refine wp_of e224 c224_5 (rw_pop (pc' := 6) rfl rfl ?_)
  refine wp_of e224 c224_6 (rw_iconst (pc' := 7) rfl ?_)
  exact wp_zreturn e224 c224_7 rfl (by omega) ⟨rfl, w126304, f126308, 1, rfl, ⟨by omega, by omega⟩⟩
/-! StrikeAwakeModel.say(II)Z -/
theorem e222 : wq_en 222 = some (9, 3, false, some FieldType.boolean) := rfl
theorem c222_0 : mc_cd 222 0 = some (.aload_n 0, 1) := by decide +kernel
theorem c222_1 : mc_cd 222 1 = some (.iconst 0, 1) := by decide +kernel
theorem c222_2 : mc_cd 222 2 = some (.putfield 48, 3) := by decide +kernel
theorem c222_5 : mc_cd 222 5 = some (.aload_n 0, 1) := by decide +kernel
theorem c222_6 : mc_cd 222 6 = some (.iload_n 1, 1) := by decide +kernel
theorem c222_7 : mc_cd 222 7 = some (.iload_n 2, 1) := by decide +kernel
theorem c222_8 : mc_cd 222 8 = some (.invokevirtual 367, 3) := by decide +kernel
theorem c222_11 : mc_cd 222 11 = some (.ifCond .ne 9, 3) := by decide +kernel
theorem c222_14 : mc_cd 222 14 = some (.aload_n 0, 1) := by decide +kernel
theorem c222_15 : mc_cd 222 15 = some (.iconst 1, 1) := by decide +kernel
theorem c222_16 : mc_cd 222 16 = some (.invokevirtual 400, 3) := by decide +kernel
theorem c222_19 : mc_cd 222 19 = some (.ireturn, 1) := by decide +kernel
theorem c222_20 : mc_cd 222 20 = some (.aload_n 0, 1) := by decide +kernel
theorem c222_21 : mc_cd 222 21 = some (.getfield 36, 3) := by decide +kernel
theorem c222_24 : mc_cd 222 24 = some (.iload_n 1, 1) := by decide +kernel
theorem c222_25 : mc_cd 222 25 = some (.iload_n 2, 1) := by decide +kernel
theorem c222_26 : mc_cd 222 26 = some (.iastore, 1) := by decide +kernel
theorem c222_27 : mc_cd 222 27 = some (.aload_n 0, 1) := by decide +kernel
theorem c222_28 : mc_cd 222 28 = some (.invokevirtual 403, 3) := by decide +kernel
theorem c222_31 : mc_cd 222 31 = some (.ireturn, 1) := by decide +kernel
abbrev q_222 (r0 : Nat) (a1 : Int) (a2 : Int) (T : wq_T) (H : wq_H) : Option Value → wq_T → wq_H → Prop := fun r T' H' => T = T' ∧ WT T H' ∧ wfr [(42, 0), (42, 1), (42, 2), (50, 999)] T H H' ∧ ∃ z : Int, some (vI z) = r ∧ (0 ≤ z ∧ z ≤ 1) ∧ (wKI H' r0 = 1)
set_option maxHeartbeats 4000000 in
theorem s_222 {kt : Nat → Option mc_E} {T : wq_T} {H : wq_H} {r0 : Nat} {a1 : Int} {a2 : Int} (hW : WT T H) (g0 : T.2.2.2 r0 = some 42) (i1 : (-2147483648) ≤ a1 ∧ a1 ≤ 2147483647) (i2 : (-2147483648) ≤ a2 ∧ a2 ≤ 2147483647) (p0 : wKI H r0 = 1) : wpc kt 3 222 [.ref r0, vI a1, vI a2] T H (q_222 r0 a1 a2 T H) := by
  refine wp_enter e222 (Nat.le_of_ble_eq_true rfl) rfl ?_
  have f0 : wfr [(42, 0), (42, 1), (42, 2), (50, 999)] T H H := wfr.rf
  show wp _ _ 222 0 [(0, .ref r0), (1, vI a1), (2, vI a2)] [] _ H _
  refine wp_of e222 c222_0 (rw_aload_n (pc' := 1) (v := .ref r0) rfl rfl rfl ?_)
  refine wp_of e222 c222_1 (rw_iconst (pc' := 2) rfl ?_)
  refine wp_of e222 c222_2 (xp_I (pc' := 5) lf_9_48 hW g0 sh_42 (by decide) (by decide) ty_42_0 rfl rfl (by omega) (by omega) ⟨by omega, by omega⟩ rfl (fun H126356 e126357 w126358 => ?_))
  have f126359 := f0.put' e126357 g0 rfl
  have k126360 : H126356 r0 0 = 0 := wq_u_s e126357
  refine wp_of e222 c222_5 (rw_aload_n (pc' := 6) (v := .ref r0) rfl rfl rfl ?_)
  refine wp_of e222 c222_6 (rw_iload_n (pc' := 7) (z := a1) rfl rfl ?_)
  refine wp_of e222 c222_7 (rw_iload_n (pc' := 8) (z := a2) rfl rfl ?_)
  refine wp_of e222 c222_8 (xc_V (pc' := 11) (r := r0) (as := [vI a1, vI a2]) (st := []) (lm_9_367) rfl rfl (Nat.le_of_ble_eq_true rfl) w126358 g0 sh_42 (by decide) rfl (by decide) (s_215 w126358 g0 ⟨by omega, by omega⟩ ⟨by omega, by omega⟩) (fun R126361 T126362 H126363 p126364 => ?_))
  obtain ⟨e126365, e126367, z126369, e126366, b126370, p126368⟩ := p126364
  subst e126365
  subst e126366
  subst e126367
  show wp _ _ 222 11 [(0, .ref r0), (1, vI a1), (2, vI a2)] [vI z126369] _ H126356 _
  refine wp_of e222 c222_11 (rw_if_ne (p1 := 20) (p2 := 14) (by decide) rfl ⟨by omega, by omega⟩ (fun c126371 => ?_) (fun c126371 => ?_))
  · refine wp_of e222 c222_20 (rw_aload_n (pc' := 21) (v := .ref r0) rfl rfl rfl ?_)
    refine wp_of e222 c222_21 (xg_R (pc' := 24) lf_9_36 w126358 g0 sh_42 (by decide) (by decide) ty_42_26 rfl rfl (fun r126372 q126373 g126374 => ?_))
    refine wp_of e222 c222_24 (rw_iload_n (pc' := 25) (z := a1) rfl rfl ?_)
    refine wp_of e222 c222_25 (rw_iload_n (pc' := 26) (z := a2) rfl rfl ?_)
    refine wp_of e222 c222_26 (xs_I (pc' := 27) w126358 g126374 (by decide) sh_50 (by decide) (ty_50 _) (by omega) (by omega) ⟨by omega, by omega⟩ (by omega) (by omega) rfl (fun H126375 e126376 w126377 => ?_))
    have f126378 := f126359.put' e126376 g126374 rfl
    refine wp_of e222 c222_27 (rw_aload_n (pc' := 28) (v := .ref r0) rfl rfl rfl ?_)
    refine wp_of e222 c222_28 (xc_V (pc' := 31) (r := r0) (as := []) (st := []) (lm_9_403) rfl rfl (Nat.le_of_ble_eq_true rfl) w126377 g0 sh_42 (by decide) rfl (by decide) (s_224 w126377 g0) (fun R126379 T126380 H126381 p126382 => ?_))
    obtain ⟨e126383, w126385, f126386, z126387, e126384, b126388⟩ := p126382
    subst e126383
    subst e126384
    have f126389 := f126378.tr f126386 rfl
    show wp _ _ 222 31 [(0, .ref r0), (1, vI a1), (2, vI a2)] [vI z126387] _ H126381 _
    have k126390 : wKI H126381 r0 = wKI H r0 := ((wKI_fr w126377 g0 f126386 rfl).trans ((wKI_fr w126358 g0 ((wfr.rf (l := [(50, 999)])).put' e126376 g126374 rfl) rfl).trans (wKI_fr hW g0 ((wfr.rf (l := [(42, 0)])).put' e126357 g0 rfl) rfl)))
    exact wp_zreturn e222 c222_31 rfl (by omega) ⟨rfl, w126385, f126389, z126387, rfl, ⟨by omega, by omega⟩, by omega⟩
  · refine wp_of e222 c222_14 (rw_aload_n (pc' := 15) (v := .ref r0) rfl rfl rfl ?_)
    refine wp_of e222 c222_15 (rw_iconst (pc' := 16) rfl ?_)
    refine wp_of e222 c222_16 (xc_V (pc' := 19) (r := r0) (as := [vI 1]) (st := []) (lm_9_400) rfl rfl (Nat.le_of_ble_eq_true rfl) w126358 g0 sh_42 (by decide) rfl (by decide) (s_223 w126358 g0 ⟨by omega, by omega⟩) (fun R126391 T126392 H126393 p126394 => ?_))
    obtain ⟨e126395, w126397, f126398, z126399, e126396, b126400⟩ := p126394
    subst e126395
    subst e126396
    have f126401 := f126359.tr f126398 rfl
    show wp _ _ 222 19 [(0, .ref r0), (1, vI a1), (2, vI a2)] [vI z126399] _ H126393 _
    have k126402 : wKI H126393 r0 = wKI H r0 := ((wKI_fr w126358 g0 f126398 rfl).trans (wKI_fr hW g0 ((wfr.rf (l := [(42, 0)])).put' e126357 g0 rfl) rfl))
    exact wp_zreturn e222 c222_19 rfl (by omega) ⟨rfl, w126397, f126401, z126399, rfl, ⟨by omega, by omega⟩, by omega⟩
/-! StrikeAwakeModel.said(I)I -/
theorem e225 : wq_en 225 = some (9, 2, false, some FieldType.int) := rfl
theorem c225_0 : mc_cd 225 0 = some (.aload_n 0, 1) := by decide +kernel
theorem c225_1 : mc_cd 225 1 = some (.iconst 0, 1) := by decide +kernel
theorem c225_2 : mc_cd 225 2 = some (.putfield 48, 3) := by decide +kernel
theorem c225_5 : mc_cd 225 5 = some (.aload_n 0, 1) := by decide +kernel
theorem c225_6 : mc_cd 225 6 = some (.iload_n 1, 1) := by decide +kernel
theorem c225_7 : mc_cd 225 7 = some (.invokevirtual 364, 3) := by decide +kernel
theorem c225_10 : mc_cd 225 10 = some (.ifCond .eq 25, 3) := by decide +kernel
theorem c225_13 : mc_cd 225 13 = some (.aload_n 0, 1) := by decide +kernel
theorem c225_14 : mc_cd 225 14 = some (.getfield 21, 3) := by decide +kernel
theorem c225_17 : mc_cd 225 17 = some (.iload_n 1, 1) := by decide +kernel
theorem c225_18 : mc_cd 225 18 = some (.iaload, 1) := by decide +kernel
theorem c225_19 : mc_cd 225 19 = some (.ifCond .le 16, 3) := by decide +kernel
theorem c225_22 : mc_cd 225 22 = some (.aload_n 0, 1) := by decide +kernel
theorem c225_23 : mc_cd 225 23 = some (.aload_n 0, 1) := by decide +kernel
theorem c225_24 : mc_cd 225 24 = some (.getfield 36, 3) := by decide +kernel
theorem c225_27 : mc_cd 225 27 = some (.iload_n 1, 1) := by decide +kernel
theorem c225_28 : mc_cd 225 28 = some (.iaload, 1) := by decide +kernel
theorem c225_29 : mc_cd 225 29 = some (.invokevirtual 58, 3) := by decide +kernel
theorem c225_32 : mc_cd 225 32 = some (.goto 8, 3) := by decide +kernel
theorem c225_35 : mc_cd 225 35 = some (.aload_n 0, 1) := by decide +kernel
theorem c225_36 : mc_cd 225 36 = some (.iconst 1, 1) := by decide +kernel
theorem c225_37 : mc_cd 225 37 = some (.invokevirtual 54, 3) := by decide +kernel
theorem c225_40 : mc_cd 225 40 = some (.ireturn, 1) := by decide +kernel
abbrev q_225 (r0 : Nat) (a1 : Int) (T : wq_T) (H : wq_H) : Option Value → wq_T → wq_H → Prop := fun r T' H' => T = T' ∧ WT T H' ∧ wfr [(42, 0), (42, 1), (42, 2)] T H H' ∧ ∃ z : Int, some (vI z) = r ∧ ((-2147483648) ≤ z ∧ z ≤ 2147483647) ∧ (wKI H' r0 = 1)
set_option maxHeartbeats 4000000 in
theorem s_225 {kt : Nat → Option mc_E} {T : wq_T} {H : wq_H} {r0 : Nat} {a1 : Int} (hW : WT T H) (g0 : T.2.2.2 r0 = some 42) (i1 : (-2147483648) ≤ a1 ∧ a1 ≤ 2147483647) (p0 : wKI H r0 = 1) : wpc kt 2 225 [.ref r0, vI a1] T H (q_225 r0 a1 T H) := by
  refine wp_enter e225 (Nat.le_of_ble_eq_true rfl) rfl ?_
  have f0 : wfr [(42, 0), (42, 1), (42, 2)] T H H := wfr.rf
  show wp _ _ 225 0 [(0, .ref r0), (1, vI a1)] [] _ H _
  refine wp_of e225 c225_0 (rw_aload_n (pc' := 1) (v := .ref r0) rfl rfl rfl ?_)
  refine wp_of e225 c225_1 (rw_iconst (pc' := 2) rfl ?_)
  refine wp_of e225 c225_2 (xp_I (pc' := 5) lf_9_48 hW g0 sh_42 (by decide) (by decide) ty_42_0 rfl rfl (by omega) (by omega) ⟨by omega, by omega⟩ rfl (fun H126466 e126467 w126468 => ?_))
  have f126469 := f0.put' e126467 g0 rfl
  have k126470 : H126466 r0 0 = 0 := wq_u_s e126467
  refine wp_of e225 c225_5 (rw_aload_n (pc' := 6) (v := .ref r0) rfl rfl rfl ?_)
  refine wp_of e225 c225_6 (rw_iload_n (pc' := 7) (z := a1) rfl rfl ?_)
  refine wp_of e225 c225_7 (xc_V (pc' := 10) (r := r0) (as := [vI a1]) (st := []) (lm_9_364) rfl rfl (Nat.le_of_ble_eq_true rfl) w126468 g0 sh_42 (by decide) rfl (by decide) (s_213 w126468 g0 ⟨by omega, by omega⟩) (fun R126471 T126472 H126473 p126474 => ?_))
  obtain ⟨e126475, e126477, z126479, e126476, b126480, p126478⟩ := p126474
  subst e126475
  subst e126476
  subst e126477
  show wp _ _ 225 10 [(0, .ref r0), (1, vI a1)] [vI z126479] _ H126466 _
  refine wp_of e225 c225_10 (rw_if_eq (p1 := 35) (p2 := 13) (by decide) rfl ⟨by omega, by omega⟩ (fun c126481 => ?_) (fun c126481 => ?_))
  · refine wp_of e225 c225_35 (rw_aload_n (pc' := 36) (v := .ref r0) rfl rfl rfl ?_)
    refine wp_of e225 c225_36 (rw_iconst (pc' := 37) rfl ?_)
    refine wp_of e225 c225_37 (xc_V (pc' := 40) (r := r0) (as := [vI 1]) (st := []) (lm_9_54) rfl rfl (Nat.le_of_ble_eq_true rfl) w126468 g0 sh_42 (by decide) rfl (by decide) (s_170 w126468 g0 ⟨by omega, by omega⟩) (fun R126482 T126483 H126484 p126485 => ?_))
    obtain ⟨e126486, w126488, f126489, z126490, e126487, b126491⟩ := p126485
    subst e126486
    subst e126487
    have f126492 := f126469.tr f126489 rfl
    show wp _ _ 225 40 [(0, .ref r0), (1, vI a1)] [vI z126490] _ H126484 _
    have k126493 : wKI H126484 r0 = wKI H r0 := ((wKI_fr w126468 g0 f126489 rfl).trans (wKI_fr hW g0 ((wfr.rf (l := [(42, 0)])).put' e126467 g0 rfl) rfl))
    exact wp_ireturn e225 c225_40 rfl ⟨rfl, w126488, f126492, z126490, rfl, ⟨by omega, by omega⟩, by omega⟩
  · refine wp_of e225 c225_13 (rw_aload_n (pc' := 14) (v := .ref r0) rfl rfl rfl ?_)
    refine wp_of e225 c225_14 (xg_R (pc' := 17) lf_9_21 w126468 g0 sh_42 (by decide) (by decide) ty_42_21 rfl rfl (fun r126494 q126495 g126496 => ?_))
    refine wp_of e225 c225_17 (rw_iload_n (pc' := 18) (z := a1) rfl rfl ?_)
    refine wp_of e225 c225_18 (xa_I (so := 0) (pc' := 19) w126468 g126496 sh_45 (by decide) (ty_45 _) (by omega) (by omega) rfl (fun b126497 b126498 => ?_))
    refine wp_of e225 c225_19 (rw_if_le (p1 := 35) (p2 := 22) (by decide) rfl ⟨by omega, by omega⟩ (fun c126499 => ?_) (fun c126499 => ?_))
    · refine wp_of e225 c225_35 (rw_aload_n (pc' := 36) (v := .ref r0) rfl rfl rfl ?_)
      refine wp_of e225 c225_36 (rw_iconst (pc' := 37) rfl ?_)
      refine wp_of e225 c225_37 (xc_V (pc' := 40) (r := r0) (as := [vI 1]) (st := []) (lm_9_54) rfl rfl (Nat.le_of_ble_eq_true rfl) w126468 g0 sh_42 (by decide) rfl (by decide) (s_170 w126468 g0 ⟨by omega, by omega⟩) (fun R126500 T126501 H126502 p126503 => ?_))
      obtain ⟨e126504, w126506, f126507, z126508, e126505, b126509⟩ := p126503
      subst e126504
      subst e126505
      have f126510 := f126469.tr f126507 rfl
      show wp _ _ 225 40 [(0, .ref r0), (1, vI a1)] [vI z126508] _ H126502 _
      have k126511 : wKI H126502 r0 = wKI H r0 := ((wKI_fr w126468 g0 f126507 rfl).trans (wKI_fr hW g0 ((wfr.rf (l := [(42, 0)])).put' e126467 g0 rfl) rfl))
      exact wp_ireturn e225 c225_40 rfl ⟨rfl, w126506, f126510, z126508, rfl, ⟨by omega, by omega⟩, by omega⟩
    · refine wp_of e225 c225_22 (rw_aload_n (pc' := 23) (v := .ref r0) rfl rfl rfl ?_)
      refine wp_of e225 c225_23 (rw_aload_n (pc' := 24) (v := .ref r0) rfl rfl rfl ?_)
      refine wp_of e225 c225_24 (xg_R (pc' := 27) lf_9_36 w126468 g0 sh_42 (by decide) (by decide) ty_42_26 rfl rfl (fun r126512 q126513 g126514 => ?_))
      refine wp_of e225 c225_27 (rw_iload_n (pc' := 28) (z := a1) rfl rfl ?_)
      refine wp_of e225 c225_28 (xa_I (so := 0) (pc' := 29) w126468 g126514 sh_50 (by decide) (ty_50 _) (by omega) (by omega) rfl (fun b126515 b126516 => ?_))
      refine wp_of e225 c225_29 (xc_V (pc' := 32) (r := r0) (as := [vI (H126466 r126512 (a1.toNat))]) (st := []) (lm_9_58) rfl rfl (Nat.le_of_ble_eq_true rfl) w126468 g0 sh_42 (by decide) rfl (by decide) (s_209 w126468 g0 ⟨by omega, by omega⟩) (fun R126517 T126518 H126519 p126520 => ?_))
      obtain ⟨e126521, w126523, f126524, z126525, e126522, b126526⟩ := p126520
      subst e126521
      subst e126522
      have f126527 := f126469.tr f126524 rfl
      show wp _ _ 225 32 [(0, .ref r0), (1, vI a1)] [vI z126525] _ H126519 _
      refine wp_of e225 c225_32 (rw_goto (p1 := 40) (by decide) ?_)
      have k126528 : wKI H126519 r0 = wKI H r0 := ((wKI_fr w126468 g0 f126524 rfl).trans (wKI_fr hW g0 ((wfr.rf (l := [(42, 0)])).put' e126467 g0 rfl) rfl))
      exact wp_ireturn e225 c225_40 rfl ⟨rfl, w126523, f126527, z126525, rfl, ⟨by omega, by omega⟩, by omega⟩
/-! StrikeAwakeModel.isEmpty()Z -/
theorem e227 : wq_en 227 = some (9, 1, false, some FieldType.boolean) := rfl
theorem c227_0 : mc_cd 227 0 = some (.aload_n 0, 1) := by decide +kernel
theorem c227_1 : mc_cd 227 1 = some (.invokevirtual 376, 3) := by decide +kernel
theorem c227_4 : mc_cd 227 4 = some (.lconst 0, 1) := by decide +kernel
theorem c227_5 : mc_cd 227 5 = some (.lcmp, 1) := by decide +kernel
theorem c227_6 : mc_cd 227 6 = some (.ifCond .ne 7, 3) := by decide +kernel
theorem c227_9 : mc_cd 227 9 = some (.iconst 1, 1) := by decide +kernel
theorem c227_10 : mc_cd 227 10 = some (.goto 4, 3) := by decide +kernel
theorem c227_13 : mc_cd 227 13 = some (.iconst 0, 1) := by decide +kernel
theorem c227_14 : mc_cd 227 14 = some (.ireturn, 1) := by decide +kernel
abbrev q_227 (r0 : Nat) (pp : Nat) (T : wq_T) (H : wq_H) : Option Value → wq_T → wq_H → Prop := fun r T' H' => T = T' ∧ H = H' ∧ ∃ z : Int, some (vI z) = r ∧ (0 ≤ z ∧ z ≤ 1)
set_option maxHeartbeats 4000000 in
theorem s_227 {kt : Nat → Option mc_E} {T : wq_T} {H : wq_H} {r0 : Nat} {pp : Nat} (hW : WT T H) (g0 : T.2.2.2 r0 = some 42) (qpp : H r0 3 = (pp : Int)) (gpp : T.2.2.2 pp = some 54) : wpc kt 2 227 [.ref r0] T H (q_227 r0 pp T H) := by
  refine wp_enter e227 (Nat.le_of_ble_eq_true rfl) rfl ?_
  show wp _ _ 227 0 [(0, .ref r0)] [] _ H _
  refine wp_of e227 c227_0 (rw_aload_n (pc' := 1) (v := .ref r0) rfl rfl rfl ?_)
  refine wp_of e227 c227_1 (xc_V (pc' := 4) (r := r0) (as := []) (st := []) (lm_9_376) rfl rfl (Nat.le_of_ble_eq_true rfl) hW g0 sh_42 (by decide) rfl (by decide) (s_220 hW g0 qpp gpp) (fun R126541 T126542 H126543 p126544 => ?_))
  obtain ⟨e126545, e126547, z126549, e126546, b126550, p126548⟩ := p126544
  subst e126545
  subst e126546
  subst e126547
  show wp _ _ 227 4 [(0, .ref r0)] [vL z126549] _ H _
  refine wp_of e227 c227_4 (rw_lconst (pc' := 5) (z := 0) rfl rfl ?_)
  refine wp_of e227 c227_5 (rw_lcmp (pc' := 6) rfl ⟨by omega, by omega⟩ ⟨by omega, by omega⟩ ?_)
  have b126551 := wq_cmp_b z126549 0
  refine wp_of e227 c227_6 (rw_if_ne (p1 := 13) (p2 := 9) (by decide) rfl ⟨by omega, by omega⟩ (fun c126552 => ?_) (fun c126552 => ?_))
  · refine wp_of e227 c227_13 (rw_iconst (pc' := 14) rfl ?_)
    exact wp_zreturn e227 c227_14 rfl (by omega) ⟨rfl, rfl, 0, rfl, ⟨by omega, by omega⟩⟩
  · refine wp_of e227 c227_9 (rw_iconst (pc' := 10) rfl ?_)
    refine wp_of e227 c227_10 (rw_goto (p1 := 14) (by decide) ?_)
    exact wp_zreturn e227 c227_14 rfl (by omega) ⟨rfl, rfl, 1, rfl, ⟨by omega, by omega⟩⟩
/-! StrikeAwakeModel.born(I)I -/
theorem e229 : wq_en 229 = some (9, 4, false, some FieldType.int) := rfl
theorem c229_0 : mc_cd 229 0 = some (.iconst 0, 1) := by decide +kernel
theorem c229_1 : mc_cd 229 1 = some (.istore_n 2, 1) := by decide +kernel
theorem c229_2 : mc_cd 229 2 = some (.iconst 0, 1) := by decide +kernel
theorem c229_3 : mc_cd 229 3 = some (.istore_n 3, 1) := by decide +kernel
theorem c229_4 : mc_cd 229 4 = some (.iload_n 3, 1) := by decide +kernel
theorem c229_5 : mc_cd 229 5 = some (.aload_n 0, 1) := by decide +kernel
theorem c229_6 : mc_cd 229 6 = some (.getfield 337, 3) := by decide +kernel
theorem c229_9 : mc_cd 229 9 = some (.getfield 288, 3) := by decide +kernel
theorem c229_12 : mc_cd 229 12 = some (.if_icmp .ge 30, 3) := by decide +kernel
theorem c229_15 : mc_cd 229 15 = some (.iload_n 2, 1) := by decide +kernel
theorem c229_16 : mc_cd 229 16 = some (.aload_n 0, 1) := by decide +kernel
theorem c229_17 : mc_cd 229 17 = some (.getfield 337, 3) := by decide +kernel
theorem c229_20 : mc_cd 229 20 = some (.getfield 291, 3) := by decide +kernel
theorem c229_23 : mc_cd 229 23 = some (.iload_n 3, 1) := by decide +kernel
theorem c229_24 : mc_cd 229 24 = some (.iaload, 1) := by decide +kernel
theorem c229_25 : mc_cd 229 25 = some (.iload_n 1, 1) := by decide +kernel
theorem c229_26 : mc_cd 229 26 = some (.if_icmp .gt 7, 3) := by decide +kernel
theorem c229_29 : mc_cd 229 29 = some (.iconst 1, 1) := by decide +kernel
theorem c229_30 : mc_cd 229 30 = some (.goto 4, 3) := by decide +kernel
theorem c229_33 : mc_cd 229 33 = some (.iconst 0, 1) := by decide +kernel
theorem c229_34 : mc_cd 229 34 = some (.iadd, 1) := by decide +kernel
theorem c229_35 : mc_cd 229 35 = some (.istore_n 2, 1) := by decide +kernel
theorem c229_36 : mc_cd 229 36 = some (.iinc 3 1, 3) := by decide +kernel
theorem c229_39 : mc_cd 229 39 = some (.goto (-35), 3) := by decide +kernel
theorem c229_42 : mc_cd 229 42 = some (.iload_n 2, 1) := by decide +kernel
theorem c229_43 : mc_cd 229 43 = some (.ireturn, 1) := by decide +kernel
abbrev q_229 (r0 : Nat) (a1 : Int) (pp : Nat) (T : wq_T) (H : wq_H) : Option Value → wq_T → wq_H → Prop := fun r T' H' => T = T' ∧ H = H' ∧ ∃ z : Int, some (vI z) = r ∧ ((-2147483648) ≤ z ∧ z ≤ 2147483647)
set_option maxHeartbeats 4000000 in
theorem s_229 {kt : Nat → Option mc_E} {T : wq_T} {H : wq_H} {r0 : Nat} {a1 : Int} {pp : Nat} (hW : WT T H) (g0 : T.2.2.2 r0 = some 42) (i1 : (-2147483648) ≤ a1 ∧ a1 ≤ 2147483647) (qpp : H r0 3 = (pp : Int)) (gpp : T.2.2.2 pp = some 54) : wpc kt 1 229 [.ref r0, vI a1] T H (q_229 r0 a1 pp T H) := by
  refine wp_enter e229 (Nat.le_of_ble_eq_true rfl) rfl ?_
  show wp _ _ 229 0 [(0, .ref r0), (1, vI a1)] [] _ H _
  refine wp_of e229 c229_0 (rw_iconst (pc' := 1) rfl ?_)
  refine wp_of e229 c229_1 (rw_istore_n (pc' := 2) (z := 0) (L' := [(2, vI 0), (0, .ref r0), (1, vI a1)]) rfl rfl rfl ?_)
  refine wp_of e229 c229_2 (rw_iconst (pc' := 3) rfl ?_)
  refine wp_of e229 c229_3 (rw_istore_n (pc' := 4) (z := 0) (L' := [(3, vI 0), (2, vI 0), (0, .ref r0), (1, vI a1)]) rfl rfl rfl ?_)
  have lp126771 : ∀ (n126772 : Nat) (v126774 : Int) (v126775 : Int), (0 ≤ v126774 ∧ v126774 ≤ 3) → ((-2147483648) ≤ v126775 ∧ v126775 ≤ 2147483647) → (3 - v126774).toNat = n126772 → wp kt 0 229 4 [(3, vI v126774), (2, vI v126775), (0, .ref r0), (1, vI a1)] [] T H (q_229 r0 a1 pp T H) := by
    intro n126772
    induction n126772 using Nat.strongRecOn with
    | _ n126772 ih126773 =>
      intro v126774 v126775 b126778 b126779 m126780
      refine wp_of e229 c229_4 (rw_iload_n (pc' := 5) (z := v126774) rfl rfl ?_)
      refine wp_of e229 c229_5 (rw_aload_n (pc' := 6) (v := .ref r0) rfl rfl rfl ?_)
      refine wp_of e229 c229_6 (xg_K (pc' := 9) lf_9_337 hW g0 sh_42 (by decide) (by decide) rfl qpp rfl ?_)
      refine wp_of e229 c229_9 (xg_I (pc' := 12) lf_9_288 hW gpp sh_54 (by decide) (by decide) ty_54_5 rfl rfl (fun b126781 b126782 => ?_))
      refine wp_of e229 c229_12 (rw_icmp_ge (p1 := 42) (p2 := 15) (by decide) rfl ⟨by omega, by omega⟩ ⟨by omega, by omega⟩ (fun c126783 => ?_) (fun c126783 => ?_))
      · refine wp_of e229 c229_42 (rw_iload_n (pc' := 43) (z := v126775) rfl rfl ?_)
        exact wp_ireturn e229 c229_43 rfl ⟨rfl, rfl, v126775, rfl, ⟨by omega, by omega⟩⟩
      · refine wp_of e229 c229_15 (rw_iload_n (pc' := 16) (z := v126775) rfl rfl ?_)
        refine wp_of e229 c229_16 (rw_aload_n (pc' := 17) (v := .ref r0) rfl rfl rfl ?_)
        refine wp_of e229 c229_17 (xg_K (pc' := 20) lf_9_337 hW g0 sh_42 (by decide) (by decide) rfl qpp rfl ?_)
        refine wp_of e229 c229_20 (xg_R (pc' := 23) lf_9_291 hW gpp sh_54 (by decide) (by decide) ty_54_20 rfl rfl (fun r126784 q126785 g126786 => ?_))
        refine wp_of e229 c229_23 (rw_iload_n (pc' := 24) (z := v126774) rfl rfl ?_)
        refine wp_of e229 c229_24 (xa_I (so := 0) (pc' := 25) hW g126786 sh_66 (by decide) (ty_66 _) (by omega) (by omega) rfl (fun b126787 b126788 => ?_))
        refine wp_of e229 c229_25 (rw_iload_n (pc' := 26) (z := a1) rfl rfl ?_)
        refine wp_of e229 c229_26 (rw_icmp_gt (p1 := 33) (p2 := 29) (by decide) rfl ⟨by omega, by omega⟩ ⟨by omega, by omega⟩ (fun c126789 => ?_) (fun c126789 => ?_))
        · refine wp_of e229 c229_33 (rw_iconst (pc' := 34) rfl ?_)
          refine wp_of e229 c229_34 (rw_iadd (pc' := 35) rfl ?_)
          refine wp_of e229 c229_35 (rw_istore_n (pc' := 36) (z := v126775 + 0) (L' := [(2, vI (v126775 + 0)), (3, vI v126774), (0, .ref r0), (1, vI a1)]) rfl rfl rfl ?_)
          refine wp_of e229 c229_36 (rw_iinc (pc' := 39) (z := v126774) (L' := [(3, vI (v126774 + 1)), (2, vI (v126775 + 0)), (0, .ref r0), (1, vI a1)]) rfl rfl rfl rfl ?_)
          refine wp_of e229 c229_39 (rw_goto (p1 := 4) (by decide) ?_)
          exact wp_lc (ks := [3, 2, 0, 1]) (wl_c rfl (wl_c rfl (wl_c rfl (wl_c rfl wl_n)))) rfl (by decide) (ih126773 _ (by omega) (v126774 + 1) (v126775 + 0) ⟨by omega, by omega⟩ ⟨by omega, by omega⟩ rfl)
        · refine wp_of e229 c229_29 (rw_iconst (pc' := 30) rfl ?_)
          refine wp_of e229 c229_30 (rw_goto (p1 := 34) (by decide) ?_)
          refine wp_of e229 c229_34 (rw_iaddw (pc' := 35) rfl ?_)
          obtain ⟨v126790, e126791⟩ : ∃ x : Int, x = wq_w (v126775 + 1) := ⟨_, rfl⟩
          rw [← e126791]
          have b126792 : -2147483648 ≤ v126790 ∧ v126790 ≤ 2147483647 := by
            rw [e126791]
            exact wI_w _
          refine wp_of e229 c229_35 (rw_istore_n (pc' := 36) (z := v126790) (L' := [(2, vI v126790), (3, vI v126774), (0, .ref r0), (1, vI a1)]) rfl rfl rfl ?_)
          refine wp_of e229 c229_36 (rw_iinc (pc' := 39) (z := v126774) (L' := [(3, vI (v126774 + 1)), (2, vI v126790), (0, .ref r0), (1, vI a1)]) rfl rfl rfl rfl ?_)
          refine wp_of e229 c229_39 (rw_goto (p1 := 4) (by decide) ?_)
          exact wp_lc (ks := [3, 2, 0, 1]) (wl_c rfl (wl_c rfl (wl_c rfl (wl_c rfl wl_n)))) rfl (by decide) (ih126773 _ (by omega) (v126774 + 1) v126790 ⟨by omega, by omega⟩ ⟨by omega, by omega⟩ rfl)
  exact wp_lc (ks := [3, 2, 0, 1]) (wl_c rfl (wl_c rfl (wl_c rfl (wl_c rfl wl_n)))) rfl (by decide) (lp126771 _ 0 0 ⟨by omega, by omega⟩ ⟨by omega, by omega⟩ rfl)
/-! StrikeAwakeModel.strikesIn([II)I -/
theorem e228 : wq_en 228 = some (9, 5, false, some FieldType.int) := rfl
theorem c228_0 : mc_cd 228 0 = some (.aload_n 0, 1) := by decide +kernel
theorem c228_1 : mc_cd 228 1 = some (.iload_n 2, 1) := by decide +kernel
theorem c228_2 : mc_cd 228 2 = some (.invokevirtual 384, 3) := by decide +kernel
theorem c228_5 : mc_cd 228 5 = some (.istore_n 3, 1) := by decide +kernel
theorem c228_6 : mc_cd 228 6 = some (.iconst 0, 1) := by decide +kernel
theorem c228_7 : mc_cd 228 7 = some (.istore 4, 2) := by decide +kernel
theorem c228_9 : mc_cd 228 9 = some (.iload 4, 2) := by decide +kernel
theorem c228_11 : mc_cd 228 11 = some (.aload_n 0, 1) := by decide +kernel
theorem c228_12 : mc_cd 228 12 = some (.getfield 337, 3) := by decide +kernel
theorem c228_15 : mc_cd 228 15 = some (.getfield 188, 3) := by decide +kernel
theorem c228_18 : mc_cd 228 18 = some (.if_icmp .ge 39, 3) := by decide +kernel
theorem c228_21 : mc_cd 228 21 = some (.iload_n 3, 1) := by decide +kernel
theorem c228_22 : mc_cd 228 22 = some (.aload_n 0, 1) := by decide +kernel
theorem c228_23 : mc_cd 228 23 = some (.getfield 33, 3) := by decide +kernel
theorem c228_26 : mc_cd 228 26 = some (.bipush 40, 2) := by decide +kernel
theorem c228_28 : mc_cd 228 28 = some (.iload 4, 2) := by decide +kernel
theorem c228_30 : mc_cd 228 30 = some (.imul, 1) := by decide +kernel
theorem c228_31 : mc_cd 228 31 = some (.aload_n 1, 1) := by decide +kernel
theorem c228_32 : mc_cd 228 32 = some (.iload 4, 2) := by decide +kernel
theorem c228_34 : mc_cd 228 34 = some (.iaload, 1) := by decide +kernel
theorem c228_35 : mc_cd 228 35 = some (.iadd, 1) := by decide +kernel
theorem c228_36 : mc_cd 228 36 = some (.iaload, 1) := by decide +kernel
theorem c228_37 : mc_cd 228 37 = some (.iload_n 2, 1) := by decide +kernel
theorem c228_38 : mc_cd 228 38 = some (.invokestatic 346, 3) := by decide +kernel
theorem c228_41 : mc_cd 228 41 = some (.ifCond .eq 7, 3) := by decide +kernel
theorem c228_44 : mc_cd 228 44 = some (.iconst 1, 1) := by decide +kernel
theorem c228_45 : mc_cd 228 45 = some (.goto 4, 3) := by decide +kernel
theorem c228_48 : mc_cd 228 48 = some (.iconst 0, 1) := by decide +kernel
theorem c228_49 : mc_cd 228 49 = some (.iadd, 1) := by decide +kernel
theorem c228_50 : mc_cd 228 50 = some (.istore_n 3, 1) := by decide +kernel
theorem c228_51 : mc_cd 228 51 = some (.iinc 4 1, 3) := by decide +kernel
theorem c228_54 : mc_cd 228 54 = some (.goto (-45), 3) := by decide +kernel
theorem c228_57 : mc_cd 228 57 = some (.iload_n 3, 1) := by decide +kernel
theorem c228_58 : mc_cd 228 58 = some (.ireturn, 1) := by decide +kernel
abbrev q_228_m_lot (r0 : Nat) (r1 : Nat) (a2 : Int) (pp : Nat) (T : wq_T) (H : wq_H) : Option Value → wq_T → wq_H → Prop := fun r T' H' => T = T' ∧ H = H' ∧ ∃ z : Int, some (vI z) = r ∧ ((-2147483648) ≤ z ∧ z ≤ 2147483647)
set_option maxHeartbeats 4000000 in
theorem s_228_m_lot {kt : Nat → Option mc_E} {T : wq_T} {H : wq_H} {r0 : Nat} {r1 : Nat} {a2 : Int} {pp : Nat} (hW : WT T H) (g0 : T.2.2.2 r0 = some 42) (g1 : T.2.2.2 r1 = some 51) (i2 : (-2147483648) ≤ a2 ∧ a2 ≤ 2147483647) (qpp : H r0 3 = (pp : Int)) (gpp : T.2.2.2 pp = some 54) : wpc kt 2 228 [.ref r0, .ref r1, vI a2] T H (q_228_m_lot r0 r1 a2 pp T H) := by
  refine wp_enter e228 (Nat.le_of_ble_eq_true rfl) rfl ?_
  show wp _ _ 228 0 [(0, .ref r0), (1, .ref r1), (2, vI a2)] [] _ H _
  refine wp_of e228 c228_0 (rw_aload_n (pc' := 1) (v := .ref r0) rfl rfl rfl ?_)
  refine wp_of e228 c228_1 (rw_iload_n (pc' := 2) (z := a2) rfl rfl ?_)
  refine wp_of e228 c228_2 (xc_V (pc' := 5) (r := r0) (as := [vI a2]) (st := []) (lm_9_384) rfl rfl (Nat.le_of_ble_eq_true rfl) hW g0 sh_42 (by decide) rfl (by decide) (s_229 hW g0 ⟨by omega, by omega⟩ qpp gpp) (fun R126993 T126994 H126995 p126996 => ?_))
  obtain ⟨e126997, e126999, z127000, e126998, b127001⟩ := p126996
  subst e126997
  subst e126998
  subst e126999
  show wp _ _ 228 5 [(0, .ref r0), (1, .ref r1), (2, vI a2)] [vI z127000] _ H _
  refine wp_of e228 c228_5 (rw_istore_n (pc' := 6) (z := z127000) (L' := [(3, vI z127000), (0, .ref r0), (1, .ref r1), (2, vI a2)]) rfl rfl rfl ?_)
  refine wp_of e228 c228_6 (rw_iconst (pc' := 7) rfl ?_)
  refine wp_of e228 c228_7 (rw_istore (pc' := 9) (z := 0) (L' := [(4, vI 0), (3, vI z127000), (0, .ref r0), (1, .ref r1), (2, vI a2)]) rfl rfl rfl ?_)
  have lp127170 : ∀ (n127171 : Nat) (v127173 : Int) (v127174 : Int), (0 ≤ v127173 ∧ v127173 ≤ 6) → ((-2147483648) ≤ v127174 ∧ v127174 ≤ 2147483647) → (6 - v127173).toNat = n127171 → wp kt 1 228 9 [(4, vI v127173), (3, vI v127174), (0, .ref r0), (1, .ref r1), (2, vI a2)] [] T H (q_228_m_lot r0 r1 a2 pp T H) := by
    intro n127171
    induction n127171 using Nat.strongRecOn with
    | _ n127171 ih127172 =>
      intro v127173 v127174 b127177 b127178 m127179
      refine wp_of e228 c228_9 (rw_iload (pc' := 11) (z := v127173) rfl rfl ?_)
      refine wp_of e228 c228_11 (rw_aload_n (pc' := 12) (v := .ref r0) rfl rfl rfl ?_)
      refine wp_of e228 c228_12 (xg_K (pc' := 15) lf_9_337 hW g0 sh_42 (by decide) (by decide) rfl qpp rfl ?_)
      refine wp_of e228 c228_15 (xg_I (pc' := 18) lf_9_188 hW gpp sh_54 (by decide) (by decide) ty_54_3 rfl rfl (fun b127180 b127181 => ?_))
      refine wp_of e228 c228_18 (rw_icmp_ge (p1 := 57) (p2 := 21) (by decide) rfl ⟨by omega, by omega⟩ ⟨by omega, by omega⟩ (fun c127182 => ?_) (fun c127182 => ?_))
      · refine wp_of e228 c228_57 (rw_iload_n (pc' := 58) (z := v127174) rfl rfl ?_)
        exact wp_ireturn e228 c228_58 rfl ⟨rfl, rfl, v127174, rfl, ⟨by omega, by omega⟩⟩
      · refine wp_of e228 c228_21 (rw_iload_n (pc' := 22) (z := v127174) rfl rfl ?_)
        refine wp_of e228 c228_22 (rw_aload_n (pc' := 23) (v := .ref r0) rfl rfl rfl ?_)
        refine wp_of e228 c228_23 (xg_R (pc' := 26) lf_9_33 hW g0 sh_42 (by decide) (by decide) ty_42_25 rfl rfl (fun r127183 q127184 g127185 => ?_))
        refine wp_of e228 c228_26 (rw_bipush (pc' := 28) (z := 40) rfl (by decide) ?_)
        refine wp_of e228 c228_28 (rw_iload (pc' := 30) (z := v127173) rfl rfl ?_)
        refine wp_of e228 c228_30 (rw_imul (pc' := 31) rfl ?_)
        refine wp_of e228 c228_31 (rw_aload_n (pc' := 32) (v := .ref r1) rfl rfl rfl ?_)
        refine wp_of e228 c228_32 (rw_iload (pc' := 34) (z := v127173) rfl rfl ?_)
        refine wp_of e228 c228_34 (xa_I (so := 0) (pc' := 35) hW g1 sh_51 (by decide) (ty_51 _) (by omega) (by omega) rfl (fun b127186 b127187 => ?_))
        refine wp_of e228 c228_35 (rw_iadd (pc' := 36) rfl ?_)
        refine wp_of e228 c228_36 (xa_I (so := 0) (pc' := 37) hW g127185 sh_49 (by decide) (ty_49 _) (by omega) (by omega) rfl (fun b127188 b127189 => ?_))
        refine wp_of e228 c228_37 (rw_iload_n (pc' := 38) (z := a2) rfl rfl ?_)
        refine wp_of e228 c228_38 (xc_S (pc' := 41) (as := [vI (H r127183 (((40 * v127173) + (H r1 (v127173.toNat))).toNat)), vI a2]) (st := [vI v127174]) (lm_9_346) rfl rfl (Nat.le_of_ble_eq_true rfl) rfl (by decide) (s_205 hW ⟨by omega, by omega⟩ ⟨by omega, by omega⟩) (fun R127190 T127191 H127192 p127193 => ?_))
        obtain ⟨e127194, e127196, z127197, e127195, b127198⟩ := p127193
        subst e127194
        subst e127195
        subst e127196
        show wp _ _ 228 41 [(4, vI v127173), (3, vI v127174), (0, .ref r0), (1, .ref r1), (2, vI a2)] [vI z127197, vI v127174] _ H _
        refine wp_of e228 c228_41 (rw_if_eq (p1 := 48) (p2 := 44) (by decide) rfl ⟨by omega, by omega⟩ (fun c127199 => ?_) (fun c127199 => ?_))
        · refine wp_of e228 c228_48 (rw_iconst (pc' := 49) rfl ?_)
          refine wp_of e228 c228_49 (rw_iadd (pc' := 50) rfl ?_)
          refine wp_of e228 c228_50 (rw_istore_n (pc' := 51) (z := v127174 + 0) (L' := [(3, vI (v127174 + 0)), (4, vI v127173), (0, .ref r0), (1, .ref r1), (2, vI a2)]) rfl rfl rfl ?_)
          refine wp_of e228 c228_51 (rw_iinc (pc' := 54) (z := v127173) (L' := [(4, vI (v127173 + 1)), (3, vI (v127174 + 0)), (0, .ref r0), (1, .ref r1), (2, vI a2)]) rfl rfl rfl rfl ?_)
          refine wp_of e228 c228_54 (rw_goto (p1 := 9) (by decide) ?_)
          exact wp_lc (ks := [4, 3, 0, 1, 2]) (wl_c rfl (wl_c rfl (wl_c rfl (wl_c rfl (wl_c rfl wl_n))))) rfl (by decide) (ih127172 _ (by omega) (v127173 + 1) (v127174 + 0) ⟨by omega, by omega⟩ ⟨by omega, by omega⟩ rfl)
        · refine wp_of e228 c228_44 (rw_iconst (pc' := 45) rfl ?_)
          refine wp_of e228 c228_45 (rw_goto (p1 := 49) (by decide) ?_)
          refine wp_of e228 c228_49 (rw_iaddw (pc' := 50) rfl ?_)
          obtain ⟨v127200, e127201⟩ : ∃ x : Int, x = wq_w (v127174 + 1) := ⟨_, rfl⟩
          rw [← e127201]
          have b127202 : -2147483648 ≤ v127200 ∧ v127200 ≤ 2147483647 := by
            rw [e127201]
            exact wI_w _
          refine wp_of e228 c228_50 (rw_istore_n (pc' := 51) (z := v127200) (L' := [(3, vI v127200), (4, vI v127173), (0, .ref r0), (1, .ref r1), (2, vI a2)]) rfl rfl rfl ?_)
          refine wp_of e228 c228_51 (rw_iinc (pc' := 54) (z := v127173) (L' := [(4, vI (v127173 + 1)), (3, vI v127200), (0, .ref r0), (1, .ref r1), (2, vI a2)]) rfl rfl rfl rfl ?_)
          refine wp_of e228 c228_54 (rw_goto (p1 := 9) (by decide) ?_)
          exact wp_lc (ks := [4, 3, 0, 1, 2]) (wl_c rfl (wl_c rfl (wl_c rfl (wl_c rfl (wl_c rfl wl_n))))) rfl (by decide) (ih127172 _ (by omega) (v127173 + 1) v127200 ⟨by omega, by omega⟩ ⟨by omega, by omega⟩ rfl)
  exact wp_lc (ks := [4, 3, 0, 1, 2]) (wl_c rfl (wl_c rfl (wl_c rfl (wl_c rfl (wl_c rfl wl_n))))) rfl (by decide) (lp127170 _ 0 z127000 ⟨by omega, by omega⟩ ⟨by omega, by omega⟩ rfl)

/-! StrikeAwakeModel.strikesIn([II)I -/
abbrev q_228_m_said (r0 : Nat) (r1 : Nat) (a2 : Int) (pp : Nat) (T : wq_T) (H : wq_H) : Option Value → wq_T → wq_H → Prop := fun r T' H' => T = T' ∧ H = H' ∧ ∃ z : Int, some (vI z) = r ∧ ((-2147483648) ≤ z ∧ z ≤ 2147483647)
set_option maxHeartbeats 4000000 in
theorem s_228_m_said {kt : Nat → Option mc_E} {T : wq_T} {H : wq_H} {r0 : Nat} {r1 : Nat} {a2 : Int} {pp : Nat} (hW : WT T H) (g0 : T.2.2.2 r0 = some 42) (g1 : T.2.2.2 r1 = some 50) (i2 : (-2147483648) ≤ a2 ∧ a2 ≤ 2147483647) (qpp : H r0 3 = (pp : Int)) (gpp : T.2.2.2 pp = some 54) : wpc kt 2 228 [.ref r0, .ref r1, vI a2] T H (q_228_m_said r0 r1 a2 pp T H) := by
  refine wp_enter e228 (Nat.le_of_ble_eq_true rfl) rfl ?_
  show wp _ _ 228 0 [(0, .ref r0), (1, .ref r1), (2, vI a2)] [] _ H _
  refine wp_of e228 c228_0 (rw_aload_n (pc' := 1) (v := .ref r0) rfl rfl rfl ?_)
  refine wp_of e228 c228_1 (rw_iload_n (pc' := 2) (z := a2) rfl rfl ?_)
  refine wp_of e228 c228_2 (xc_V (pc' := 5) (r := r0) (as := [vI a2]) (st := []) (lm_9_384) rfl rfl (Nat.le_of_ble_eq_true rfl) hW g0 sh_42 (by decide) rfl (by decide) (s_229 hW g0 ⟨by omega, by omega⟩ qpp gpp) (fun R127403 T127404 H127405 p127406 => ?_))
  obtain ⟨e127407, e127409, z127410, e127408, b127411⟩ := p127406
  subst e127407
  subst e127408
  subst e127409
  show wp _ _ 228 5 [(0, .ref r0), (1, .ref r1), (2, vI a2)] [vI z127410] _ H _
  refine wp_of e228 c228_5 (rw_istore_n (pc' := 6) (z := z127410) (L' := [(3, vI z127410), (0, .ref r0), (1, .ref r1), (2, vI a2)]) rfl rfl rfl ?_)
  refine wp_of e228 c228_6 (rw_iconst (pc' := 7) rfl ?_)
  refine wp_of e228 c228_7 (rw_istore (pc' := 9) (z := 0) (L' := [(4, vI 0), (3, vI z127410), (0, .ref r0), (1, .ref r1), (2, vI a2)]) rfl rfl rfl ?_)
  have lp127580 : ∀ (n127581 : Nat) (v127583 : Int) (v127584 : Int), (0 ≤ v127583 ∧ v127583 ≤ 6) → ((-2147483648) ≤ v127584 ∧ v127584 ≤ 2147483647) → (6 - v127583).toNat = n127581 → wp kt 1 228 9 [(4, vI v127583), (3, vI v127584), (0, .ref r0), (1, .ref r1), (2, vI a2)] [] T H (q_228_m_said r0 r1 a2 pp T H) := by
    intro n127581
    induction n127581 using Nat.strongRecOn with
    | _ n127581 ih127582 =>
      intro v127583 v127584 b127587 b127588 m127589
      refine wp_of e228 c228_9 (rw_iload (pc' := 11) (z := v127583) rfl rfl ?_)
      refine wp_of e228 c228_11 (rw_aload_n (pc' := 12) (v := .ref r0) rfl rfl rfl ?_)
      refine wp_of e228 c228_12 (xg_K (pc' := 15) lf_9_337 hW g0 sh_42 (by decide) (by decide) rfl qpp rfl ?_)
      refine wp_of e228 c228_15 (xg_I (pc' := 18) lf_9_188 hW gpp sh_54 (by decide) (by decide) ty_54_3 rfl rfl (fun b127590 b127591 => ?_))
      refine wp_of e228 c228_18 (rw_icmp_ge (p1 := 57) (p2 := 21) (by decide) rfl ⟨by omega, by omega⟩ ⟨by omega, by omega⟩ (fun c127592 => ?_) (fun c127592 => ?_))
      · refine wp_of e228 c228_57 (rw_iload_n (pc' := 58) (z := v127584) rfl rfl ?_)
        exact wp_ireturn e228 c228_58 rfl ⟨rfl, rfl, v127584, rfl, ⟨by omega, by omega⟩⟩
      · refine wp_of e228 c228_21 (rw_iload_n (pc' := 22) (z := v127584) rfl rfl ?_)
        refine wp_of e228 c228_22 (rw_aload_n (pc' := 23) (v := .ref r0) rfl rfl rfl ?_)
        refine wp_of e228 c228_23 (xg_R (pc' := 26) lf_9_33 hW g0 sh_42 (by decide) (by decide) ty_42_25 rfl rfl (fun r127593 q127594 g127595 => ?_))
        refine wp_of e228 c228_26 (rw_bipush (pc' := 28) (z := 40) rfl (by decide) ?_)
        refine wp_of e228 c228_28 (rw_iload (pc' := 30) (z := v127583) rfl rfl ?_)
        refine wp_of e228 c228_30 (rw_imul (pc' := 31) rfl ?_)
        refine wp_of e228 c228_31 (rw_aload_n (pc' := 32) (v := .ref r1) rfl rfl rfl ?_)
        refine wp_of e228 c228_32 (rw_iload (pc' := 34) (z := v127583) rfl rfl ?_)
        refine wp_of e228 c228_34 (xa_I (so := 0) (pc' := 35) hW g1 sh_50 (by decide) (ty_50 _) (by omega) (by omega) rfl (fun b127596 b127597 => ?_))
        refine wp_of e228 c228_35 (rw_iadd (pc' := 36) rfl ?_)
        refine wp_of e228 c228_36 (xa_I (so := 0) (pc' := 37) hW g127595 sh_49 (by decide) (ty_49 _) (by omega) (by omega) rfl (fun b127598 b127599 => ?_))
        refine wp_of e228 c228_37 (rw_iload_n (pc' := 38) (z := a2) rfl rfl ?_)
        refine wp_of e228 c228_38 (xc_S (pc' := 41) (as := [vI (H r127593 (((40 * v127583) + (H r1 (v127583.toNat))).toNat)), vI a2]) (st := [vI v127584]) (lm_9_346) rfl rfl (Nat.le_of_ble_eq_true rfl) rfl (by decide) (s_205 hW ⟨by omega, by omega⟩ ⟨by omega, by omega⟩) (fun R127600 T127601 H127602 p127603 => ?_))
        obtain ⟨e127604, e127606, z127607, e127605, b127608⟩ := p127603
        subst e127604
        subst e127605
        subst e127606
        show wp _ _ 228 41 [(4, vI v127583), (3, vI v127584), (0, .ref r0), (1, .ref r1), (2, vI a2)] [vI z127607, vI v127584] _ H _
        refine wp_of e228 c228_41 (rw_if_eq (p1 := 48) (p2 := 44) (by decide) rfl ⟨by omega, by omega⟩ (fun c127609 => ?_) (fun c127609 => ?_))
        · refine wp_of e228 c228_48 (rw_iconst (pc' := 49) rfl ?_)
          refine wp_of e228 c228_49 (rw_iadd (pc' := 50) rfl ?_)
          refine wp_of e228 c228_50 (rw_istore_n (pc' := 51) (z := v127584 + 0) (L' := [(3, vI (v127584 + 0)), (4, vI v127583), (0, .ref r0), (1, .ref r1), (2, vI a2)]) rfl rfl rfl ?_)
          refine wp_of e228 c228_51 (rw_iinc (pc' := 54) (z := v127583) (L' := [(4, vI (v127583 + 1)), (3, vI (v127584 + 0)), (0, .ref r0), (1, .ref r1), (2, vI a2)]) rfl rfl rfl rfl ?_)
          refine wp_of e228 c228_54 (rw_goto (p1 := 9) (by decide) ?_)
          exact wp_lc (ks := [4, 3, 0, 1, 2]) (wl_c rfl (wl_c rfl (wl_c rfl (wl_c rfl (wl_c rfl wl_n))))) rfl (by decide) (ih127582 _ (by omega) (v127583 + 1) (v127584 + 0) ⟨by omega, by omega⟩ ⟨by omega, by omega⟩ rfl)
        · refine wp_of e228 c228_44 (rw_iconst (pc' := 45) rfl ?_)
          refine wp_of e228 c228_45 (rw_goto (p1 := 49) (by decide) ?_)
          refine wp_of e228 c228_49 (rw_iaddw (pc' := 50) rfl ?_)
          obtain ⟨v127610, e127611⟩ : ∃ x : Int, x = wq_w (v127584 + 1) := ⟨_, rfl⟩
          rw [← e127611]
          have b127612 : -2147483648 ≤ v127610 ∧ v127610 ≤ 2147483647 := by
            rw [e127611]
            exact wI_w _
          refine wp_of e228 c228_50 (rw_istore_n (pc' := 51) (z := v127610) (L' := [(3, vI v127610), (4, vI v127583), (0, .ref r0), (1, .ref r1), (2, vI a2)]) rfl rfl rfl ?_)
          refine wp_of e228 c228_51 (rw_iinc (pc' := 54) (z := v127583) (L' := [(4, vI (v127583 + 1)), (3, vI v127610), (0, .ref r0), (1, .ref r1), (2, vI a2)]) rfl rfl rfl rfl ?_)
          refine wp_of e228 c228_54 (rw_goto (p1 := 9) (by decide) ?_)
          exact wp_lc (ks := [4, 3, 0, 1, 2]) (wl_c rfl (wl_c rfl (wl_c rfl (wl_c rfl (wl_c rfl wl_n))))) rfl (by decide) (ih127582 _ (by omega) (v127583 + 1) v127610 ⟨by omega, by omega⟩ ⟨by omega, by omega⟩ rfl)
  exact wp_lc (ks := [4, 3, 0, 1, 2]) (wl_c rfl (wl_c rfl (wl_c rfl (wl_c rfl (wl_c rfl wl_n))))) rfl (by decide) (lp127580 _ 0 z127410 ⟨by omega, by omega⟩ ⟨by omega, by omega⟩ rfl)
