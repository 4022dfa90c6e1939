/-! methods of the reference (own work, written by wip/gen2/sx.py) -/
/-! StrikeAwakeModel.bed(IZ)I -/
theorem e263 : wq_en 263 = some (9, 4, false, some FieldType.int) := rfl
theorem c263_0 : mc_cd 263 0 = some (.aload_n 0, 1) := by decide +kernel
theorem c263_1 : mc_cd 263 1 = some (.iconst 0, 1) := by decide +kernel
theorem c263_2 : mc_cd 263 2 = some (.putfield 48, 3) := by decide +kernel
theorem c263_5 : mc_cd 263 5 = some (.aload_n 0, 1) := by decide +kernel
theorem c263_6 : mc_cd 263 6 = some (.aload_n 0, 1) := by decide +kernel
theorem c263_7 : mc_cd 263 7 = some (.iload_n 1, 1) := by decide +kernel
theorem c263_8 : mc_cd 263 8 = some (.invokevirtual 364, 3) := by decide +kernel
theorem c263_11 : mc_cd 263 11 = some (.invokevirtual 447, 3) := by decide +kernel
theorem c263_14 : mc_cd 263 14 = some (.istore_n 3, 1) := by decide +kernel
theorem c263_15 : mc_cd 263 15 = some (.iload_n 3, 1) := by decide +kernel
theorem c263_16 : mc_cd 263 16 = some (.ifCond .le 11, 3) := by decide +kernel
theorem c263_19 : mc_cd 263 19 = some (.aload_n 0, 1) := by decide +kernel
theorem c263_20 : mc_cd 263 20 = some (.iload_n 3, 1) := by decide +kernel
theorem c263_21 : mc_cd 263 21 = some (.invokevirtual 54, 3) := by decide +kernel
theorem c263_24 : mc_cd 263 24 = some (.goto 17, 3) := by decide +kernel
theorem c263_27 : mc_cd 263 27 = some (.aload_n 0, 1) := by decide +kernel
theorem c263_28 : mc_cd 263 28 = some (.aload_n 0, 1) := by decide +kernel
theorem c263_29 : mc_cd 263 29 = some (.iload_n 1, 1) := by decide +kernel
theorem c263_30 : mc_cd 263 30 = some (.aload_n 0, 1) := by decide +kernel
theorem c263_31 : mc_cd 263 31 = some (.getfield 24, 3) := by decide +kernel
theorem c263_34 : mc_cd 263 34 = some (.iload_n 2, 1) := by decide +kernel
theorem c263_35 : mc_cd 263 35 = some (.invokevirtual 458, 3) := by decide +kernel
theorem c263_38 : mc_cd 263 38 = some (.invokevirtual 58, 3) := by decide +kernel
theorem c263_41 : mc_cd 263 41 = some (.ireturn, 1) := by decide +kernel
abbrev q_263 (r0 : Nat) (a1 : Int) (a2 : Int) (T : wq_T) (H : wq_H) : Option Value → wq_T → wq_H → Prop := fun r T' H' => T = T' ∧ WT T H' ∧ wfr [(42, 0), (42, 1), (42, 2), (42, 28), (42, 29), (51, 999), (52, 999)] T H H' ∧ ∃ z : Int, some (vI z) = r ∧ ((-2147483648) ≤ z ∧ z ≤ 2147483647) ∧ (wKI H' r0 = 1) ∧ (H' r0 2 = -1)
set_option maxHeartbeats 4000000 in
theorem s_263 {kt : Nat → Option mc_E} {T : wq_T} {H : wq_H} {r0 : Nat} {a1 : Int} {a2 : Int} (hW : WT T H) (g0 : T.2.2.2 r0 = some 42) (i1 : (-2147483648) ≤ a1 ∧ a1 ≤ 2147483647) (i2 : 0 ≤ a2 ∧ a2 ≤ 1) (p0 : wKI H r0 = 1) : wpc kt 9 263 [.ref r0, vI a1, vI a2] T H (q_263 r0 a1 a2 T H) := by
  refine wp_enter e263 (Nat.le_of_ble_eq_true rfl) rfl ?_
  have f0 : wfr [(42, 0), (42, 1), (42, 2), (42, 28), (42, 29), (51, 999), (52, 999)] T H H := wfr.rf
  show wp _ _ 263 0 [(0, .ref r0), (1, vI a1), (2, vI a2)] [] _ H _
  refine wp_of e263 c263_0 (rw_aload_n (pc' := 1) (v := .ref r0) rfl rfl rfl ?_)
  refine wp_of e263 c263_1 (rw_iconst (pc' := 2) rfl ?_)
  refine wp_of e263 c263_2 (xp_I (pc' := 5) lf_9_48 hW g0 sh_42 (by decide) (by decide) ty_42_0 rfl rfl (by omega) (by omega) ⟨by omega, by omega⟩ rfl (fun H148421 e148422 w148423 => ?_))
  have f148424 := f0.put' e148422 g0 rfl
  have k148425 : H148421 r0 0 = 0 := wq_u_s e148422
  refine wp_of e263 c263_5 (rw_aload_n (pc' := 6) (v := .ref r0) rfl rfl rfl ?_)
  refine wp_of e263 c263_6 (rw_aload_n (pc' := 7) (v := .ref r0) rfl rfl rfl ?_)
  refine wp_of e263 c263_7 (rw_iload_n (pc' := 8) (z := a1) rfl rfl ?_)
  refine wp_of e263 c263_8 (xc_V (pc' := 11) (r := r0) (as := [vI a1]) (st := [.ref r0]) (lm_9_364) rfl rfl (Nat.le_of_ble_eq_true rfl) w148423 g0 sh_42 (by decide) rfl (by decide) (s_213 w148423 g0 ⟨by omega, by omega⟩) (fun R148426 T148427 H148428 p148429 => ?_))
  obtain ⟨e148430, e148432, z148434, e148431, b148435, p148433⟩ := p148429
  subst e148430
  subst e148431
  subst e148432
  show wp _ _ 263 11 [(0, .ref r0), (1, vI a1), (2, vI a2)] [vI z148434, .ref r0] _ H148421 _
  have k148436 : wKI H148421 r0 = wKI H r0 := (wKI_fr hW g0 ((wfr.rf (l := [(42, 0)])).put' e148422 g0 rfl) rfl)
  refine wp_of e263 c263_11 (xc_V (pc' := 14) (r := r0) (as := [vI z148434]) (st := []) (lm_9_447) rfl rfl (Nat.le_of_ble_eq_true rfl) w148423 g0 sh_42 (by decide) rfl (by decide) (s_253 w148423 g0 ⟨by omega, by omega⟩ (by omega) (by omega)) (fun R148437 T148438 H148439 p148440 => ?_))
  obtain ⟨e148441, w148443, f148444, z148449, e148442, b148450, p148445, p148446, p148447, p148448⟩ := p148440
  subst e148441
  subst e148442
  have f148451 := f148424.tr f148444 rfl
  show wp _ _ 263 14 [(0, .ref r0), (1, vI a1), (2, vI a2)] [vI z148449] _ H148439 _
  refine wp_of e263 c263_14 (rw_istore_n (pc' := 15) (z := z148449) (L' := [(3, vI z148449), (0, .ref r0), (1, vI a1), (2, vI a2)]) rfl rfl rfl ?_)
  refine wp_of e263 c263_15 (rw_iload_n (pc' := 16) (z := z148449) rfl rfl ?_)
  refine wp_of e263 c263_16 (rw_if_le (p1 := 27) (p2 := 19) (by decide) rfl ⟨by omega, by omega⟩ (fun c148452 => ?_) (fun c148452 => ?_))
  · refine wp_of e263 c263_27 (rw_aload_n (pc' := 28) (v := .ref r0) rfl rfl rfl ?_)
    refine wp_of e263 c263_28 (rw_aload_n (pc' := 29) (v := .ref r0) rfl rfl rfl ?_)
    refine wp_of e263 c263_29 (rw_iload_n (pc' := 30) (z := a1) rfl rfl ?_)
    refine wp_of e263 c263_30 (rw_aload_n (pc' := 31) (v := .ref r0) rfl rfl rfl ?_)
    refine wp_of e263 c263_31 (xg_R (pc' := 34) lf_9_24 w148443 g0 sh_42 (by decide) (by decide) ty_42_22 rfl rfl (fun r148453 q148454 g148455 => ?_))
    refine wp_of e263 c263_34 (rw_iload_n (pc' := 35) (z := a2) rfl rfl ?_)
    have k148456 : H148439 r0 3 = H148421 r0 3 := (f148444 r0 3 _ g0 rfl)
    obtain ⟨r148457, q148458, g148459⟩ := (w148443.opt g0 (t' := 54) (n := 33) (j := 3) (p := 0) (q := 0) rfl (by decide) rfl).resolve_left (by omega)
    refine wp_of e263 c263_35 (xc_V (pc' := 38) (r := r0) (as := [vI a1, .ref r148453, vI a2]) (st := [.ref r0]) (lm_9_458) rfl rfl (Nat.le_of_ble_eq_true rfl) w148443 g0 sh_42 (by decide) rfl (by decide) (s_264_m_bed w148443 g0 ⟨by omega, by omega⟩ g148455 ⟨by omega, by omega⟩ q148458 g148459 (by omega)) (fun R148460 T148461 H148462 p148463 => ?_))
    obtain ⟨e148464, w148466, f148467, z148468, e148465, b148469⟩ := p148463
    subst e148464
    subst e148465
    have f148470 := f148451.tr f148467 rfl
    show wp _ _ 263 38 [(3, vI z148449), (0, .ref r0), (1, vI a1), (2, vI a2)] [vI z148468, .ref r0] _ H148462 _
    refine wp_of e263 c263_38 (xc_V (pc' := 41) (r := r0) (as := [vI z148468]) (st := []) (lm_9_58) rfl rfl (Nat.le_of_ble_eq_true rfl) w148466 g0 sh_42 (by decide) rfl (by decide) (s_209 w148466 g0 ⟨by omega, by omega⟩) (fun R148471 T148472 H148473 p148474 => ?_))
    obtain ⟨e148475, w148477, f148478, z148480, e148476, b148481, p148479⟩ := p148474
    subst e148475
    subst e148476
    have f148482 := f148470.tr f148478 rfl
    show wp _ _ 263 41 [(3, vI z148449), (0, .ref r0), (1, vI a1), (2, vI a2)] [vI z148480] _ H148473 _
    have k148483 : wKI H148473 r0 = wKI H148439 r0 := ((wKI_fr w148466 g0 f148478 rfl).trans (wKI_fr w148443 g0 f148467 rfl))
    exact wp_ireturn e263 c263_41 rfl ⟨rfl, w148477, f148482, z148480, rfl, ⟨by omega, by omega⟩, by omega, by omega⟩
  · refine wp_of e263 c263_19 (rw_aload_n (pc' := 20) (v := .ref r0) rfl rfl rfl ?_)
    refine wp_of e263 c263_20 (rw_iload_n (pc' := 21) (z := z148449) rfl rfl ?_)
    refine wp_of e263 c263_21 (xc_V (pc' := 24) (r := r0) (as := [vI z148449]) (st := []) (lm_9_54) rfl rfl (Nat.le_of_ble_eq_true rfl) w148443 g0 sh_42 (by decide) rfl (by decide) (s_170 w148443 g0 ⟨by omega, by omega⟩) (fun R148484 T148485 H148486 p148487 => ?_))
    obtain ⟨e148488, w148490, f148491, z148493, e148489, b148494, p148492⟩ := p148487
    subst e148488
    subst e148489
    have f148495 := f148451.tr f148491 rfl
    show wp _ _ 263 24 [(3, vI z148449), (0, .ref r0), (1, vI a1), (2, vI a2)] [vI z148493] _ H148486 _
    refine wp_of e263 c263_24 (rw_goto (p1 := 41) (by decide) ?_)
    have k148496 : wKI H148486 r0 = wKI H148439 r0 := (wKI_fr w148443 g0 f148491 rfl)
    exact wp_ireturn e263 c263_41 rfl ⟨rfl, w148490, f148495, z148493, rfl, ⟨by omega, by omega⟩, by omega, by omega⟩
/-! StrikeAwakeModel.sleeps(IZ)I -/
theorem e265 : wq_en 265 = some (9, 4, false, some FieldType.int) := rfl
theorem c265_0 : mc_cd 265 0 = some (.aload_n 0, 1) := by decide +kernel
theorem c265_1 : mc_cd 265 1 = some (.iconst 0, 1) := by decide +kernel
theorem c265_2 : mc_cd 265 2 = some (.putfield 48, 3) := by decide +kernel
theorem c265_5 : mc_cd 265 5 = some (.aload_n 0, 1) := by decide +kernel
theorem c265_6 : mc_cd 265 6 = some (.aload_n 0, 1) := by decide +kernel
theorem c265_7 : mc_cd 265 7 = some (.iload_n 1, 1) := by decide +kernel
theorem c265_8 : mc_cd 265 8 = some (.invokevirtual 364, 3) := by decide +kernel
theorem c265_11 : mc_cd 265 11 = some (.invokevirtual 447, 3) := by decide +kernel
theorem c265_14 : mc_cd 265 14 = some (.istore_n 3, 1) := by decide +kernel
theorem c265_15 : mc_cd 265 15 = some (.iload_n 3, 1) := by decide +kernel
theorem c265_16 : mc_cd 265 16 = some (.ifCond .le 11, 3) := by decide +kernel
theorem c265_19 : mc_cd 265 19 = some (.aload_n 0, 1) := by decide +kernel
theorem c265_20 : mc_cd 265 20 = some (.iload_n 3, 1) := by decide +kernel
theorem c265_21 : mc_cd 265 21 = some (.invokevirtual 54, 3) := by decide +kernel
theorem c265_24 : mc_cd 265 24 = some (.goto 17, 3) := by decide +kernel
theorem c265_27 : mc_cd 265 27 = some (.aload_n 0, 1) := by decide +kernel
theorem c265_28 : mc_cd 265 28 = some (.aload_n 0, 1) := by decide +kernel
theorem c265_29 : mc_cd 265 29 = some (.iload_n 1, 1) := by decide +kernel
theorem c265_30 : mc_cd 265 30 = some (.aload_n 0, 1) := by decide +kernel
theorem c265_31 : mc_cd 265 31 = some (.getfield 27, 3) := by decide +kernel
theorem c265_34 : mc_cd 265 34 = some (.iload_n 2, 1) := by decide +kernel
theorem c265_35 : mc_cd 265 35 = some (.invokevirtual 458, 3) := by decide +kernel
theorem c265_38 : mc_cd 265 38 = some (.invokevirtual 58, 3) := by decide +kernel
theorem c265_41 : mc_cd 265 41 = some (.ireturn, 1) := by decide +kernel
abbrev q_265 (r0 : Nat) (a1 : Int) (a2 : Int) (T : wq_T) (H : wq_H) : Option Value → wq_T → wq_H → Prop := fun r T' H' => T = T' ∧ WT T H' ∧ wfr [(42, 0), (42, 1), (42, 2), (42, 28), (42, 29), (51, 999), (52, 999)] T H H' ∧ ∃ z : Int, some (vI z) = r ∧ ((-2147483648) ≤ z ∧ z ≤ 2147483647) ∧ (wKI H' r0 = 1) ∧ (H' r0 2 = -1)
set_option maxHeartbeats 4000000 in
theorem s_265 {kt : Nat → Option mc_E} {T : wq_T} {H : wq_H} {r0 : Nat} {a1 : Int} {a2 : Int} (hW : WT T H) (g0 : T.2.2.2 r0 = some 42) (i1 : (-2147483648) ≤ a1 ∧ a1 ≤ 2147483647) (i2 : 0 ≤ a2 ∧ a2 ≤ 1) (p0 : wKI H r0 = 1) : wpc kt 9 265 [.ref r0, vI a1, vI a2] T H (q_265 r0 a1 a2 T H) := by
  refine wp_enter e265 (Nat.le_of_ble_eq_true rfl) rfl ?_
  have f0 : wfr [(42, 0), (42, 1), (42, 2), (42, 28), (42, 29), (51, 999), (52, 999)] T H H := wfr.rf
  show wp _ _ 265 0 [(0, .ref r0), (1, vI a1), (2, vI a2)] [] _ H _
  refine wp_of e265 c265_0 (rw_aload_n (pc' := 1) (v := .ref r0) rfl rfl rfl ?_)
  refine wp_of e265 c265_1 (rw_iconst (pc' := 2) rfl ?_)
  refine wp_of e265 c265_2 (xp_I (pc' := 5) lf_9_48 hW g0 sh_42 (by decide) (by decide) ty_42_0 rfl rfl (by omega) (by omega) ⟨by omega, by omega⟩ rfl (fun H148573 e148574 w148575 => ?_))
  have f148576 := f0.put' e148574 g0 rfl
  have k148577 : H148573 r0 0 = 0 := wq_u_s e148574
  refine wp_of e265 c265_5 (rw_aload_n (pc' := 6) (v := .ref r0) rfl rfl rfl ?_)
  refine wp_of e265 c265_6 (rw_aload_n (pc' := 7) (v := .ref r0) rfl rfl rfl ?_)
  refine wp_of e265 c265_7 (rw_iload_n (pc' := 8) (z := a1) rfl rfl ?_)
  refine wp_of e265 c265_8 (xc_V (pc' := 11) (r := r0) (as := [vI a1]) (st := [.ref r0]) (lm_9_364) rfl rfl (Nat.le_of_ble_eq_true rfl) w148575 g0 sh_42 (by decide) rfl (by decide) (s_213 w148575 g0 ⟨by omega, by omega⟩) (fun R148578 T148579 H148580 p148581 => ?_))
  obtain ⟨e148582, e148584, z148586, e148583, b148587, p148585⟩ := p148581
  subst e148582
  subst e148583
  subst e148584
  show wp _ _ 265 11 [(0, .ref r0), (1, vI a1), (2, vI a2)] [vI z148586, .ref r0] _ H148573 _
  have k148588 : wKI H148573 r0 = wKI H r0 := (wKI_fr hW g0 ((wfr.rf (l := [(42, 0)])).put' e148574 g0 rfl) rfl)
  refine wp_of e265 c265_11 (xc_V (pc' := 14) (r := r0) (as := [vI z148586]) (st := []) (lm_9_447) rfl rfl (Nat.le_of_ble_eq_true rfl) w148575 g0 sh_42 (by decide) rfl (by decide) (s_253 w148575 g0 ⟨by omega, by omega⟩ (by omega) (by omega)) (fun R148589 T148590 H148591 p148592 => ?_))
  obtain ⟨e148593, w148595, f148596, z148601, e148594, b148602, p148597, p148598, p148599, p148600⟩ := p148592
  subst e148593
  subst e148594
  have f148603 := f148576.tr f148596 rfl
  show wp _ _ 265 14 [(0, .ref r0), (1, vI a1), (2, vI a2)] [vI z148601] _ H148591 _
  refine wp_of e265 c265_14 (rw_istore_n (pc' := 15) (z := z148601) (L' := [(3, vI z148601), (0, .ref r0), (1, vI a1), (2, vI a2)]) rfl rfl rfl ?_)
  refine wp_of e265 c265_15 (rw_iload_n (pc' := 16) (z := z148601) rfl rfl ?_)
  refine wp_of e265 c265_16 (rw_if_le (p1 := 27) (p2 := 19) (by decide) rfl ⟨by omega, by omega⟩ (fun c148604 => ?_) (fun c148604 => ?_))
  · refine wp_of e265 c265_27 (rw_aload_n (pc' := 28) (v := .ref r0) rfl rfl rfl ?_)
    refine wp_of e265 c265_28 (rw_aload_n (pc' := 29) (v := .ref r0) rfl rfl rfl ?_)
    refine wp_of e265 c265_29 (rw_iload_n (pc' := 30) (z := a1) rfl rfl ?_)
    refine wp_of e265 c265_30 (rw_aload_n (pc' := 31) (v := .ref r0) rfl rfl rfl ?_)
    refine wp_of e265 c265_31 (xg_R (pc' := 34) lf_9_27 w148595 g0 sh_42 (by decide) (by decide) ty_42_23 rfl rfl (fun r148605 q148606 g148607 => ?_))
    refine wp_of e265 c265_34 (rw_iload_n (pc' := 35) (z := a2) rfl rfl ?_)
    have k148608 : H148591 r0 3 = H148573 r0 3 := (f148596 r0 3 _ g0 rfl)
    obtain ⟨r148609, q148610, g148611⟩ := (w148595.opt g0 (t' := 54) (n := 33) (j := 3) (p := 0) (q := 0) rfl (by decide) rfl).resolve_left (by omega)
    refine wp_of e265 c265_35 (xc_V (pc' := 38) (r := r0) (as := [vI a1, .ref r148605, vI a2]) (st := [.ref r0]) (lm_9_458) rfl rfl (Nat.le_of_ble_eq_true rfl) w148595 g0 sh_42 (by decide) rfl (by decide) (s_264_m_length w148595 g0 ⟨by omega, by omega⟩ g148607 ⟨by omega, by omega⟩ q148610 g148611 (by omega)) (fun R148612 T148613 H148614 p148615 => ?_))
    obtain ⟨e148616, w148618, f148619, z148620, e148617, b148621⟩ := p148615
    subst e148616
    subst e148617
    have f148622 := f148603.tr f148619 rfl
    show wp _ _ 265 38 [(3, vI z148601), (0, .ref r0), (1, vI a1), (2, vI a2)] [vI z148620, .ref r0] _ H148614 _
    refine wp_of e265 c265_38 (xc_V (pc' := 41) (r := r0) (as := [vI z148620]) (st := []) (lm_9_58) rfl rfl (Nat.le_of_ble_eq_true rfl) w148618 g0 sh_42 (by decide) rfl (by decide) (s_209 w148618 g0 ⟨by omega, by omega⟩) (fun R148623 T148624 H148625 p148626 => ?_))
    obtain ⟨e148627, w148629, f148630, z148632, e148628, b148633, p148631⟩ := p148626
    subst e148627
    subst e148628
    have f148634 := f148622.tr f148630 rfl
    show wp _ _ 265 41 [(3, vI z148601), (0, .ref r0), (1, vI a1), (2, vI a2)] [vI z148632] _ H148625 _
    have k148635 : wKI H148625 r0 = wKI H148591 r0 := ((wKI_fr w148618 g0 f148630 rfl).trans (wKI_fr w148595 g0 f148619 rfl))
    exact wp_ireturn e265 c265_41 rfl ⟨rfl, w148629, f148634, z148632, rfl, ⟨by omega, by omega⟩, by omega, by omega⟩
  · refine wp_of e265 c265_19 (rw_aload_n (pc' := 20) (v := .ref r0) rfl rfl rfl ?_)
    refine wp_of e265 c265_20 (rw_iload_n (pc' := 21) (z := z148601) rfl rfl ?_)
    refine wp_of e265 c265_21 (xc_V (pc' := 24) (r := r0) (as := [vI z148601]) (st := []) (lm_9_54) rfl rfl (Nat.le_of_ble_eq_true rfl) w148595 g0 sh_42 (by decide) rfl (by decide) (s_170 w148595 g0 ⟨by omega, by omega⟩) (fun R148636 T148637 H148638 p148639 => ?_))
    obtain ⟨e148640, w148642, f148643, z148645, e148641, b148646, p148644⟩ := p148639
    subst e148640
    subst e148641
    have f148647 := f148603.tr f148643 rfl
    show wp _ _ 265 24 [(3, vI z148601), (0, .ref r0), (1, vI a1), (2, vI a2)] [vI z148645] _ H148638 _
    refine wp_of e265 c265_24 (rw_goto (p1 := 41) (by decide) ?_)
    have k148648 : wKI H148638 r0 = wKI H148591 r0 := (wKI_fr w148595 g0 f148643 rfl)
    exact wp_ireturn e265 c265_41 rfl ⟨rfl, w148642, f148647, z148645, rfl, ⟨by omega, by omega⟩, by omega, by omega⟩
/-! StrikeAwakeModel.refusesAsking(Z)I -/
theorem e267 : wq_en 267 = some (9, 3, false, some FieldType.int) := rfl
theorem c267_0 : mc_cd 267 0 = some (.aload_n 0, 1) := by decide +kernel
theorem c267_1 : mc_cd 267 1 = some (.iload_n 1, 1) := by decide +kernel
theorem c267_2 : mc_cd 267 2 = some (.invokevirtual 447, 3) := by decide +kernel
theorem c267_5 : mc_cd 267 5 = some (.istore_n 2, 1) := by decide +kernel
theorem c267_6 : mc_cd 267 6 = some (.iload_n 2, 1) := by decide +kernel
theorem c267_7 : mc_cd 267 7 = some (.ifCond .ne 17, 3) := by decide +kernel
theorem c267_10 : mc_cd 267 10 = some (.aload_n 0, 1) := by decide +kernel
theorem c267_11 : mc_cd 267 11 = some (.getfield 422, 3) := by decide +kernel
theorem c267_14 : mc_cd 267 14 = some (.sipush 400, 3) := by decide +kernel
theorem c267_17 : mc_cd 267 17 = some (.if_icmp .le 7, 3) := by decide +kernel
theorem c267_20 : mc_cd 267 20 = some (.iconst 3, 1) := by decide +kernel
theorem c267_21 : mc_cd 267 21 = some (.goto 4, 3) := by decide +kernel
theorem c267_24 : mc_cd 267 24 = some (.iload_n 2, 1) := by decide +kernel
theorem c267_25 : mc_cd 267 25 = some (.ireturn, 1) := by decide +kernel
abbrev q_267 (r0 : Nat) (a1 : Int) (T : wq_T) (H : wq_H) : Option Value → wq_T → wq_H → Prop := fun r T' H' => T = T' ∧ WT T H' ∧ wfr [(42, 28), (42, 29), (51, 999), (52, 999)] T H H' ∧ ∃ z : Int, some (vI z) = r ∧ (0 ≤ z ∧ z ≤ 6) ∧ (z ≠ 0 ∨ a1 = 1) ∧ (z ≠ 0 ∨ wLM H' r0 ≤ 20000) ∧ (wKI H' r0 = 1) ∧ (z ≠ 0 ∨ (0 < H' r0 29 ∧ 0 < wLM H' r0))
set_option maxHeartbeats 4000000 in
theorem s_267 {kt : Nat → Option mc_E} {T : wq_T} {H : wq_H} {r0 : Nat} {a1 : Int} (hW : WT T H) (g0 : T.2.2.2 r0 = some 42) (i1 : 0 ≤ a1 ∧ a1 ≤ 1) (p0 : a1 = 0 ∨ H r0 3 ≠ -1) (p1 : wKI H r0 = 1) : wpc kt 9 267 [.ref r0, vI a1] T H (q_267 r0 a1 T H) := by
  refine wp_enter e267 (Nat.le_of_ble_eq_true rfl) rfl ?_
  have f0 : wfr [(42, 28), (42, 29), (51, 999), (52, 999)] T H H := wfr.rf
  show wp _ _ 267 0 [(0, .ref r0), (1, vI a1)] [] _ H _
  refine wp_of e267 c267_0 (rw_aload_n (pc' := 1) (v := .ref r0) rfl rfl rfl ?_)
  refine wp_of e267 c267_1 (rw_iload_n (pc' := 2) (z := a1) rfl rfl ?_)
  refine wp_of e267 c267_2 (xc_V (pc' := 5) (r := r0) (as := [vI a1]) (st := []) (lm_9_447) rfl rfl (Nat.le_of_ble_eq_true rfl) hW g0 sh_42 (by decide) rfl (by decide) (s_253 hW g0 ⟨by omega, by omega⟩ (by omega) (by omega)) (fun R148668 T148669 H148670 p148671 => ?_))
  obtain ⟨e148672, w148674, f148675, z148680, e148673, b148681, p148676, p148677, p148678, p148679⟩ := p148671
  subst e148672
  subst e148673
  have f148682 := f0.tr f148675 rfl
  show wp _ _ 267 5 [(0, .ref r0), (1, vI a1)] [vI z148680] _ H148670 _
  refine wp_of e267 c267_5 (rw_istore_n (pc' := 6) (z := z148680) (L' := [(2, vI z148680), (0, .ref r0), (1, vI a1)]) rfl rfl rfl ?_)
  refine wp_of e267 c267_6 (rw_iload_n (pc' := 7) (z := z148680) rfl rfl ?_)
  refine wp_of e267 c267_7 (rw_if_ne (p1 := 24) (p2 := 10) (by decide) rfl ⟨by omega, by omega⟩ (fun c148683 => ?_) (fun c148683 => ?_))
  · refine wp_of e267 c267_24 (rw_iload_n (pc' := 25) (z := z148680) rfl rfl ?_)
    exact wp_ireturn e267 c267_25 rfl ⟨rfl, w148674, f148682, z148680, rfl, ⟨by omega, by omega⟩, by omega, by omega, by omega, by omega⟩
  · refine wp_of e267 c267_10 (rw_aload_n (pc' := 11) (v := .ref r0) rfl rfl rfl ?_)
    refine wp_of e267 c267_11 (xg_I (pc' := 14) lf_9_422 w148674 g0 sh_42 (by decide) (by decide) ty_42_29 rfl rfl (fun b148684 b148685 => ?_))
    refine wp_of e267 c267_14 (rw_sipush (pc' := 17) (z := 400) rfl (by decide) ?_)
    refine wp_of e267 c267_17 (rw_icmp_le (p1 := 24) (p2 := 20) (by decide) rfl ⟨by omega, by omega⟩ ⟨by omega, by omega⟩ (fun c148686 => ?_) (fun c148686 => ?_))
    · refine wp_of e267 c267_24 (rw_iload_n (pc' := 25) (z := z148680) rfl rfl ?_)
      exact wp_ireturn e267 c267_25 rfl ⟨rfl, w148674, f148682, z148680, rfl, ⟨by omega, by omega⟩, by omega, by omega, by omega, by omega⟩
    · refine wp_of e267 c267_20 (rw_iconst (pc' := 21) rfl ?_)
      refine wp_of e267 c267_21 (rw_goto (p1 := 25) (by decide) ?_)
      exact wp_ireturn e267 c267_25 rfl ⟨rfl, w148674, f148682, 3, rfl, ⟨by omega, by omega⟩, by omega, by omega, by omega, by omega⟩
/-! StrikeAwakeModel.bits(I)I -/
theorem e269 : wq_en 269 = some (9, 3, false, some FieldType.int) := rfl
theorem c269_0 : mc_cd 269 0 = some (.iconst 0, 1) := by decide +kernel
theorem c269_1 : mc_cd 269 1 = some (.istore_n 1, 1) := by decide +kernel
theorem c269_2 : mc_cd 269 2 = some (.iload_n 0, 1) := by decide +kernel
theorem c269_3 : mc_cd 269 3 = some (.istore_n 2, 1) := by decide +kernel
theorem c269_4 : mc_cd 269 4 = some (.iload_n 2, 1) := by decide +kernel
theorem c269_5 : mc_cd 269 5 = some (.ifCond .eq 15, 3) := by decide +kernel
theorem c269_8 : mc_cd 269 8 = some (.iinc 1 1, 3) := by decide +kernel
theorem c269_11 : mc_cd 269 11 = some (.iload_n 2, 1) := by decide +kernel
theorem c269_12 : mc_cd 269 12 = some (.iload_n 2, 1) := by decide +kernel
theorem c269_13 : mc_cd 269 13 = some (.iconst 1, 1) := by decide +kernel
theorem c269_14 : mc_cd 269 14 = some (.isub, 1) := by decide +kernel
theorem c269_15 : mc_cd 269 15 = some (.iand, 1) := by decide +kernel
theorem c269_16 : mc_cd 269 16 = some (.istore_n 2, 1) := by decide +kernel
theorem c269_17 : mc_cd 269 17 = some (.goto (-13), 3) := by decide +kernel
theorem c269_20 : mc_cd 269 20 = some (.iload_n 1, 1) := by decide +kernel
theorem c269_21 : mc_cd 269 21 = some (.ireturn, 1) := by decide +kernel
abbrev q_269 (a0 : Int) (T : wq_T) (H : wq_H) : Option Value → wq_T → wq_H → Prop := fun r T' H' => T = T' ∧ H = H' ∧ ∃ z : Int, some (vI z) = r ∧ (0 ≤ z ∧ z ≤ 16777215)
set_option maxHeartbeats 4000000 in
theorem s_269 {kt : Nat → Option mc_E} {T : wq_T} {H : wq_H} {a0 : Int} (hW : WT T H) (i0 : 0 ≤ a0 ∧ a0 ≤ 16777215) : wpc kt 1 269 [vI a0] T H (q_269 a0 T H) := by
  refine wp_enter e269 (Nat.le_of_ble_eq_true rfl) rfl ?_
  show wp _ _ 269 0 [(0, vI a0)] [] _ H _
  refine wp_of e269 c269_0 (rw_iconst (pc' := 1) rfl ?_)
  refine wp_of e269 c269_1 (rw_istore_n (pc' := 2) (z := 0) (L' := [(1, vI 0), (0, vI a0)]) rfl rfl rfl ?_)
  refine wp_of e269 c269_2 (rw_iload_n (pc' := 3) (z := a0) rfl rfl ?_)
  refine wp_of e269 c269_3 (rw_istore_n (pc' := 4) (z := a0) (L' := [(2, vI a0), (1, vI 0), (0, vI a0)]) rfl rfl rfl ?_)
  have lp148739 : ∀ (n148740 : Nat) (v148742 : Int) (v148743 : Int), (0 ≤ v148742 ∧ v148742 ≤ 16777215) → (0 ≤ v148743 ∧ v148743 ≤ 16777215) → (v148743 + v148742 ≤ a0) → (v148742).toNat = n148740 → wp kt 0 269 4 [(2, vI v148742), (1, vI v148743)] [] T H (q_269 a0 T H) := by
    intro n148740
    induction n148740 using Nat.strongRecOn with
    | _ n148740 ih148741 =>
      intro v148742 v148743 b148746 b148747 x148748 m148749
      refine wp_of e269 c269_4 (rw_iload_n (pc' := 5) (z := v148742) rfl rfl ?_)
      refine wp_of e269 c269_5 (rw_if_eq (p1 := 20) (p2 := 8) (by decide) rfl ⟨by omega, by omega⟩ (fun c148750 => ?_) (fun c148750 => ?_))
      · refine wp_of e269 c269_20 (rw_iload_n (pc' := 21) (z := v148743) rfl rfl ?_)
        exact wp_ireturn e269 c269_21 rfl ⟨rfl, rfl, v148743, rfl, ⟨by omega, by omega⟩⟩
      · refine wp_of e269 c269_8 (rw_iinc (pc' := 11) (z := v148743) (L' := [(1, vI (v148743 + 1)), (2, vI v148742)]) rfl rfl rfl rfl ?_)
        refine wp_of e269 c269_11 (rw_iload_n (pc' := 12) (z := v148742) rfl rfl ?_)
        refine wp_of e269 c269_12 (rw_iload_n (pc' := 13) (z := v148742) rfl rfl ?_)
        refine wp_of e269 c269_13 (rw_iconst (pc' := 14) rfl ?_)
        refine wp_of e269 c269_14 (rw_isub (pc' := 15) rfl ?_)
        refine wp_of e269 c269_15 (rw_iand (pc' := 16) rfl ?_)
        obtain ⟨v148751, e148752⟩ : ∃ x : Int, x = wq_and v148742 (v148742 - 1) := ⟨_, rfl⟩
        rw [← e148752]
        have b148753 : 0 ≤ v148751 ∧ v148751 ≤ (v148742 - 1) := by
          rw [e148752]
          exact wq_and_b _ (by omega) (by omega)
        refine wp_of e269 c269_16 (rw_istore_n (pc' := 17) (z := v148751) (L' := [(2, vI v148751), (1, vI (v148743 + 1))]) rfl rfl rfl ?_)
        refine wp_of e269 c269_17 (rw_goto (p1 := 4) (by decide) ?_)
        exact wp_lc (ks := [2, 1]) (wl_c rfl (wl_c rfl wl_n)) rfl (by decide) (ih148741 _ (by omega) v148751 (v148743 + 1) ⟨by omega, by omega⟩ ⟨by omega, by omega⟩ (by omega) rfl)
  exact wp_lc (ks := [2, 1, 0]) (wl_c rfl (wl_c rfl wl_n)) rfl (by decide) (lp148739 _ a0 0 ⟨by omega, by omega⟩ ⟨by omega, by omega⟩ (by omega) rfl)
/-! StrikeAwakeModel.tells(II)Z -/
theorem e270 : wq_en 270 = some (9, 7, false, some FieldType.boolean) := rfl
theorem c270_0 : mc_cd 270 0 = some (.iconst 0, 1) := by decide +kernel
theorem c270_1 : mc_cd 270 1 = some (.istore_n 3, 1) := by decide +kernel
theorem c270_2 : mc_cd 270 2 = some (.iload_n 3, 1) := by decide +kernel
theorem c270_3 : mc_cd 270 3 = some (.aload_n 0, 1) := by decide +kernel
theorem c270_4 : mc_cd 270 4 = some (.getfield 422, 3) := by decide +kernel
theorem c270_7 : mc_cd 270 7 = some (.if_icmp .ge 175, 3) := by decide +kernel
theorem c270_10 : mc_cd 270 10 = some (.aload_n 0, 1) := by decide +kernel
theorem c270_11 : mc_cd 270 11 = some (.aload_n 0, 1) := by decide +kernel
theorem c270_12 : mc_cd 270 12 = some (.getfield 42, 3) := by decide +kernel
theorem c270_15 : mc_cd 270 15 = some (.iload_n 3, 1) := by decide +kernel
theorem c270_16 : mc_cd 270 16 = some (.iaload, 1) := by decide +kernel
theorem c270_17 : mc_cd 270 17 = some (.invokevirtual 425, 3) := by decide +kernel
theorem c270_20 : mc_cd 270 20 = some (.iconst 0, 1) := by decide +kernel
theorem c270_21 : mc_cd 270 21 = some (.istore 4, 2) := by decide +kernel
theorem c270_23 : mc_cd 270 23 = some (.iload 4, 2) := by decide +kernel
theorem c270_25 : mc_cd 270 25 = some (.aload_n 0, 1) := by decide +kernel
theorem c270_26 : mc_cd 270 26 = some (.getfield 337, 3) := by decide +kernel
theorem c270_29 : mc_cd 270 29 = some (.getfield 188, 3) := by decide +kernel
theorem c270_32 : mc_cd 270 32 = some (.if_icmp .ge 23, 3) := by decide +kernel
theorem c270_35 : mc_cd 270 35 = some (.aload_n 0, 1) := by decide +kernel
theorem c270_36 : mc_cd 270 36 = some (.getfield 45, 3) := by decide +kernel
theorem c270_39 : mc_cd 270 39 = some (.iload 4, 2) := by decide +kernel
theorem c270_41 : mc_cd 270 41 = some (.aload_n 0, 1) := by decide +kernel
theorem c270_42 : mc_cd 270 42 = some (.getfield 39, 3) := by decide +kernel
theorem c270_45 : mc_cd 270 45 = some (.iload 4, 2) := by decide +kernel
theorem c270_47 : mc_cd 270 47 = some (.iaload, 1) := by decide +kernel
theorem c270_48 : mc_cd 270 48 = some (.iastore, 1) := by decide +kernel
theorem c270_49 : mc_cd 270 49 = some (.iinc 4 1, 3) := by decide +kernel
theorem c270_52 : mc_cd 270 52 = some (.goto (-29), 3) := by decide +kernel
theorem c270_55 : mc_cd 270 55 = some (.iconst 0, 1) := by decide +kernel
theorem c270_56 : mc_cd 270 56 = some (.istore 4, 2) := by decide +kernel
theorem c270_58 : mc_cd 270 58 = some (.iload 4, 2) := by decide +kernel
theorem c270_60 : mc_cd 270 60 = some (.iload_n 3, 1) := by decide +kernel
theorem c270_61 : mc_cd 270 61 = some (.if_icmp .ge 115, 3) := by decide +kernel
theorem c270_64 : mc_cd 270 64 = some (.aload_n 0, 1) := by decide +kernel
theorem c270_65 : mc_cd 270 65 = some (.aload_n 0, 1) := by decide +kernel
theorem c270_66 : mc_cd 270 66 = some (.getfield 42, 3) := by decide +kernel
theorem c270_69 : mc_cd 270 69 = some (.iload 4, 2) := by decide +kernel
theorem c270_71 : mc_cd 270 71 = some (.iaload, 1) := by decide +kernel
theorem c270_72 : mc_cd 270 72 = some (.invokevirtual 425, 3) := by decide +kernel
theorem c270_75 : mc_cd 270 75 = some (.iconst 1, 1) := by decide +kernel
theorem c270_76 : mc_cd 270 76 = some (.istore 5, 2) := by decide +kernel
theorem c270_78 : mc_cd 270 78 = some (.iconst 0, 1) := by decide +kernel
theorem c270_79 : mc_cd 270 79 = some (.istore 6, 2) := by decide +kernel
theorem c270_81 : mc_cd 270 81 = some (.iload 6, 2) := by decide +kernel
theorem c270_83 : mc_cd 270 83 = some (.aload_n 0, 1) := by decide +kernel
theorem c270_84 : mc_cd 270 84 = some (.getfield 337, 3) := by decide +kernel
theorem c270_87 : mc_cd 270 87 = some (.getfield 188, 3) := by decide +kernel
theorem c270_90 : mc_cd 270 90 = some (.if_icmp .ge 47, 3) := by decide +kernel
theorem c270_93 : mc_cd 270 93 = some (.iload 5, 2) := by decide +kernel
theorem c270_95 : mc_cd 270 95 = some (.ifCond .eq 33, 3) := by decide +kernel
theorem c270_98 : mc_cd 270 98 = some (.iload_n 1, 1) := by decide +kernel
theorem c270_99 : mc_cd 270 99 = some (.iload 6, 2) := by decide +kernel
theorem c270_101 : mc_cd 270 101 = some (.invokestatic 346, 3) := by decide +kernel
theorem c270_104 : mc_cd 270 104 = some (.ifCond .eq 20, 3) := by decide +kernel
theorem c270_107 : mc_cd 270 107 = some (.aload_n 0, 1) := by decide +kernel
theorem c270_108 : mc_cd 270 108 = some (.getfield 39, 3) := by decide +kernel
theorem c270_111 : mc_cd 270 111 = some (.iload 6, 2) := by decide +kernel
theorem c270_113 : mc_cd 270 113 = some (.iaload, 1) := by decide +kernel
theorem c270_114 : mc_cd 270 114 = some (.aload_n 0, 1) := by decide +kernel
theorem c270_115 : mc_cd 270 115 = some (.getfield 45, 3) := by decide +kernel
theorem c270_118 : mc_cd 270 118 = some (.iload 6, 2) := by decide +kernel
theorem c270_120 : mc_cd 270 120 = some (.iaload, 1) := by decide +kernel
theorem c270_121 : mc_cd 270 121 = some (.if_icmp .ne 7, 3) := by decide +kernel
theorem c270_124 : mc_cd 270 124 = some (.iconst 1, 1) := by decide +kernel
theorem c270_125 : mc_cd 270 125 = some (.goto 4, 3) := by decide +kernel
theorem c270_128 : mc_cd 270 128 = some (.iconst 0, 1) := by decide +kernel
theorem c270_129 : mc_cd 270 129 = some (.istore 5, 2) := by decide +kernel
theorem c270_131 : mc_cd 270 131 = some (.iinc 6 1, 3) := by decide +kernel
theorem c270_134 : mc_cd 270 134 = some (.goto (-53), 3) := by decide +kernel
theorem c270_137 : mc_cd 270 137 = some (.iload 5, 2) := by decide +kernel
theorem c270_139 : mc_cd 270 139 = some (.ifCond .eq 31, 3) := by decide +kernel
theorem c270_142 : mc_cd 270 142 = some (.iload_n 2, 1) := by decide +kernel
theorem c270_143 : mc_cd 270 143 = some (.iconst (-1), 1) := by decide +kernel
theorem c270_144 : mc_cd 270 144 = some (.if_icmp .eq 24, 3) := by decide +kernel
theorem c270_147 : mc_cd 270 147 = some (.aload_n 0, 1) := by decide +kernel
theorem c270_148 : mc_cd 270 148 = some (.aload_n 0, 1) := by decide +kernel
theorem c270_149 : mc_cd 270 149 = some (.getfield 39, 3) := by decide +kernel
theorem c270_152 : mc_cd 270 152 = some (.iload_n 2, 1) := by decide +kernel
theorem c270_153 : mc_cd 270 153 = some (.invokevirtual 455, 3) := by decide +kernel
theorem c270_156 : mc_cd 270 156 = some (.aload_n 0, 1) := by decide +kernel
theorem c270_157 : mc_cd 270 157 = some (.aload_n 0, 1) := by decide +kernel
theorem c270_158 : mc_cd 270 158 = some (.getfield 45, 3) := by decide +kernel
theorem c270_161 : mc_cd 270 161 = some (.iload_n 2, 1) := by decide +kernel
theorem c270_162 : mc_cd 270 162 = some (.invokevirtual 455, 3) := by decide +kernel
theorem c270_165 : mc_cd 270 165 = some (.if_icmp .eq 5, 3) := by decide +kernel
theorem c270_168 : mc_cd 270 168 = some (.iconst 0, 1) := by decide +kernel
theorem c270_169 : mc_cd 270 169 = some (.ireturn, 1) := by decide +kernel
theorem c270_170 : mc_cd 270 170 = some (.iinc 4 1, 3) := by decide +kernel
theorem c270_173 : mc_cd 270 173 = some (.goto (-115), 3) := by decide +kernel
theorem c270_176 : mc_cd 270 176 = some (.iinc 3 1, 3) := by decide +kernel
theorem c270_179 : mc_cd 270 179 = some (.goto (-177), 3) := by decide +kernel
theorem c270_182 : mc_cd 270 182 = some (.iconst 1, 1) := by decide +kernel
theorem c270_183 : mc_cd 270 183 = some (.ireturn, 1) := by decide +kernel
abbrev q_270 (r0 : Nat) (a1 : Int) (a2 : Int) (pp : Nat) (T : wq_T) (H : wq_H) : Option Value → wq_T → wq_H → Prop := fun r T' H' => T = T' ∧ WT T H' ∧ wfr [(51, 999), (53, 999)] T H H' ∧ ∃ z : Int, some (vI z) = r ∧ (0 ≤ z ∧ z ≤ 1)
set_option maxHeartbeats 4000000 in
theorem s_270 {kt : Nat → Option mc_E} {T : wq_T} {H : wq_H} {r0 : Nat} {a1 : Int} {a2 : Int} {pp : Nat} (hW : WT T H) (g0 : T.2.2.2 r0 = some 42) (i1 : (-2147483648) ≤ a1 ∧ a1 ≤ 2147483647) (i2 : (-2147483648) ≤ a2 ∧ a2 ≤ 2147483647) (qpp : H r0 3 = (pp : Int)) (gpp : T.2.2.2 pp = some 54) (p0 : H r0 29 = 0 ∨ 0 < wLM H r0) : wpc kt 3 270 [.ref r0, vI a1, vI a2] T H (q_270 r0 a1 a2 pp T H) := by
  refine wp_enter e270 (Nat.le_of_ble_eq_true rfl) rfl ?_
  have f0 : wfr [(51, 999), (53, 999)] T H H := wfr.rf
  show wp _ _ 270 0 [(0, .ref r0), (1, vI a1), (2, vI a2)] [] _ H _
  have b163907 : 0 ≤ H r0 29 ∧ H r0 29 ≤ 20000 := hW.box g0 (n := 33) rfl (by decide) rfl
  refine wp_of e270 c270_0 (rw_iconst (pc' := 1) rfl ?_)
  refine wp_of e270 c270_1 (rw_istore_n (pc' := 2) (z := 0) (L' := [(3, vI 0), (0, .ref r0), (1, vI a1), (2, vI a2)]) rfl rfl rfl ?_)
  have lp176480 : ∀ (n176481 : Nat) (v176483 : Int) (H176484 : wq_H), WT T H176484 → wfr [(51, 999), (53, 999)] T H H176484 → (0 ≤ v176483 ∧ v176483 ≤ 20000) → (20000 - v176483).toNat = n176481 → wp kt 2 270 2 [(3, vI v176483), (0, .ref r0), (1, vI a1), (2, vI a2)] [] T H176484 (q_270 r0 a1 a2 pp T H) := by
    intro n176481
    induction n176481 using Nat.strongRecOn with
    | _ n176481 ih176482 =>
      intro v176483 H176484 w176485 f176486 b176487 m176488
      have f176489 := f0.tr f176486 rfl
      refine wp_of e270 c270_2 (rw_iload_n (pc' := 3) (z := v176483) rfl rfl ?_)
      refine wp_of e270 c270_3 (rw_aload_n (pc' := 4) (v := .ref r0) rfl rfl rfl ?_)
      have k176490 : H176484 r0 29 = H r0 29 := (f176486 r0 29 _ g0 rfl)
      refine wp_of e270 c270_4 (xg_I (pc' := 7) lf_9_422 w176485 g0 sh_42 (by decide) (by decide) ty_42_29 rfl rfl (fun b176491 b176492 => ?_))
      refine wp_of e270 c270_7 (rw_icmp_ge (p1 := 182) (p2 := 10) (by decide) rfl ⟨by omega, by omega⟩ ⟨by omega, by omega⟩ (fun c176493 => ?_) (fun c176493 => ?_))
      · refine wp_of e270 c270_182 (rw_iconst (pc' := 183) rfl ?_)
        exact wp_zreturn e270 c270_183 rfl (by omega) ⟨rfl, w176485, f176489, 1, rfl, ⟨by omega, by omega⟩⟩
      · refine wp_of e270 c270_10 (rw_aload_n (pc' := 11) (v := .ref r0) rfl rfl rfl ?_)
        refine wp_of e270 c270_11 (rw_aload_n (pc' := 12) (v := .ref r0) rfl rfl rfl ?_)
        refine wp_of e270 c270_12 (xg_R (pc' := 15) lf_9_42 w176485 g0 sh_42 (by decide) (by decide) ty_42_30 rfl rfl (fun r176494 q176495 g176496 => ?_))
        refine wp_of e270 c270_15 (rw_iload_n (pc' := 16) (z := v176483) rfl rfl ?_)
        refine wp_of e270 c270_16 (xa_I (so := 0) (pc' := 17) w176485 g176496 sh_52 (by decide) (ty_52 _) (by omega) (by omega) rfl (fun b176497 b176498 => ?_))
        have k176499 : wLM H176484 r0 = wLM H r0 := (wLM_fr hW g0 f176486 rfl)
        have k176500 : H176484 r0 3 = H r0 3 := (f176486 r0 3 _ g0 rfl)
        have q176501 : H176484 r0 3 = (pp : Int) := k176500.trans qpp
        refine wp_of e270 c270_17 (xc_V (pc' := 20) (r := r0) (as := [vI (H176484 r176494 (v176483.toNat))]) (st := []) (lm_9_425) rfl rfl (Nat.le_of_ble_eq_true rfl) w176485 g0 sh_42 (by decide) rfl (by decide) (s_243 w176485 g0 ⟨by omega, by omega⟩ q176501 gpp (by omega)) (fun R176502 T176503 H176504 p176505 => ?_))
        obtain ⟨e176506, w176508, f176509, e176507⟩ := p176505
        subst e176506
        subst e176507
        have f176510 := f176489.tr f176509 rfl
        have f176511 := f176486.tr f176509 rfl
        show wp _ _ 270 20 [(3, vI v176483), (0, .ref r0), (1, vI a1), (2, vI a2)] [] _ H176504 _
        refine wp_of e270 c270_20 (rw_iconst (pc' := 21) rfl ?_)
        refine wp_of e270 c270_21 (rw_istore (pc' := 23) (z := 0) (L' := [(4, vI 0), (3, vI v176483), (0, .ref r0), (1, vI a1), (2, vI a2)]) rfl rfl rfl ?_)
        have lp176638 : ∀ (n176639 : Nat) (v176641 : Int) (H176642 : wq_H), WT T H176642 → wfr [(53, 999)] T H176504 H176642 → (0 ≤ v176641 ∧ v176641 ≤ 6) → (6 - v176641).toNat = n176639 → wp kt 2 270 23 [(4, vI v176641), (3, vI v176483), (0, .ref r0), (1, vI a1), (2, vI a2)] [] T H176642 (q_270 r0 a1 a2 pp T H) := by
          intro n176639
          induction n176639 using Nat.strongRecOn with
          | _ n176639 ih176640 =>
            intro v176641 H176642 w176643 f176644 b176645 m176646
            have f176647 := f176510.tr f176644 rfl
            have f176648 := f176511.tr f176644 rfl
            refine wp_of e270 c270_23 (rw_iload (pc' := 25) (z := v176641) rfl rfl ?_)
            refine wp_of e270 c270_25 (rw_aload_n (pc' := 26) (v := .ref r0) rfl rfl rfl ?_)
            have k176649 : H176642 r0 3 = H176484 r0 3 := ((f176644 r0 3 _ g0 rfl).trans (f176509 r0 3 _ g0 rfl))
            have q176650 : H176642 r0 3 = (pp : Int) := k176649.trans q176501
            refine wp_of e270 c270_26 (xg_K (pc' := 29) lf_9_337 w176643 g0 sh_42 (by decide) (by decide) rfl q176650 rfl ?_)
            refine wp_of e270 c270_29 (xg_I (pc' := 32) lf_9_188 w176643 gpp sh_54 (by decide) (by decide) ty_54_3 rfl rfl (fun b176651 b176652 => ?_))
            refine wp_of e270 c270_32 (rw_icmp_ge (p1 := 55) (p2 := 35) (by decide) rfl ⟨by omega, by omega⟩ ⟨by omega, by omega⟩ (fun c176653 => ?_) (fun c176653 => ?_))
            · refine wp_of e270 c270_55 (rw_iconst (pc' := 56) rfl ?_)
              refine wp_of e270 c270_56 (rw_istore (pc' := 58) (z := 0) (L' := [(4, vI 0), (3, vI v176483), (0, .ref r0), (1, vI a1), (2, vI a2)]) rfl rfl rfl ?_)
              have lp178814 : ∀ (n178815 : Nat) (v178817 : Int) (H178818 : wq_H), WT T H178818 → wfr [(51, 999)] T H176642 H178818 → (0 ≤ v178817 ∧ v178817 ≤ 19999) → (19999 - v178817).toNat = n178815 → wp kt 2 270 58 [(4, vI v178817), (3, vI v176483), (0, .ref r0), (1, vI a1), (2, vI a2)] [] T H178818 (q_270 r0 a1 a2 pp T H) := by
                intro n178815
                induction n178815 using Nat.strongRecOn with
                | _ n178815 ih178816 =>
                  intro v178817 H178818 w178819 f178820 b178821 m178822
                  have f178823 := f176647.tr f178820 rfl
                  have f178824 := f176648.tr f178820 rfl
                  refine wp_of e270 c270_58 (rw_iload (pc' := 60) (z := v178817) rfl rfl ?_)
                  refine wp_of e270 c270_60 (rw_iload_n (pc' := 61) (z := v176483) rfl rfl ?_)
                  refine wp_of e270 c270_61 (rw_icmp_ge (p1 := 176) (p2 := 64) (by decide) rfl ⟨by omega, by omega⟩ ⟨by omega, by omega⟩ (fun c178825 => ?_) (fun c178825 => ?_))
                  · refine wp_of e270 c270_176 (rw_iinc (pc' := 179) (z := v176483) (L' := [(3, vI (v176483 + 1)), (4, vI v178817), (0, .ref r0), (1, vI a1), (2, vI a2)]) rfl rfl rfl rfl ?_)
                    refine wp_of e270 c270_179 (rw_goto (p1 := 2) (by decide) ?_)
                    exact wp_lc (ks := [3, 4, 0, 1, 2]) (wl_c rfl (wl_c rfl (wl_c rfl (wl_c rfl wl_n)))) rfl (by decide) (ih176482 _ (by omega) (v176483 + 1) H178818 w178819 f178824 ⟨by omega, by omega⟩ rfl)
                  · refine wp_of e270 c270_64 (rw_aload_n (pc' := 65) (v := .ref r0) rfl rfl rfl ?_)
                    refine wp_of e270 c270_65 (rw_aload_n (pc' := 66) (v := .ref r0) rfl rfl rfl ?_)
                    have k178826 : H178818 r0 30 = H176484 r0 30 := ((f178820 r0 30 _ g0 rfl).trans ((f176644 r0 30 _ g0 rfl).trans (f176509 r0 30 _ g0 rfl)))
                    have q178827 : H178818 r0 30 = (r176494 : Int) := k178826.trans q176495
                    refine wp_of e270 c270_66 (xg_K (pc' := 69) lf_9_42 w178819 g0 sh_42 (by decide) (by decide) rfl q178827 rfl ?_)
                    refine wp_of e270 c270_69 (rw_iload (pc' := 71) (z := v178817) rfl rfl ?_)
                    refine wp_of e270 c270_71 (xa_I (so := 0) (pc' := 72) w178819 g176496 sh_52 (by decide) (ty_52 _) (by omega) (by omega) rfl (fun b178828 b178829 => ?_))
                    have k178830 : wLM H178818 r0 = wLM H176484 r0 := ((wLM_fr w176643 g0 f178820 rfl).trans ((wLM_fr w176508 g0 f176644 rfl).trans (wLM_fr w176485 g0 f176509 rfl)))
                    have k178831 : H178818 r0 3 = H176642 r0 3 := (f178820 r0 3 _ g0 rfl)
                    have q178832 : H178818 r0 3 = (pp : Int) := k178831.trans q176650
                    refine wp_of e270 c270_72 (xc_V (pc' := 75) (r := r0) (as := [vI (H178818 r176494 (v178817.toNat))]) (st := []) (lm_9_425) rfl rfl (Nat.le_of_ble_eq_true rfl) w178819 g0 sh_42 (by decide) rfl (by decide) (s_243 w178819 g0 ⟨by omega, by omega⟩ q178832 gpp (by omega)) (fun R178833 T178834 H178835 p178836 => ?_))
                    obtain ⟨e178837, w178839, f178840, e178838⟩ := p178836
                    subst e178837
                    subst e178838
                    have f178841 := f178823.tr f178840 rfl
                    have f178842 := f178824.tr f178840 rfl
                    have f178843 := f178820.tr f178840 rfl
                    show wp _ _ 270 75 [(4, vI v178817), (3, vI v176483), (0, .ref r0), (1, vI a1), (2, vI a2)] [] _ H178835 _
                    refine wp_of e270 c270_75 (rw_iconst (pc' := 76) rfl ?_)
                    refine wp_of e270 c270_76 (rw_istore (pc' := 78) (z := 1) (L' := [(5, vI 1), (4, vI v178817), (3, vI v176483), (0, .ref r0), (1, vI a1), (2, vI a2)]) rfl rfl rfl ?_)
                    refine wp_of e270 c270_78 (rw_iconst (pc' := 79) rfl ?_)
                    refine wp_of e270 c270_79 (rw_istore (pc' := 81) (z := 0) (L' := [(6, vI 0), (5, vI 1), (4, vI v178817), (3, vI v176483), (0, .ref r0), (1, vI a1), (2, vI a2)]) rfl rfl rfl ?_)
                    have lp179040 : ∀ (n179041 : Nat) (v179043 : Int) (v179044 : Int), (0 ≤ v179043 ∧ v179043 ≤ 6) → (0 ≤ v179044 ∧ v179044 ≤ 1) → (6 - v179043).toNat = n179041 → wp kt 2 270 81 [(6, vI v179043), (5, vI v179044), (4, vI v178817), (3, vI v176483), (0, .ref r0), (1, vI a1), (2, vI a2)] [] T H178835 (q_270 r0 a1 a2 pp T H) := by
                      intro n179041
                      induction n179041 using Nat.strongRecOn with
                      | _ n179041 ih179042 =>
                        intro v179043 v179044 b179047 b179048 m179049
                        refine wp_of e270 c270_81 (rw_iload (pc' := 83) (z := v179043) rfl rfl ?_)
                        refine wp_of e270 c270_83 (rw_aload_n (pc' := 84) (v := .ref r0) rfl rfl rfl ?_)
                        have k179050 : H178835 r0 3 = H178818 r0 3 := (f178840 r0 3 _ g0 rfl)
                        have q179051 : H178835 r0 3 = (pp : Int) := k179050.trans q178832
                        refine wp_of e270 c270_84 (xg_K (pc' := 87) lf_9_337 w178839 g0 sh_42 (by decide) (by decide) rfl q179051 rfl ?_)
                        have k179052 : H178835 pp 3 = H176642 pp 3 := ((f178840 pp 3 _ gpp rfl).trans (f178820 pp 3 _ gpp rfl))
                        refine wp_of e270 c270_87 (xg_I (pc' := 90) lf_9_188 w178839 gpp sh_54 (by decide) (by decide) ty_54_3 rfl rfl (fun b179053 b179054 => ?_))
                        refine wp_of e270 c270_90 (rw_icmp_ge (p1 := 137) (p2 := 93) (by decide) rfl ⟨by omega, by omega⟩ ⟨by omega, by omega⟩ (fun c179055 => ?_) (fun c179055 => ?_))
                        · refine wp_of e270 c270_137 (rw_iload (pc' := 139) (z := v179044) rfl rfl ?_)
                          refine wp_of e270 c270_139 (rw_if_eq (p1 := 170) (p2 := 142) (by decide) rfl ⟨by omega, by omega⟩ (fun c179056 => ?_) (fun c179056 => ?_))
                          · refine wp_of e270 c270_170 (rw_iinc (pc' := 173) (z := v178817) (L' := [(4, vI (v178817 + 1)), (6, vI v179043), (5, vI v179044), (3, vI v176483), (0, .ref r0), (1, vI a1), (2, vI a2)]) rfl rfl rfl rfl ?_)
                            refine wp_of e270 c270_173 (rw_goto (p1 := 58) (by decide) ?_)
                            exact wp_lc (ks := [4, 6, 5, 3, 0, 1, 2]) (wl_c rfl (wl_c rfl (wl_c rfl (wl_c rfl (wl_c rfl wl_n))))) rfl (by decide) (ih178816 _ (by omega) (v178817 + 1) H178835 w178839 f178843 ⟨by omega, by omega⟩ rfl)
                          · refine wp_of e270 c270_142 (rw_iload_n (pc' := 143) (z := a2) rfl rfl ?_)
                            refine wp_of e270 c270_143 (rw_iconst (pc' := 144) rfl ?_)
                            refine wp_of e270 c270_144 (rw_icmp_eq (p1 := 168) (p2 := 147) (by decide) rfl ⟨by omega, by omega⟩ ⟨by omega, by omega⟩ (fun c179057 => ?_) (fun c179057 => ?_))
                            · refine wp_of e270 c270_168 (rw_iconst (pc' := 169) rfl ?_)
                              exact wp_zreturn e270 c270_169 rfl (by omega) ⟨rfl, w178839, f178841, 0, rfl, ⟨by omega, by omega⟩⟩
                            · refine wp_of e270 c270_147 (rw_aload_n (pc' := 148) (v := .ref r0) rfl rfl rfl ?_)
                              refine wp_of e270 c270_148 (rw_aload_n (pc' := 149) (v := .ref r0) rfl rfl rfl ?_)
                              refine wp_of e270 c270_149 (xg_R (pc' := 152) lf_9_39 w178839 g0 sh_42 (by decide) (by decide) ty_42_27 rfl rfl (fun r179058 q179059 g179060 => ?_))
                              refine wp_of e270 c270_152 (rw_iload_n (pc' := 153) (z := a2) rfl rfl ?_)
                              refine wp_of e270 c270_153 (xc_V (pc' := 156) (r := r0) (as := [.ref r179058, vI a2]) (st := []) (lm_9_455) rfl rfl (Nat.le_of_ble_eq_true rfl) w178839 g0 sh_42 (by decide) rfl (by decide) (s_262_m_lot w178839 g0 g179060 ⟨by omega, by omega⟩ q179051 gpp) (fun R179061 T179062 H179063 p179064 => ?_))
                              obtain ⟨e179065, e179067, z179068, e179066, b179069⟩ := p179064
                              subst e179065
                              subst e179066
                              subst e179067
                              show wp _ _ 270 156 [(6, vI v179043), (5, vI v179044), (4, vI v178817), (3, vI v176483), (0, .ref r0), (1, vI a1), (2, vI a2)] [vI z179068] _ H178835 _
                              refine wp_of e270 c270_156 (rw_aload_n (pc' := 157) (v := .ref r0) rfl rfl rfl ?_)
                              refine wp_of e270 c270_157 (rw_aload_n (pc' := 158) (v := .ref r0) rfl rfl rfl ?_)
                              refine wp_of e270 c270_158 (xg_R (pc' := 161) lf_9_45 w178839 g0 sh_42 (by decide) (by decide) ty_42_31 rfl rfl (fun r179070 q179071 g179072 => ?_))
                              refine wp_of e270 c270_161 (rw_iload_n (pc' := 162) (z := a2) rfl rfl ?_)
                              refine wp_of e270 c270_162 (xc_V (pc' := 165) (r := r0) (as := [.ref r179070, vI a2]) (st := [vI z179068]) (lm_9_455) rfl rfl (Nat.le_of_ble_eq_true rfl) w178839 g0 sh_42 (by decide) rfl (by decide) (s_262_m_one w178839 g0 g179072 ⟨by omega, by omega⟩ q179051 gpp) (fun R179073 T179074 H179075 p179076 => ?_))
                              obtain ⟨e179077, e179079, z179080, e179078, b179081⟩ := p179076
                              subst e179077
                              subst e179078
                              subst e179079
                              show wp _ _ 270 165 [(6, vI v179043), (5, vI v179044), (4, vI v178817), (3, vI v176483), (0, .ref r0), (1, vI a1), (2, vI a2)] [vI z179080, vI z179068] _ H178835 _
                              refine wp_of e270 c270_165 (rw_icmp_eq (p1 := 170) (p2 := 168) (by decide) rfl ⟨by omega, by omega⟩ ⟨by omega, by omega⟩ (fun c179082 => ?_) (fun c179082 => ?_))
                              · refine wp_of e270 c270_170 (rw_iinc (pc' := 173) (z := v178817) (L' := [(4, vI (v178817 + 1)), (6, vI v179043), (5, vI v179044), (3, vI v176483), (0, .ref r0), (1, vI a1), (2, vI a2)]) rfl rfl rfl rfl ?_)
                                refine wp_of e270 c270_173 (rw_goto (p1 := 58) (by decide) ?_)
                                exact wp_lc (ks := [4, 6, 5, 3, 0, 1, 2]) (wl_c rfl (wl_c rfl (wl_c rfl (wl_c rfl (wl_c rfl wl_n))))) rfl (by decide) (ih178816 _ (by omega) (v178817 + 1) H178835 w178839 f178843 ⟨by omega, by omega⟩ rfl)
                              · refine wp_of e270 c270_168 (rw_iconst (pc' := 169) rfl ?_)
                                exact wp_zreturn e270 c270_169 rfl (by omega) ⟨rfl, w178839, f178841, 0, rfl, ⟨by omega, by omega⟩⟩
                        · refine wp_of e270 c270_93 (rw_iload (pc' := 95) (z := v179044) rfl rfl ?_)
                          refine wp_of e270 c270_95 (rw_if_eq (p1 := 128) (p2 := 98) (by decide) rfl ⟨by omega, by omega⟩ (fun c179083 => ?_) (fun c179083 => ?_))
                          · refine wp_of e270 c270_128 (rw_iconst (pc' := 129) rfl ?_)
                            refine wp_of e270 c270_129 (rw_istore (pc' := 131) (z := 0) (L' := [(5, vI 0), (6, vI v179043), (4, vI v178817), (3, vI v176483), (0, .ref r0), (1, vI a1), (2, vI a2)]) rfl rfl rfl ?_)
                            refine wp_of e270 c270_131 (rw_iinc (pc' := 134) (z := v179043) (L' := [(6, vI (v179043 + 1)), (5, vI 0), (4, vI v178817), (3, vI v176483), (0, .ref r0), (1, vI a1), (2, vI a2)]) rfl rfl rfl rfl ?_)
                            refine wp_of e270 c270_134 (rw_goto (p1 := 81) (by decide) ?_)
                            exact wp_lc (ks := [6, 5, 4, 3, 0, 1, 2]) (wl_c rfl (wl_c rfl (wl_c rfl (wl_c rfl (wl_c rfl (wl_c rfl (wl_c rfl wl_n))))))) rfl (by decide) (ih179042 _ (by omega) (v179043 + 1) 0 ⟨by omega, by omega⟩ ⟨by omega, by omega⟩ rfl)
                          · refine wp_of e270 c270_98 (rw_iload_n (pc' := 99) (z := a1) rfl rfl ?_)
                            refine wp_of e270 c270_99 (rw_iload (pc' := 101) (z := v179043) rfl rfl ?_)
                            refine wp_of e270 c270_101 (xc_S (pc' := 104) (as := [vI a1, vI v179043]) (st := []) (lm_9_346) rfl rfl (Nat.le_of_ble_eq_true rfl) rfl (by decide) (s_205 w178839 ⟨by omega, by omega⟩ ⟨by omega, by omega⟩) (fun R179084 T179085 H179086 p179087 => ?_))
                            obtain ⟨e179088, e179090, z179091, e179089, b179092⟩ := p179087
                            subst e179088
                            subst e179089
                            subst e179090
                            show wp _ _ 270 104 [(6, vI v179043), (5, vI v179044), (4, vI v178817), (3, vI v176483), (0, .ref r0), (1, vI a1), (2, vI a2)] [vI z179091] _ H178835 _
                            refine wp_of e270 c270_104 (rw_if_eq (p1 := 124) (p2 := 107) (by decide) rfl ⟨by omega, by omega⟩ (fun c179093 => ?_) (fun c179093 => ?_))
                            · refine wp_of e270 c270_124 (rw_iconst (pc' := 125) rfl ?_)
                              refine wp_of e270 c270_125 (rw_goto (p1 := 129) (by decide) ?_)
                              refine wp_of e270 c270_129 (rw_istore (pc' := 131) (z := 1) (L' := [(5, vI 1), (6, vI v179043), (4, vI v178817), (3, vI v176483), (0, .ref r0), (1, vI a1), (2, vI a2)]) rfl rfl rfl ?_)
                              refine wp_of e270 c270_131 (rw_iinc (pc' := 134) (z := v179043) (L' := [(6, vI (v179043 + 1)), (5, vI 1), (4, vI v178817), (3, vI v176483), (0, .ref r0), (1, vI a1), (2, vI a2)]) rfl rfl rfl rfl ?_)
                              refine wp_of e270 c270_134 (rw_goto (p1 := 81) (by decide) ?_)
                              exact wp_lc (ks := [6, 5, 4, 3, 0, 1, 2]) (wl_c rfl (wl_c rfl (wl_c rfl (wl_c rfl (wl_c rfl (wl_c rfl (wl_c rfl wl_n))))))) rfl (by decide) (ih179042 _ (by omega) (v179043 + 1) 1 ⟨by omega, by omega⟩ ⟨by omega, by omega⟩ rfl)
                            · refine wp_of e270 c270_107 (rw_aload_n (pc' := 108) (v := .ref r0) rfl rfl rfl ?_)
                              refine wp_of e270 c270_108 (xg_R (pc' := 111) lf_9_39 w178839 g0 sh_42 (by decide) (by decide) ty_42_27 rfl rfl (fun r179094 q179095 g179096 => ?_))
                              refine wp_of e270 c270_111 (rw_iload (pc' := 113) (z := v179043) rfl rfl ?_)
                              refine wp_of e270 c270_113 (xa_I (so := 0) (pc' := 114) w178839 g179096 sh_51 (by decide) (ty_51 _) (by omega) (by omega) rfl (fun b179097 b179098 => ?_))
                              refine wp_of e270 c270_114 (rw_aload_n (pc' := 115) (v := .ref r0) rfl rfl rfl ?_)
                              refine wp_of e270 c270_115 (xg_R (pc' := 118) lf_9_45 w178839 g0 sh_42 (by decide) (by decide) ty_42_31 rfl rfl (fun r179099 q179100 g179101 => ?_))
                              refine wp_of e270 c270_118 (rw_iload (pc' := 120) (z := v179043) rfl rfl ?_)
                              refine wp_of e270 c270_120 (xa_I (so := 0) (pc' := 121) w178839 g179101 sh_53 (by decide) (ty_53 _) (by omega) (by omega) rfl (fun b179102 b179103 => ?_))
                              refine wp_of e270 c270_121 (rw_icmp_ne (p1 := 128) (p2 := 124) (by decide) rfl ⟨by omega, by omega⟩ ⟨by omega, by omega⟩ (fun c179104 => ?_) (fun c179104 => ?_))
                              · refine wp_of e270 c270_128 (rw_iconst (pc' := 129) rfl ?_)
                                refine wp_of e270 c270_129 (rw_istore (pc' := 131) (z := 0) (L' := [(5, vI 0), (6, vI v179043), (4, vI v178817), (3, vI v176483), (0, .ref r0), (1, vI a1), (2, vI a2)]) rfl rfl rfl ?_)
                                refine wp_of e270 c270_131 (rw_iinc (pc' := 134) (z := v179043) (L' := [(6, vI (v179043 + 1)), (5, vI 0), (4, vI v178817), (3, vI v176483), (0, .ref r0), (1, vI a1), (2, vI a2)]) rfl rfl rfl rfl ?_)
                                refine wp_of e270 c270_134 (rw_goto (p1 := 81) (by decide) ?_)
                                exact wp_lc (ks := [6, 5, 4, 3, 0, 1, 2]) (wl_c rfl (wl_c rfl (wl_c rfl (wl_c rfl (wl_c rfl (wl_c rfl (wl_c rfl wl_n))))))) rfl (by decide) (ih179042 _ (by omega) (v179043 + 1) 0 ⟨by omega, by omega⟩ ⟨by omega, by omega⟩ rfl)
                              · refine wp_of e270 c270_124 (rw_iconst (pc' := 125) rfl ?_)
                                refine wp_of e270 c270_125 (rw_goto (p1 := 129) (by decide) ?_)
                                refine wp_of e270 c270_129 (rw_istore (pc' := 131) (z := 1) (L' := [(5, vI 1), (6, vI v179043), (4, vI v178817), (3, vI v176483), (0, .ref r0), (1, vI a1), (2, vI a2)]) rfl rfl rfl ?_)
                                refine wp_of e270 c270_131 (rw_iinc (pc' := 134) (z := v179043) (L' := [(6, vI (v179043 + 1)), (5, vI 1), (4, vI v178817), (3, vI v176483), (0, .ref r0), (1, vI a1), (2, vI a2)]) rfl rfl rfl rfl ?_)
                                refine wp_of e270 c270_134 (rw_goto (p1 := 81) (by decide) ?_)
                                exact wp_lc (ks := [6, 5, 4, 3, 0, 1, 2]) (wl_c rfl (wl_c rfl (wl_c rfl (wl_c rfl (wl_c rfl (wl_c rfl (wl_c rfl wl_n))))))) rfl (by decide) (ih179042 _ (by omega) (v179043 + 1) 1 ⟨by omega, by omega⟩ ⟨by omega, by omega⟩ rfl)
                    exact wp_lc (ks := [6, 5, 4, 3, 0, 1, 2]) (wl_c rfl (wl_c rfl (wl_c rfl (wl_c rfl (wl_c rfl (wl_c rfl (wl_c rfl wl_n))))))) rfl (by decide) (lp179040 _ 0 1 ⟨by omega, by omega⟩ ⟨by omega, by omega⟩ rfl)
              exact wp_lc (ks := [4, 3, 0, 1, 2]) (wl_c rfl (wl_c rfl (wl_c rfl (wl_c rfl (wl_c rfl wl_n))))) rfl (by decide) (lp178814 _ 0 H176642 w176643 wfr.rf ⟨by omega, by omega⟩ rfl)
            · refine wp_of e270 c270_35 (rw_aload_n (pc' := 36) (v := .ref r0) rfl rfl rfl ?_)
              refine wp_of e270 c270_36 (xg_R (pc' := 39) lf_9_45 w176643 g0 sh_42 (by decide) (by decide) ty_42_31 rfl rfl (fun r179105 q179106 g179107 => ?_))
              refine wp_of e270 c270_39 (rw_iload (pc' := 41) (z := v176641) rfl rfl ?_)
              refine wp_of e270 c270_41 (rw_aload_n (pc' := 42) (v := .ref r0) rfl rfl rfl ?_)
              refine wp_of e270 c270_42 (xg_R (pc' := 45) lf_9_39 w176643 g0 sh_42 (by decide) (by decide) ty_42_27 rfl rfl (fun r179108 q179109 g179110 => ?_))
              refine wp_of e270 c270_45 (rw_iload (pc' := 47) (z := v176641) rfl rfl ?_)
              refine wp_of e270 c270_47 (xa_I (so := 0) (pc' := 48) w176643 g179110 sh_51 (by decide) (ty_51 _) (by omega) (by omega) rfl (fun b179111 b179112 => ?_))
              refine wp_of e270 c270_48 (xs_I (pc' := 49) w176643 g179107 (by decide) sh_53 (by decide) (ty_53 _) (by omega) (by omega) ⟨by omega, by omega⟩ (by omega) (by omega) rfl (fun H179113 e179114 w179115 => ?_))
              have f179116 := f176647.put' e179114 g179107 rfl
              have f179117 := f176648.put' e179114 g179107 rfl
              have f179118 := f176644.put' e179114 g179107 rfl
              refine wp_of e270 c270_49 (rw_iinc (pc' := 52) (z := v176641) (L' := [(4, vI (v176641 + 1)), (3, vI v176483), (0, .ref r0), (1, vI a1), (2, vI a2)]) rfl rfl rfl rfl ?_)
              refine wp_of e270 c270_52 (rw_goto (p1 := 23) (by decide) ?_)
              exact wp_lc (ks := [4, 3, 0, 1, 2]) (wl_c rfl (wl_c rfl (wl_c rfl (wl_c rfl (wl_c rfl wl_n))))) rfl (by decide) (ih176640 _ (by omega) (v176641 + 1) H179113 w179115 f179118 ⟨by omega, by omega⟩ rfl)
        exact wp_lc (ks := [4, 3, 0, 1, 2]) (wl_c rfl (wl_c rfl (wl_c rfl (wl_c rfl (wl_c rfl wl_n))))) rfl (by decide) (lp176638 _ 0 H176504 w176508 wfr.rf ⟨by omega, by omega⟩ rfl)
  exact wp_lc (ks := [3, 0, 1, 2]) (wl_c rfl (wl_c rfl (wl_c rfl (wl_c rfl wl_n)))) rfl (by decide) (lp176480 _ 0 H hW wfr.rf ⟨by omega, by omega⟩ rfl)
/-! StrikeAwakeModel.asked(I)I -/
theorem e268 : wq_en 268 = some (9, 4, false, some FieldType.int) := rfl
theorem c268_0 : mc_cd 268 0 = some (.iconst (-1), 1) := by decide +kernel
theorem c268_1 : mc_cd 268 1 = some (.istore_n 2, 1) := by decide +kernel
theorem c268_2 : mc_cd 268 2 = some (.iconst 0, 1) := by decide +kernel
theorem c268_3 : mc_cd 268 3 = some (.istore_n 3, 1) := by decide +kernel
theorem c268_4 : mc_cd 268 4 = some (.iload_n 3, 1) := by decide +kernel
theorem c268_5 : mc_cd 268 5 = some (.iconst 1, 1) := by decide +kernel
theorem c268_6 : mc_cd 268 6 = some (.aload_n 0, 1) := by decide +kernel
theorem c268_7 : mc_cd 268 7 = some (.getfield 337, 3) := by decide +kernel
theorem c268_10 : mc_cd 268 10 = some (.getfield 188, 3) := by decide +kernel
theorem c268_13 : mc_cd 268 13 = some (.ishl, 1) := by decide +kernel
theorem c268_14 : mc_cd 268 14 = some (.if_icmp .ge 39, 3) := by decide +kernel
theorem c268_17 : mc_cd 268 17 = some (.iload_n 2, 1) := by decide +kernel
theorem c268_18 : mc_cd 268 18 = some (.iconst (-1), 1) := by decide +kernel
theorem c268_19 : mc_cd 268 19 = some (.if_icmp .eq 17, 3) := by decide +kernel
theorem c268_22 : mc_cd 268 22 = some (.iload_n 3, 1) := by decide +kernel
theorem c268_23 : mc_cd 268 23 = some (.invokestatic 462, 3) := by decide +kernel
theorem c268_26 : mc_cd 268 26 = some (.iload_n 2, 1) := by decide +kernel
theorem c268_27 : mc_cd 268 27 = some (.invokestatic 462, 3) := by decide +kernel
theorem c268_30 : mc_cd 268 30 = some (.if_icmp .lt 6, 3) := by decide +kernel
theorem c268_33 : mc_cd 268 33 = some (.goto 14, 3) := by decide +kernel
theorem c268_36 : mc_cd 268 36 = some (.aload_n 0, 1) := by decide +kernel
theorem c268_37 : mc_cd 268 37 = some (.iload_n 3, 1) := by decide +kernel
theorem c268_38 : mc_cd 268 38 = some (.iload_n 1, 1) := by decide +kernel
theorem c268_39 : mc_cd 268 39 = some (.invokevirtual 465, 3) := by decide +kernel
theorem c268_42 : mc_cd 268 42 = some (.ifCond .eq 5, 3) := by decide +kernel
theorem c268_45 : mc_cd 268 45 = some (.iload_n 3, 1) := by decide +kernel
theorem c268_46 : mc_cd 268 46 = some (.istore_n 2, 1) := by decide +kernel
theorem c268_47 : mc_cd 268 47 = some (.iinc 3 1, 3) := by decide +kernel
theorem c268_50 : mc_cd 268 50 = some (.goto (-46), 3) := by decide +kernel
theorem c268_53 : mc_cd 268 53 = some (.iload_n 2, 1) := by decide +kernel
theorem c268_54 : mc_cd 268 54 = some (.ireturn, 1) := by decide +kernel
abbrev q_268 (r0 : Nat) (a1 : Int) (pp : Nat) (T : wq_T) (H : wq_H) : Option Value → wq_T → wq_H → Prop := fun r T' H' => T = T' ∧ WT T H' ∧ wfr [(51, 999), (53, 999)] T H H' ∧ ∃ z : Int, some (vI z) = r ∧ ((-2147483648) ≤ z ∧ z ≤ 2147483647)
set_option maxHeartbeats 4000000 in
theorem s_268 {kt : Nat → Option mc_E} {T : wq_T} {H : wq_H} {r0 : Nat} {a1 : Int} {pp : Nat} (hW : WT T H) (g0 : T.2.2.2 r0 = some 42) (i1 : (-2147483648) ≤ a1 ∧ a1 ≤ 2147483647) (qpp : H r0 3 = (pp : Int)) (gpp : T.2.2.2 pp = some 54) (p0 : H r0 29 = 0 ∨ 0 < wLM H r0) : wpc kt 4 268 [.ref r0, vI a1] T H (q_268 r0 a1 pp T H) := by
  refine wp_enter e268 (Nat.le_of_ble_eq_true rfl) rfl ?_
  have f0 : wfr [(51, 999), (53, 999)] T H H := wfr.rf
  show wp _ _ 268 0 [(0, .ref r0), (1, vI a1)] [] _ H _
  have b179582 : 0 ≤ H r0 29 ∧ H r0 29 ≤ 20000 := hW.box g0 (n := 33) rfl (by decide) rfl
  refine wp_of e268 c268_0 (rw_iconst (pc' := 1) rfl ?_)
  refine wp_of e268 c268_1 (rw_istore_n (pc' := 2) (z := -1) (L' := [(2, vI (-1)), (0, .ref r0), (1, vI a1)]) rfl rfl rfl ?_)
  refine wp_of e268 c268_2 (rw_iconst (pc' := 3) rfl ?_)
  refine wp_of e268 c268_3 (rw_istore_n (pc' := 4) (z := 0) (L' := [(3, vI 0), (2, vI (-1)), (0, .ref r0), (1, vI a1)]) rfl rfl rfl ?_)
  have lp179990 : ∀ (n179991 : Nat) (v179993 : Int) (v179994 : Int) (H179995 : wq_H), WT T H179995 → wfr [(51, 999), (53, 999)] T H H179995 → (0 ≤ v179993 ∧ v179993 ≤ 64) → ((-1) ≤ v179994 ∧ v179994 ≤ 64) → (64 - v179993).toNat = n179991 → wp kt 3 268 4 [(3, vI v179993), (2, vI v179994), (0, .ref r0), (1, vI a1)] [] T H179995 (q_268 r0 a1 pp T H) := by
    intro n179991
    induction n179991 using Nat.strongRecOn with
    | _ n179991 ih179992 =>
      intro v179993 v179994 H179995 w179996 f179997 b179998 b179999 m180000
      have f180001 := f0.tr f179997 rfl
      refine wp_of e268 c268_4 (rw_iload_n (pc' := 5) (z := v179993) rfl rfl ?_)
      refine wp_of e268 c268_5 (rw_iconst (pc' := 6) rfl ?_)
      refine wp_of e268 c268_6 (rw_aload_n (pc' := 7) (v := .ref r0) rfl rfl rfl ?_)
      have k180002 : H179995 r0 3 = H r0 3 := (f179997 r0 3 _ g0 rfl)
      have q180003 : H179995 r0 3 = (pp : Int) := k180002.trans qpp
      refine wp_of e268 c268_7 (xg_K (pc' := 10) lf_9_337 w179996 g0 sh_42 (by decide) (by decide) rfl q180003 rfl ?_)
      refine wp_of e268 c268_10 (xg_I (pc' := 13) lf_9_188 w179996 gpp sh_54 (by decide) (by decide) ty_54_3 rfl rfl (fun b180004 b180005 => ?_))
      refine wp_of e268 c268_13 (rw_ishl (pc' := 14) rfl ?_)
      obtain ⟨v180006, e180007⟩ : ∃ x : Int, x = wq_shl 1 (H179995 pp 3) := ⟨_, rfl⟩
      rw [← e180007]
      have b180008 : 1 ≤ v180006 ∧ v180006 ≤ 64 := by
        rw [e180007]
        exact wq_shl1_6 ⟨by omega, by omega⟩
      refine wp_of e268 c268_14 (rw_icmp_ge (p1 := 53) (p2 := 17) (by decide) rfl ⟨by omega, by omega⟩ ⟨by omega, by omega⟩ (fun c180009 => ?_) (fun c180009 => ?_))
      · refine wp_of e268 c268_53 (rw_iload_n (pc' := 54) (z := v179994) rfl rfl ?_)
        exact wp_ireturn e268 c268_54 rfl ⟨rfl, w179996, f180001, v179994, rfl, ⟨by omega, by omega⟩⟩
      · refine wp_of e268 c268_17 (rw_iload_n (pc' := 18) (z := v179994) rfl rfl ?_)
        refine wp_of e268 c268_18 (rw_iconst (pc' := 19) rfl ?_)
        refine wp_of e268 c268_19 (rw_icmp_eq (p1 := 36) (p2 := 22) (by decide) rfl ⟨by omega, by omega⟩ ⟨by omega, by omega⟩ (fun c180010 => ?_) (fun c180010 => ?_))
        · refine wp_of e268 c268_36 (rw_aload_n (pc' := 37) (v := .ref r0) rfl rfl rfl ?_)
          refine wp_of e268 c268_37 (rw_iload_n (pc' := 38) (z := v179993) rfl rfl ?_)
          refine wp_of e268 c268_38 (rw_iload_n (pc' := 39) (z := a1) rfl rfl ?_)
          have k180011 : H179995 r0 29 = H r0 29 := (f179997 r0 29 _ g0 rfl)
          have k180012 : wLM H179995 r0 = wLM H r0 := (wLM_fr hW g0 f179997 rfl)
          refine wp_of e268 c268_39 (xc_V (pc' := 42) (r := r0) (as := [vI v179993, vI a1]) (st := []) (lm_9_465) rfl rfl (Nat.le_of_ble_eq_true rfl) w179996 g0 sh_42 (by decide) rfl (by decide) (s_270 w179996 g0 ⟨by omega, by omega⟩ ⟨by omega, by omega⟩ q180003 gpp (by omega)) (fun R180013 T180014 H180015 p180016 => ?_))
          obtain ⟨e180017, w180019, f180020, z180021, e180018, b180022⟩ := p180016
          subst e180017
          subst e180018
          have f180023 := f180001.tr f180020 rfl
          have f180024 := f179997.tr f180020 rfl
          show wp _ _ 268 42 [(3, vI v179993), (2, vI v179994), (0, .ref r0), (1, vI a1)] [vI z180021] _ H180015 _
          refine wp_of e268 c268_42 (rw_if_eq (p1 := 47) (p2 := 45) (by decide) rfl ⟨by omega, by omega⟩ (fun c180025 => ?_) (fun c180025 => ?_))
          · refine wp_of e268 c268_47 (rw_iinc (pc' := 50) (z := v179993) (L' := [(3, vI (v179993 + 1)), (2, vI v179994), (0, .ref r0), (1, vI a1)]) rfl rfl rfl rfl ?_)
            refine wp_of e268 c268_50 (rw_goto (p1 := 4) (by decide) ?_)
            exact wp_lc (ks := [3, 2, 0, 1]) (wl_c rfl (wl_c rfl (wl_c rfl (wl_c rfl wl_n)))) rfl (by decide) (ih179992 _ (by omega) (v179993 + 1) v179994 H180015 w180019 f180024 ⟨by omega, by omega⟩ ⟨by omega, by omega⟩ rfl)
          · refine wp_of e268 c268_45 (rw_iload_n (pc' := 46) (z := v179993) rfl rfl ?_)
            refine wp_of e268 c268_46 (rw_istore_n (pc' := 47) (z := v179993) (L' := [(2, vI v179993), (3, vI v179993), (0, .ref r0), (1, vI a1)]) rfl rfl rfl ?_)
            refine wp_of e268 c268_47 (rw_iinc (pc' := 50) (z := v179993) (L' := [(3, vI (v179993 + 1)), (2, vI v179993), (0, .ref r0), (1, vI a1)]) rfl rfl rfl rfl ?_)
            refine wp_of e268 c268_50 (rw_goto (p1 := 4) (by decide) ?_)
            exact wp_lc (ks := [3, 2, 0, 1]) (wl_c rfl (wl_c rfl (wl_c rfl (wl_c rfl wl_n)))) rfl (by decide) (ih179992 _ (by omega) (v179993 + 1) v179993 H180015 w180019 f180024 ⟨by omega, by omega⟩ ⟨by omega, by omega⟩ rfl)
        · refine wp_of e268 c268_22 (rw_iload_n (pc' := 23) (z := v179993) rfl rfl ?_)
          refine wp_of e268 c268_23 (xc_S (pc' := 26) (as := [vI v179993]) (st := []) (lm_9_462) rfl rfl (Nat.le_of_ble_eq_true rfl) rfl (by decide) (s_269 w179996 ⟨by omega, by omega⟩) (fun R180026 T180027 H180028 p180029 => ?_))
          obtain ⟨e180030, e180032, z180033, e180031, b180034⟩ := p180029
          subst e180030
          subst e180031
          subst e180032
          show wp _ _ 268 26 [(3, vI v179993), (2, vI v179994), (0, .ref r0), (1, vI a1)] [vI z180033] _ H179995 _
          refine wp_of e268 c268_26 (rw_iload_n (pc' := 27) (z := v179994) rfl rfl ?_)
          refine wp_of e268 c268_27 (xc_S (pc' := 30) (as := [vI v179994]) (st := [vI z180033]) (lm_9_462) rfl rfl (Nat.le_of_ble_eq_true rfl) rfl (by decide) (s_269 w179996 ⟨by omega, by omega⟩) (fun R180035 T180036 H180037 p180038 => ?_))
          obtain ⟨e180039, e180041, z180042, e180040, b180043⟩ := p180038
          subst e180039
          subst e180040
          subst e180041
          show wp _ _ 268 30 [(3, vI v179993), (2, vI v179994), (0, .ref r0), (1, vI a1)] [vI z180042, vI z180033] _ H179995 _
          refine wp_of e268 c268_30 (rw_icmp_lt (p1 := 36) (p2 := 33) (by decide) rfl ⟨by omega, by omega⟩ ⟨by omega, by omega⟩ (fun c180044 => ?_) (fun c180044 => ?_))
          · refine wp_of e268 c268_36 (rw_aload_n (pc' := 37) (v := .ref r0) rfl rfl rfl ?_)
            refine wp_of e268 c268_37 (rw_iload_n (pc' := 38) (z := v179993) rfl rfl ?_)
            refine wp_of e268 c268_38 (rw_iload_n (pc' := 39) (z := a1) rfl rfl ?_)
            have k180045 : H179995 r0 29 = H r0 29 := (f179997 r0 29 _ g0 rfl)
            have k180046 : wLM H179995 r0 = wLM H r0 := (wLM_fr hW g0 f179997 rfl)
            refine wp_of e268 c268_39 (xc_V (pc' := 42) (r := r0) (as := [vI v179993, vI a1]) (st := []) (lm_9_465) rfl rfl (Nat.le_of_ble_eq_true rfl) w179996 g0 sh_42 (by decide) rfl (by decide) (s_270 w179996 g0 ⟨by omega, by omega⟩ ⟨by omega, by omega⟩ q180003 gpp (by omega)) (fun R180047 T180048 H180049 p180050 => ?_))
            obtain ⟨e180051, w180053, f180054, z180055, e180052, b180056⟩ := p180050
            subst e180051
            subst e180052
            have f180057 := f180001.tr f180054 rfl
            have f180058 := f179997.tr f180054 rfl
            show wp _ _ 268 42 [(3, vI v179993), (2, vI v179994), (0, .ref r0), (1, vI a1)] [vI z180055] _ H180049 _
            refine wp_of e268 c268_42 (rw_if_eq (p1 := 47) (p2 := 45) (by decide) rfl ⟨by omega, by omega⟩ (fun c180059 => ?_) (fun c180059 => ?_))
            · refine wp_of e268 c268_47 (rw_iinc (pc' := 50) (z := v179993) (L' := [(3, vI (v179993 + 1)), (2, vI v179994), (0, .ref r0), (1, vI a1)]) rfl rfl rfl rfl ?_)
              refine wp_of e268 c268_50 (rw_goto (p1 := 4) (by decide) ?_)
              exact wp_lc (ks := [3, 2, 0, 1]) (wl_c rfl (wl_c rfl (wl_c rfl (wl_c rfl wl_n)))) rfl (by decide) (ih179992 _ (by omega) (v179993 + 1) v179994 H180049 w180053 f180058 ⟨by omega, by omega⟩ ⟨by omega, by omega⟩ rfl)
            · refine wp_of e268 c268_45 (rw_iload_n (pc' := 46) (z := v179993) rfl rfl ?_)
              refine wp_of e268 c268_46 (rw_istore_n (pc' := 47) (z := v179993) (L' := [(2, vI v179993), (3, vI v179993), (0, .ref r0), (1, vI a1)]) rfl rfl rfl ?_)
              refine wp_of e268 c268_47 (rw_iinc (pc' := 50) (z := v179993) (L' := [(3, vI (v179993 + 1)), (2, vI v179993), (0, .ref r0), (1, vI a1)]) rfl rfl rfl rfl ?_)
              refine wp_of e268 c268_50 (rw_goto (p1 := 4) (by decide) ?_)
              exact wp_lc (ks := [3, 2, 0, 1]) (wl_c rfl (wl_c rfl (wl_c rfl (wl_c rfl wl_n)))) rfl (by decide) (ih179992 _ (by omega) (v179993 + 1) v179993 H180049 w180053 f180058 ⟨by omega, by omega⟩ ⟨by omega, by omega⟩ rfl)
          · refine wp_of e268 c268_33 (rw_goto (p1 := 47) (by decide) ?_)
            refine wp_of e268 c268_47 (rw_iinc (pc' := 50) (z := v179993) (L' := [(3, vI (v179993 + 1)), (2, vI v179994), (0, .ref r0), (1, vI a1)]) rfl rfl rfl rfl ?_)
            refine wp_of e268 c268_50 (rw_goto (p1 := 4) (by decide) ?_)
            exact wp_lc (ks := [3, 2, 0, 1]) (wl_c rfl (wl_c rfl (wl_c rfl (wl_c rfl wl_n)))) rfl (by decide) (ih179992 _ (by omega) (v179993 + 1) v179994 H179995 w179996 f179997 ⟨by omega, by omega⟩ ⟨by omega, by omega⟩ rfl)
  exact wp_lc (ks := [3, 2, 0, 1]) (wl_c rfl (wl_c rfl (wl_c rfl (wl_c rfl wl_n)))) rfl (by decide) (lp179990 _ 0 (-1) H hW wfr.rf ⟨by omega, by omega⟩ ⟨by omega, by omega⟩ rfl)
/-! StrikeAwakeModel.ask()I -/
theorem e266 : wq_en 266 = some (9, 2, false, some FieldType.int) := rfl
theorem c266_0 : mc_cd 266 0 = some (.aload_n 0, 1) := by decide +kernel
theorem c266_1 : mc_cd 266 1 = some (.iconst 0, 1) := by decide +kernel
theorem c266_2 : mc_cd 266 2 = some (.putfield 48, 3) := by decide +kernel
theorem c266_5 : mc_cd 266 5 = some (.aload_n 0, 1) := by decide +kernel
theorem c266_6 : mc_cd 266 6 = some (.aload_n 0, 1) := by decide +kernel
theorem c266_7 : mc_cd 266 7 = some (.getfield 337, 3) := by decide +kernel
theorem c266_10 : mc_cd 266 10 = some (.ifnull 7, 3) := by decide +kernel
theorem c266_13 : mc_cd 266 13 = some (.iconst 1, 1) := by decide +kernel
theorem c266_14 : mc_cd 266 14 = some (.goto 4, 3) := by decide +kernel
theorem c266_17 : mc_cd 266 17 = some (.iconst 0, 1) := by decide +kernel
theorem c266_18 : mc_cd 266 18 = some (.invokevirtual 467, 3) := by decide +kernel
theorem c266_21 : mc_cd 266 21 = some (.istore_n 1, 1) := by decide +kernel
theorem c266_22 : mc_cd 266 22 = some (.iload_n 1, 1) := by decide +kernel
theorem c266_23 : mc_cd 266 23 = some (.ifCond .le 11, 3) := by decide +kernel
theorem c266_26 : mc_cd 266 26 = some (.aload_n 0, 1) := by decide +kernel
theorem c266_27 : mc_cd 266 27 = some (.iload_n 1, 1) := by decide +kernel
theorem c266_28 : mc_cd 266 28 = some (.invokevirtual 54, 3) := by decide +kernel
theorem c266_31 : mc_cd 266 31 = some (.goto 12, 3) := by decide +kernel
theorem c266_34 : mc_cd 266 34 = some (.aload_n 0, 1) := by decide +kernel
theorem c266_35 : mc_cd 266 35 = some (.aload_n 0, 1) := by decide +kernel
theorem c266_36 : mc_cd 266 36 = some (.iconst (-1), 1) := by decide +kernel
theorem c266_37 : mc_cd 266 37 = some (.invokevirtual 470, 3) := by decide +kernel
theorem c266_40 : mc_cd 266 40 = some (.invokevirtual 58, 3) := by decide +kernel
theorem c266_43 : mc_cd 266 43 = some (.ireturn, 1) := by decide +kernel
abbrev q_266 (r0 : Nat) (T : wq_T) (H : wq_H) : Option Value → wq_T → wq_H → Prop := fun r T' H' => T = T' ∧ WT T H' ∧ wfr [(42, 0), (42, 1), (42, 2), (42, 28), (42, 29), (51, 999), (53, 999), (52, 999)] T H H' ∧ ∃ z : Int, some (vI z) = r ∧ ((-2147483648) ≤ z ∧ z ≤ 2147483647) ∧ (wKI H' r0 = 1) ∧ (H' r0 2 = -1)
set_option maxHeartbeats 4000000 in
theorem s_266 {kt : Nat → Option mc_E} {T : wq_T} {H : wq_H} {r0 : Nat} (hW : WT T H) (g0 : T.2.2.2 r0 = some 42) (p0 : wKI H r0 = 1) : wpc kt 10 266 [.ref r0] T H (q_266 r0 T H) := by
  refine wp_enter e266 (Nat.le_of_ble_eq_true rfl) rfl ?_
  have f0 : wfr [(42, 0), (42, 1), (42, 2), (42, 28), (42, 29), (51, 999), (53, 999), (52, 999)] T H H := wfr.rf
  show wp _ _ 266 0 [(0, .ref r0)] [] _ H _
  refine wp_of e266 c266_0 (rw_aload_n (pc' := 1) (v := .ref r0) rfl rfl rfl ?_)
  refine wp_of e266 c266_1 (rw_iconst (pc' := 2) rfl ?_)
  refine wp_of e266 c266_2 (xp_I (pc' := 5) lf_9_48 hW g0 sh_42 (by decide) (by decide) ty_42_0 rfl rfl (by omega) (by omega) ⟨by omega, by omega⟩ rfl (fun H180154 e180155 w180156 => ?_))
  have f180157 := f0.put' e180155 g0 rfl
  have k180158 : H180154 r0 0 = 0 := wq_u_s e180155
  refine wp_of e266 c266_5 (rw_aload_n (pc' := 6) (v := .ref r0) rfl rfl rfl ?_)
  refine wp_of e266 c266_6 (rw_aload_n (pc' := 7) (v := .ref r0) rfl rfl rfl ?_)
  refine wp_of e266 c266_7 (xg_O (pc' := 10) lf_9_337 w180156 g0 sh_42 (by decide) (by decide) ty_42_3 rfl rfl (fun q180160 => ?_) (fun r180159 q180160 g180161 => ?_))
  · refine wp_of e266 c266_10 (rw_ifnull_n (p1 := 17) (p2 := 13) (by decide) rfl ?_)
    refine wp_of e266 c266_17 (rw_iconst (pc' := 18) rfl ?_)
    have k180162 : wKI H180154 r0 = wKI H r0 := (wKI_fr hW g0 ((wfr.rf (l := [(42, 0)])).put' e180155 g0 rfl) rfl)
    refine wp_of e266 c266_18 (xc_V (pc' := 21) (r := r0) (as := [vI 0]) (st := []) (lm_9_467) rfl rfl (Nat.le_of_ble_eq_true rfl) w180156 g0 sh_42 (by decide) rfl (by decide) (s_267 w180156 g0 ⟨by omega, by omega⟩ (by omega) (by omega)) (fun R180163 T180164 H180165 p180166 => ?_))
    obtain ⟨e180167, w180169, f180170, z180175, e180168, b180176, p180171, p180172, p180173, p180174⟩ := p180166
    subst e180167
    subst e180168
    have f180177 := f180157.tr f180170 rfl
    show wp _ _ 266 21 [(0, .ref r0)] [vI z180175] _ H180165 _
    refine wp_of e266 c266_21 (rw_istore_n (pc' := 22) (z := z180175) (L' := [(1, vI z180175), (0, .ref r0)]) rfl rfl rfl ?_)
    refine wp_of e266 c266_22 (rw_iload_n (pc' := 23) (z := z180175) rfl rfl ?_)
    refine wp_of e266 c266_23 (rw_if_le (p1 := 34) (p2 := 26) (by decide) rfl ⟨by omega, by omega⟩ (fun c180178 => ?_) (fun c180178 => ?_))
    · exfalso
      omega
    · refine wp_of e266 c266_26 (rw_aload_n (pc' := 27) (v := .ref r0) rfl rfl rfl ?_)
      refine wp_of e266 c266_27 (rw_iload_n (pc' := 28) (z := z180175) rfl rfl ?_)
      refine wp_of e266 c266_28 (xc_V (pc' := 31) (r := r0) (as := [vI z180175]) (st := []) (lm_9_54) rfl rfl (Nat.le_of_ble_eq_true rfl) w180169 g0 sh_42 (by decide) rfl (by decide) (s_170 w180169 g0 ⟨by omega, by omega⟩) (fun R180179 T180180 H180181 p180182 => ?_))
      obtain ⟨e180183, w180185, f180186, z180188, e180184, b180189, p180187⟩ := p180182
      subst e180183
      subst e180184
      have f180190 := f180177.tr f180186 rfl
      show wp _ _ 266 31 [(1, vI z180175), (0, .ref r0)] [vI z180188] _ H180181 _
      refine wp_of e266 c266_31 (rw_goto (p1 := 43) (by decide) ?_)
      have k180191 : wKI H180181 r0 = wKI H180165 r0 := (wKI_fr w180169 g0 f180186 rfl)
      exact wp_ireturn e266 c266_43 rfl ⟨rfl, w180185, f180190, z180188, rfl, ⟨by omega, by omega⟩, by omega, by omega⟩
  · refine wp_of e266 c266_10 (rw_ifnull_r (p1 := 17) (p2 := 13) (by decide) rfl ?_)
    refine wp_of e266 c266_13 (rw_iconst (pc' := 14) rfl ?_)
    refine wp_of e266 c266_14 (rw_goto (p1 := 18) (by decide) ?_)
    have k180192 : wKI H180154 r0 = wKI H r0 := (wKI_fr hW g0 ((wfr.rf (l := [(42, 0)])).put' e180155 g0 rfl) rfl)
    refine wp_of e266 c266_18 (xc_V (pc' := 21) (r := r0) (as := [vI 1]) (st := []) (lm_9_467) rfl rfl (Nat.le_of_ble_eq_true rfl) w180156 g0 sh_42 (by decide) rfl (by decide) (s_267 w180156 g0 ⟨by omega, by omega⟩ (by omega) (by omega)) (fun R180193 T180194 H180195 p180196 => ?_))
    obtain ⟨e180197, w180199, f180200, z180205, e180198, b180206, p180201, p180202, p180203, p180204⟩ := p180196
    subst e180197
    subst e180198
    have f180207 := f180157.tr f180200 rfl
    show wp _ _ 266 21 [(0, .ref r0)] [vI z180205] _ H180195 _
    refine wp_of e266 c266_21 (rw_istore_n (pc' := 22) (z := z180205) (L' := [(1, vI z180205), (0, .ref r0)]) rfl rfl rfl ?_)
    refine wp_of e266 c266_22 (rw_iload_n (pc' := 23) (z := z180205) rfl rfl ?_)
    refine wp_of e266 c266_23 (rw_if_le (p1 := 34) (p2 := 26) (by decide) rfl ⟨by omega, by omega⟩ (fun c180208 => ?_) (fun c180208 => ?_))
    · refine wp_of e266 c266_34 (rw_aload_n (pc' := 35) (v := .ref r0) rfl rfl rfl ?_)
      refine wp_of e266 c266_35 (rw_aload_n (pc' := 36) (v := .ref r0) rfl rfl rfl ?_)
      refine wp_of e266 c266_36 (rw_iconst (pc' := 37) rfl ?_)
      have k180209 : H180195 r0 3 = H180154 r0 3 := (f180200 r0 3 _ g0 rfl)
      have q180210 : H180195 r0 3 = (r180159 : Int) := k180209.trans q180160
      refine wp_of e266 c266_37 (xc_V (pc' := 40) (r := r0) (as := [vI (-1)]) (st := [.ref r0]) (lm_9_470) rfl rfl (Nat.le_of_ble_eq_true rfl) w180199 g0 sh_42 (by decide) rfl (by decide) (s_268 w180199 g0 ⟨by omega, by omega⟩ q180210 g180161 (by omega)) (fun R180211 T180212 H180213 p180214 => ?_))
      obtain ⟨e180215, w180217, f180218, z180219, e180216, b180220⟩ := p180214
      subst e180215
      subst e180216
      have f180221 := f180207.tr f180218 rfl
      show wp _ _ 266 40 [(1, vI z180205), (0, .ref r0)] [vI z180219, .ref r0] _ H180213 _
      refine wp_of e266 c266_40 (xc_V (pc' := 43) (r := r0) (as := [vI z180219]) (st := []) (lm_9_58) rfl rfl (Nat.le_of_ble_eq_true rfl) w180217 g0 sh_42 (by decide) rfl (by decide) (s_209 w180217 g0 ⟨by omega, by omega⟩) (fun R180222 T180223 H180224 p180225 => ?_))
      obtain ⟨e180226, w180228, f180229, z180231, e180227, b180232, p180230⟩ := p180225
      subst e180226
      subst e180227
      have f180233 := f180221.tr f180229 rfl
      show wp _ _ 266 43 [(1, vI z180205), (0, .ref r0)] [vI z180231] _ H180224 _
      have k180234 : wKI H180224 r0 = wKI H180195 r0 := ((wKI_fr w180217 g0 f180229 rfl).trans (wKI_fr w180199 g0 f180218 rfl))
      exact wp_ireturn e266 c266_43 rfl ⟨rfl, w180228, f180233, z180231, rfl, ⟨by omega, by omega⟩, by omega, by omega⟩
    · refine wp_of e266 c266_26 (rw_aload_n (pc' := 27) (v := .ref r0) rfl rfl rfl ?_)
      refine wp_of e266 c266_27 (rw_iload_n (pc' := 28) (z := z180205) rfl rfl ?_)
      refine wp_of e266 c266_28 (xc_V (pc' := 31) (r := r0) (as := [vI z180205]) (st := []) (lm_9_54) rfl rfl (Nat.le_of_ble_eq_true rfl) w180199 g0 sh_42 (by decide) rfl (by decide) (s_170 w180199 g0 ⟨by omega, by omega⟩) (fun R180235 T180236 H180237 p180238 => ?_))
      obtain ⟨e180239, w180241, f180242, z180244, e180240, b180245, p180243⟩ := p180238
      subst e180239
      subst e180240
      have f180246 := f180207.tr f180242 rfl
      show wp _ _ 266 31 [(1, vI z180205), (0, .ref r0)] [vI z180244] _ H180237 _
      refine wp_of e266 c266_31 (rw_goto (p1 := 43) (by decide) ?_)
      have k180247 : wKI H180237 r0 = wKI H180195 r0 := (wKI_fr w180199 g0 f180242 rfl)
      exact wp_ireturn e266 c266_43 rfl ⟨rfl, w180241, f180246, z180244, rfl, ⟨by omega, by omega⟩, by omega, by omega⟩
/-! StrikeAwakeModel.askFor(I)I -/
theorem e271 : wq_en 271 = some (9, 3, false, some FieldType.int) := rfl
theorem c271_0 : mc_cd 271 0 = some (.aload_n 0, 1) := by decide +kernel
theorem c271_1 : mc_cd 271 1 = some (.iconst 0, 1) := by decide +kernel
theorem c271_2 : mc_cd 271 2 = some (.putfield 48, 3) := by decide +kernel
theorem c271_5 : mc_cd 271 5 = some (.aload_n 0, 1) := by decide +kernel
theorem c271_6 : mc_cd 271 6 = some (.aload_n 0, 1) := by decide +kernel
theorem c271_7 : mc_cd 271 7 = some (.iload_n 1, 1) := by decide +kernel
theorem c271_8 : mc_cd 271 8 = some (.invokevirtual 373, 3) := by decide +kernel
theorem c271_11 : mc_cd 271 11 = some (.invokevirtual 467, 3) := by decide +kernel
theorem c271_14 : mc_cd 271 14 = some (.istore_n 2, 1) := by decide +kernel
theorem c271_15 : mc_cd 271 15 = some (.iload_n 2, 1) := by decide +kernel
theorem c271_16 : mc_cd 271 16 = some (.ifCond .le 11, 3) := by decide +kernel
theorem c271_19 : mc_cd 271 19 = some (.aload_n 0, 1) := by decide +kernel
theorem c271_20 : mc_cd 271 20 = some (.iload_n 2, 1) := by decide +kernel
theorem c271_21 : mc_cd 271 21 = some (.invokevirtual 54, 3) := by decide +kernel
theorem c271_24 : mc_cd 271 24 = some (.goto 12, 3) := by decide +kernel
theorem c271_27 : mc_cd 271 27 = some (.aload_n 0, 1) := by decide +kernel
theorem c271_28 : mc_cd 271 28 = some (.aload_n 0, 1) := by decide +kernel
theorem c271_29 : mc_cd 271 29 = some (.iload_n 1, 1) := by decide +kernel
theorem c271_30 : mc_cd 271 30 = some (.invokevirtual 470, 3) := by decide +kernel
theorem c271_33 : mc_cd 271 33 = some (.invokevirtual 58, 3) := by decide +kernel
theorem c271_36 : mc_cd 271 36 = some (.ireturn, 1) := by decide +kernel
abbrev q_271 (r0 : Nat) (a1 : Int) (T : wq_T) (H : wq_H) : Option Value → wq_T → wq_H → Prop := fun r T' H' => T = T' ∧ WT T H' ∧ wfr [(42, 0), (42, 1), (42, 2), (42, 28), (42, 29), (51, 999), (53, 999), (52, 999)] T H H' ∧ ∃ z : Int, some (vI z) = r ∧ ((-2147483648) ≤ z ∧ z ≤ 2147483647) ∧ (wKI H' r0 = 1) ∧ (H' r0 2 = -1)
set_option maxHeartbeats 4000000 in
theorem s_271 {kt : Nat → Option mc_E} {T : wq_T} {H : wq_H} {r0 : Nat} {a1 : Int} (hW : WT T H) (g0 : T.2.2.2 r0 = some 42) (i1 : (-2147483648) ≤ a1 ∧ a1 ≤ 2147483647) (p0 : wKI H r0 = 1) : wpc kt 10 271 [.ref r0, vI a1] T H (q_271 r0 a1 T H) := by
  refine wp_enter e271 (Nat.le_of_ble_eq_true rfl) rfl ?_
  have f0 : wfr [(42, 0), (42, 1), (42, 2), (42, 28), (42, 29), (51, 999), (53, 999), (52, 999)] T H H := wfr.rf
  show wp _ _ 271 0 [(0, .ref r0), (1, vI a1)] [] _ H _
  refine wp_of e271 c271_0 (rw_aload_n (pc' := 1) (v := .ref r0) rfl rfl rfl ?_)
  refine wp_of e271 c271_1 (rw_iconst (pc' := 2) rfl ?_)
  refine wp_of e271 c271_2 (xp_I (pc' := 5) lf_9_48 hW g0 sh_42 (by decide) (by decide) ty_42_0 rfl rfl (by omega) (by omega) ⟨by omega, by omega⟩ rfl (fun H180321 e180322 w180323 => ?_))
  have f180324 := f0.put' e180322 g0 rfl
  have k180325 : H180321 r0 0 = 0 := wq_u_s e180322
  refine wp_of e271 c271_5 (rw_aload_n (pc' := 6) (v := .ref r0) rfl rfl rfl ?_)
  refine wp_of e271 c271_6 (rw_aload_n (pc' := 7) (v := .ref r0) rfl rfl rfl ?_)
  refine wp_of e271 c271_7 (rw_iload_n (pc' := 8) (z := a1) rfl rfl ?_)
  refine wp_of e271 c271_8 (xc_V (pc' := 11) (r := r0) (as := [vI a1]) (st := [.ref r0]) (lm_9_373) rfl rfl (Nat.le_of_ble_eq_true rfl) w180323 g0 sh_42 (by decide) rfl (by decide) (s_218 w180323 g0 ⟨by omega, by omega⟩) (fun R180326 T180327 H180328 p180329 => ?_))
  obtain ⟨e180330, e180332, z180334, e180331, b180335, p180333⟩ := p180329
  subst e180330
  subst e180331
  subst e180332
  show wp _ _ 271 11 [(0, .ref r0), (1, vI a1)] [vI z180334, .ref r0] _ H180321 _
  have k180336 : wKI H180321 r0 = wKI H r0 := (wKI_fr hW g0 ((wfr.rf (l := [(42, 0)])).put' e180322 g0 rfl) rfl)
  refine wp_of e271 c271_11 (xc_V (pc' := 14) (r := r0) (as := [vI z180334]) (st := []) (lm_9_467) rfl rfl (Nat.le_of_ble_eq_true rfl) w180323 g0 sh_42 (by decide) rfl (by decide) (s_267 w180323 g0 ⟨by omega, by omega⟩ (by omega) (by omega)) (fun R180337 T180338 H180339 p180340 => ?_))
  obtain ⟨e180341, w180343, f180344, z180349, e180342, b180350, p180345, p180346, p180347, p180348⟩ := p180340
  subst e180341
  subst e180342
  have f180351 := f180324.tr f180344 rfl
  show wp _ _ 271 14 [(0, .ref r0), (1, vI a1)] [vI z180349] _ H180339 _
  refine wp_of e271 c271_14 (rw_istore_n (pc' := 15) (z := z180349) (L' := [(2, vI z180349), (0, .ref r0), (1, vI a1)]) rfl rfl rfl ?_)
  refine wp_of e271 c271_15 (rw_iload_n (pc' := 16) (z := z180349) rfl rfl ?_)
  refine wp_of e271 c271_16 (rw_if_le (p1 := 27) (p2 := 19) (by decide) rfl ⟨by omega, by omega⟩ (fun c180352 => ?_) (fun c180352 => ?_))
  · refine wp_of e271 c271_27 (rw_aload_n (pc' := 28) (v := .ref r0) rfl rfl rfl ?_)
    refine wp_of e271 c271_28 (rw_aload_n (pc' := 29) (v := .ref r0) rfl rfl rfl ?_)
    refine wp_of e271 c271_29 (rw_iload_n (pc' := 30) (z := a1) rfl rfl ?_)
    have k180353 : H180339 r0 3 = H180321 r0 3 := (f180344 r0 3 _ g0 rfl)
    obtain ⟨r180354, q180355, g180356⟩ := (w180343.opt g0 (t' := 54) (n := 33) (j := 3) (p := 0) (q := 0) rfl (by decide) rfl).resolve_left (by omega)
    refine wp_of e271 c271_30 (xc_V (pc' := 33) (r := r0) (as := [vI a1]) (st := [.ref r0]) (lm_9_470) rfl rfl (Nat.le_of_ble_eq_true rfl) w180343 g0 sh_42 (by decide) rfl (by decide) (s_268 w180343 g0 ⟨by omega, by omega⟩ q180355 g180356 (by omega)) (fun R180357 T180358 H180359 p180360 => ?_))
    obtain ⟨e180361, w180363, f180364, z180365, e180362, b180366⟩ := p180360
    subst e180361
    subst e180362
    have f180367 := f180351.tr f180364 rfl
    show wp _ _ 271 33 [(2, vI z180349), (0, .ref r0), (1, vI a1)] [vI z180365, .ref r0] _ H180359 _
    refine wp_of e271 c271_33 (xc_V (pc' := 36) (r := r0) (as := [vI z180365]) (st := []) (lm_9_58) rfl rfl (Nat.le_of_ble_eq_true rfl) w180363 g0 sh_42 (by decide) rfl (by decide) (s_209 w180363 g0 ⟨by omega, by omega⟩) (fun R180368 T180369 H180370 p180371 => ?_))
    obtain ⟨e180372, w180374, f180375, z180377, e180373, b180378, p180376⟩ := p180371
    subst e180372
    subst e180373
    have f180379 := f180367.tr f180375 rfl
    show wp _ _ 271 36 [(2, vI z180349), (0, .ref r0), (1, vI a1)] [vI z180377] _ H180370 _
    have k180380 : wKI H180370 r0 = wKI H180339 r0 := ((wKI_fr w180363 g0 f180375 rfl).trans (wKI_fr w180343 g0 f180364 rfl))
    exact wp_ireturn e271 c271_36 rfl ⟨rfl, w180374, f180379, z180377, rfl, ⟨by omega, by omega⟩, by omega, by omega⟩
  · refine wp_of e271 c271_19 (rw_aload_n (pc' := 20) (v := .ref r0) rfl rfl rfl ?_)
    refine wp_of e271 c271_20 (rw_iload_n (pc' := 21) (z := z180349) rfl rfl ?_)
    refine wp_of e271 c271_21 (xc_V (pc' := 24) (r := r0) (as := [vI z180349]) (st := []) (lm_9_54) rfl rfl (Nat.le_of_ble_eq_true rfl) w180343 g0 sh_42 (by decide) rfl (by decide) (s_170 w180343 g0 ⟨by omega, by omega⟩) (fun R180381 T180382 H180383 p180384 => ?_))
    obtain ⟨e180385, w180387, f180388, z180390, e180386, b180391, p180389⟩ := p180384
    subst e180385
    subst e180386
    have f180392 := f180351.tr f180388 rfl
    show wp _ _ 271 24 [(2, vI z180349), (0, .ref r0), (1, vI a1)] [vI z180390] _ H180383 _
    refine wp_of e271 c271_24 (rw_goto (p1 := 36) (by decide) ?_)
    have k180393 : wKI H180383 r0 = wKI H180339 r0 := (wKI_fr w180343 g0 f180388 rfl)
    exact wp_ireturn e271 c271_36 rfl ⟨rfl, w180387, f180392, z180390, rfl, ⟨by omega, by omega⟩, by omega, by omega⟩
/-! StrikeAwakeModel.isTold(I)Z -/
theorem e273 : wq_en 273 = some (9, 2, false, some FieldType.boolean) := rfl
theorem c273_0 : mc_cd 273 0 = some (.aload_n 0, 1) := by decide +kernel
theorem c273_1 : mc_cd 273 1 = some (.getfield 337, 3) := by decide +kernel
theorem c273_4 : mc_cd 273 4 = some (.ifnull 22, 3) := by decide +kernel
theorem c273_7 : mc_cd 273 7 = some (.iload_n 1, 1) := by decide +kernel
theorem c273_8 : mc_cd 273 8 = some (.ifCond .lt 18, 3) := by decide +kernel
theorem c273_11 : mc_cd 273 11 = some (.iload_n 1, 1) := by decide +kernel
theorem c273_12 : mc_cd 273 12 = some (.aload_n 0, 1) := by decide +kernel
theorem c273_13 : mc_cd 273 13 = some (.getfield 337, 3) := by decide +kernel
theorem c273_16 : mc_cd 273 16 = some (.getfield 306, 3) := by decide +kernel
theorem c273_19 : mc_cd 273 19 = some (.if_icmp .ge 7, 3) := by decide +kernel
theorem c273_22 : mc_cd 273 22 = some (.iconst 1, 1) := by decide +kernel
theorem c273_23 : mc_cd 273 23 = some (.goto 4, 3) := by decide +kernel
theorem c273_26 : mc_cd 273 26 = some (.iconst 0, 1) := by decide +kernel
theorem c273_27 : mc_cd 273 27 = some (.ireturn, 1) := by decide +kernel
abbrev q_273 (r0 : Nat) (a1 : Int) (T : wq_T) (H : wq_H) : Option Value → wq_T → wq_H → Prop := fun r T' H' => T = T' ∧ H = H' ∧ ∃ z : Int, some (vI z) = r ∧ (0 ≤ z ∧ z ≤ 1) ∧ (z = 0 ∨ (H r0 3 ≠ -1 ∧ 0 ≤ a1 ∧ a1 ≤ 3))
set_option maxHeartbeats 4000000 in
theorem s_273 {kt : Nat → Option mc_E} {T : wq_T} {H : wq_H} {r0 : Nat} {a1 : Int} (hW : WT T H) (g0 : T.2.2.2 r0 = some 42) (i1 : (-2147483648) ≤ a1 ∧ a1 ≤ 2147483647) : wpc kt 1 273 [.ref r0, vI a1] T H (q_273 r0 a1 T H) := by
  refine wp_enter e273 (Nat.le_of_ble_eq_true rfl) rfl ?_
  show wp _ _ 273 0 [(0, .ref r0), (1, vI a1)] [] _ H _
  refine wp_of e273 c273_0 (rw_aload_n (pc' := 1) (v := .ref r0) rfl rfl rfl ?_)
  refine wp_of e273 c273_1 (xg_O (pc' := 4) lf_9_337 hW g0 sh_42 (by decide) (by decide) ty_42_3 rfl rfl (fun q180402 => ?_) (fun r180401 q180402 g180403 => ?_))
  · refine wp_of e273 c273_4 (rw_ifnull_n (p1 := 26) (p2 := 7) (by decide) rfl ?_)
    refine wp_of e273 c273_26 (rw_iconst (pc' := 27) rfl ?_)
    exact wp_zreturn e273 c273_27 rfl (by omega) ⟨rfl, rfl, 0, rfl, ⟨by omega, by omega⟩, by omega⟩
  · refine wp_of e273 c273_4 (rw_ifnull_r (p1 := 26) (p2 := 7) (by decide) rfl ?_)
    refine wp_of e273 c273_7 (rw_iload_n (pc' := 8) (z := a1) rfl rfl ?_)
    refine wp_of e273 c273_8 (rw_if_lt (p1 := 26) (p2 := 11) (by decide) rfl ⟨by omega, by omega⟩ (fun c180404 => ?_) (fun c180404 => ?_))
    · refine wp_of e273 c273_26 (rw_iconst (pc' := 27) rfl ?_)
      exact wp_zreturn e273 c273_27 rfl (by omega) ⟨rfl, rfl, 0, rfl, ⟨by omega, by omega⟩, by omega⟩
    · refine wp_of e273 c273_11 (rw_iload_n (pc' := 12) (z := a1) rfl rfl ?_)
      refine wp_of e273 c273_12 (rw_aload_n (pc' := 13) (v := .ref r0) rfl rfl rfl ?_)
      refine wp_of e273 c273_13 (xg_K (pc' := 16) lf_9_337 hW g0 sh_42 (by decide) (by decide) rfl q180402 rfl ?_)
      refine wp_of e273 c273_16 (xg_I (pc' := 19) lf_9_306 hW g180403 sh_54 (by decide) (by decide) ty_54_6 rfl rfl (fun b180405 b180406 => ?_))
      refine wp_of e273 c273_19 (rw_icmp_ge (p1 := 26) (p2 := 22) (by decide) rfl ⟨by omega, by omega⟩ ⟨by omega, by omega⟩ (fun c180407 => ?_) (fun c180407 => ?_))
      · refine wp_of e273 c273_26 (rw_iconst (pc' := 27) rfl ?_)
        exact wp_zreturn e273 c273_27 rfl (by omega) ⟨rfl, rfl, 0, rfl, ⟨by omega, by omega⟩, by omega⟩
      · refine wp_of e273 c273_22 (rw_iconst (pc' := 23) rfl ?_)
        refine wp_of e273 c273_23 (rw_goto (p1 := 27) (by decide) ?_)
        exact wp_zreturn e273 c273_27 rfl (by omega) ⟨rfl, rfl, 1, rfl, ⟨by omega, by omega⟩, by omega⟩
/-! StrikeAwakeModel.barsOf(I)I -/
theorem e274 : wq_en 274 = some (9, 7, false, some FieldType.int) := rfl
theorem c274_0 : mc_cd 274 0 = some (.aload_n 0, 1) := by decide +kernel
theorem c274_1 : mc_cd 274 1 = some (.getfield 337, 3) := by decide +kernel
theorem c274_4 : mc_cd 274 4 = some (.getfield 312, 3) := by decide +kernel
theorem c274_7 : mc_cd 274 7 = some (.iload_n 1, 1) := by decide +kernel
theorem c274_8 : mc_cd 274 8 = some (.iaload, 1) := by decide +kernel
theorem c274_9 : mc_cd 274 9 = some (.istore_n 2, 1) := by decide +kernel
theorem c274_10 : mc_cd 274 10 = some (.aload_n 0, 1) := by decide +kernel
theorem c274_11 : mc_cd 274 11 = some (.getfield 337, 3) := by decide +kernel
theorem c274_14 : mc_cd 274 14 = some (.getfield 315, 3) := by decide +kernel
theorem c274_17 : mc_cd 274 17 = some (.iload_n 1, 1) := by decide +kernel
theorem c274_18 : mc_cd 274 18 = some (.iaload, 1) := by decide +kernel
theorem c274_19 : mc_cd 274 19 = some (.aload_n 0, 1) := by decide +kernel
theorem c274_20 : mc_cd 274 20 = some (.getfield 343, 3) := by decide +kernel
theorem c274_23 : mc_cd 274 23 = some (.iand, 1) := by decide +kernel
theorem c274_24 : mc_cd 274 24 = some (.istore_n 3, 1) := by decide +kernel
theorem c274_25 : mc_cd 274 25 = some (.sipush (-1000), 3) := by decide +kernel
theorem c274_28 : mc_cd 274 28 = some (.istore 4, 2) := by decide +kernel
theorem c274_30 : mc_cd 274 30 = some (.iconst 0, 1) := by decide +kernel
theorem c274_31 : mc_cd 274 31 = some (.istore 5, 2) := by decide +kernel
theorem c274_33 : mc_cd 274 33 = some (.iload 5, 2) := by decide +kernel
theorem c274_35 : mc_cd 274 35 = some (.i2l, 1) := by decide +kernel
theorem c274_36 : mc_cd 274 36 = some (.aload_n 0, 1) := by decide +kernel
theorem c274_37 : mc_cd 274 37 = some (.invokevirtual 376, 3) := by decide +kernel
theorem c274_40 : mc_cd 274 40 = some (.lcmp, 1) := by decide +kernel
theorem c274_41 : mc_cd 274 41 = some (.ifCond .ge 82, 3) := by decide +kernel
theorem c274_44 : mc_cd 274 44 = some (.aload_n 0, 1) := by decide +kernel
theorem c274_45 : mc_cd 274 45 = some (.iload 5, 2) := by decide +kernel
theorem c274_47 : mc_cd 274 47 = some (.invokevirtual 425, 3) := by decide +kernel
theorem c274_50 : mc_cd 274 50 = some (.iload_n 3, 1) := by decide +kernel
theorem c274_51 : mc_cd 274 51 = some (.aload_n 0, 1) := by decide +kernel
theorem c274_52 : mc_cd 274 52 = some (.getfield 30, 3) := by decide +kernel
theorem c274_55 : mc_cd 274 55 = some (.bipush 40, 2) := by decide +kernel
theorem c274_57 : mc_cd 274 57 = some (.iload_n 2, 1) := by decide +kernel
theorem c274_58 : mc_cd 274 58 = some (.imul, 1) := by decide +kernel
theorem c274_59 : mc_cd 274 59 = some (.aload_n 0, 1) := by decide +kernel
theorem c274_60 : mc_cd 274 60 = some (.getfield 39, 3) := by decide +kernel
theorem c274_63 : mc_cd 274 63 = some (.iload_n 2, 1) := by decide +kernel
theorem c274_64 : mc_cd 274 64 = some (.iaload, 1) := by decide +kernel
theorem c274_65 : mc_cd 274 65 = some (.iadd, 1) := by decide +kernel
theorem c274_66 : mc_cd 274 66 = some (.iaload, 1) := by decide +kernel
theorem c274_67 : mc_cd 274 67 = some (.iconst (-1), 1) := by decide +kernel
theorem c274_68 : mc_cd 274 68 = some (.ixor, 1) := by decide +kernel
theorem c274_69 : mc_cd 274 69 = some (.iand, 1) := by decide +kernel
theorem c274_70 : mc_cd 274 70 = some (.ifCond .ne 47, 3) := by decide +kernel
theorem c274_73 : mc_cd 274 73 = some (.aload_n 0, 1) := by decide +kernel
theorem c274_74 : mc_cd 274 74 = some (.aload_n 0, 1) := by decide +kernel
theorem c274_75 : mc_cd 274 75 = some (.getfield 39, 3) := by decide +kernel
theorem c274_78 : mc_cd 274 78 = some (.invokevirtual 393, 3) := by decide +kernel
theorem c274_81 : mc_cd 274 81 = some (.ifCond .eq 6, 3) := by decide +kernel
theorem c274_84 : mc_cd 274 84 = some (.goto 33, 3) := by decide +kernel
theorem c274_87 : mc_cd 274 87 = some (.aload_n 0, 1) := by decide +kernel
theorem c274_88 : mc_cd 274 88 = some (.aload_n 0, 1) := by decide +kernel
theorem c274_89 : mc_cd 274 89 = some (.getfield 39, 3) := by decide +kernel
theorem c274_92 : mc_cd 274 92 = some (.aload_n 0, 1) := by decide +kernel
theorem c274_93 : mc_cd 274 93 = some (.getfield 343, 3) := by decide +kernel
theorem c274_96 : mc_cd 274 96 = some (.invokevirtual 397, 3) := by decide +kernel
theorem c274_99 : mc_cd 274 99 = some (.istore 6, 2) := by decide +kernel
theorem c274_101 : mc_cd 274 101 = some (.iload 6, 2) := by decide +kernel
theorem c274_103 : mc_cd 274 103 = some (.iload 4, 2) := by decide +kernel
theorem c274_105 : mc_cd 274 105 = some (.if_icmp .le 8, 3) := by decide +kernel
theorem c274_108 : mc_cd 274 108 = some (.iload 6, 2) := by decide +kernel
theorem c274_110 : mc_cd 274 110 = some (.goto 5, 3) := by decide +kernel
theorem c274_113 : mc_cd 274 113 = some (.iload 4, 2) := by decide +kernel
theorem c274_115 : mc_cd 274 115 = some (.istore 4, 2) := by decide +kernel
theorem c274_117 : mc_cd 274 117 = some (.iinc 5 1, 3) := by decide +kernel
theorem c274_120 : mc_cd 274 120 = some (.goto (-87), 3) := by decide +kernel
theorem c274_123 : mc_cd 274 123 = some (.iload 4, 2) := by decide +kernel
theorem c274_125 : mc_cd 274 125 = some (.ireturn, 1) := by decide +kernel
abbrev q_274 (r0 : Nat) (a1 : Int) (pp : Nat) (T : wq_T) (H : wq_H) : Option Value → wq_T → wq_H → Prop := fun r T' H' => T = T' ∧ WT T H' ∧ wfr [(51, 999)] T H H' ∧ ∃ z : Int, some (vI z) = r ∧ ((-2147483648) ≤ z ∧ z ≤ 2147483647)
set_option maxHeartbeats 4000000 in
theorem s_274 {kt : Nat → Option mc_E} {T : wq_T} {H : wq_H} {r0 : Nat} {a1 : Int} {pp : Nat} (hW : WT T H) (g0 : T.2.2.2 r0 = some 42) (i1 : 0 ≤ a1 ∧ a1 ≤ 3) (qpp : H r0 3 = (pp : Int)) (gpp : T.2.2.2 pp = some 54) (p0 : wLM H r0 ≤ 20000) : wpc kt 5 274 [.ref r0, vI a1] T H (q_274 r0 a1 pp T H) := by
  refine wp_enter e274 (Nat.le_of_ble_eq_true rfl) rfl ?_
  have f0 : wfr [(51, 999)] T H H := wfr.rf
  show wp _ _ 274 0 [(0, .ref r0), (1, vI a1)] [] _ H _
  refine wp_of e274 c274_0 (rw_aload_n (pc' := 1) (v := .ref r0) rfl rfl rfl ?_)
  refine wp_of e274 c274_1 (xg_K (pc' := 4) lf_9_337 hW g0 sh_42 (by decide) (by decide) rfl qpp rfl ?_)
  refine wp_of e274 c274_4 (xg_R (pc' := 7) lf_9_312 hW gpp sh_54 (by decide) (by decide) ty_54_22 rfl rfl (fun r180999 q181000 g181001 => ?_))
  refine wp_of e274 c274_7 (rw_iload_n (pc' := 8) (z := a1) rfl rfl ?_)
  refine wp_of e274 c274_8 (xa_I (so := 0) (pc' := 9) hW g181001 sh_68 (by decide) (ty_68 _) (by omega) (by omega) rfl (fun b181002 b181003 => ?_))
  refine wp_of e274 c274_9 (rw_istore_n (pc' := 10) (z := H r180999 (a1.toNat)) (L' := [(2, vI (H r180999 (a1.toNat))), (0, .ref r0), (1, vI a1)]) rfl rfl rfl ?_)
  refine wp_of e274 c274_10 (rw_aload_n (pc' := 11) (v := .ref r0) rfl rfl rfl ?_)
  refine wp_of e274 c274_11 (xg_K (pc' := 14) lf_9_337 hW g0 sh_42 (by decide) (by decide) rfl qpp rfl ?_)
  refine wp_of e274 c274_14 (xg_R (pc' := 17) lf_9_315 hW gpp sh_54 (by decide) (by decide) ty_54_23 rfl rfl (fun r181004 q181005 g181006 => ?_))
  refine wp_of e274 c274_17 (rw_iload_n (pc' := 18) (z := a1) rfl rfl ?_)
  refine wp_of e274 c274_18 (xa_I (so := 0) (pc' := 19) hW g181006 sh_69 (by decide) (ty_69 _) (by omega) (by omega) rfl (fun b181007 b181008 => ?_))
  refine wp_of e274 c274_19 (rw_aload_n (pc' := 20) (v := .ref r0) rfl rfl rfl ?_)
  refine wp_of e274 c274_20 (xg_I (pc' := 23) lf_9_343 hW g0 sh_42 (by decide) (by decide) ty_42_19 rfl rfl (fun b181009 b181010 => ?_))
  refine wp_of e274 c274_23 (rw_iand (pc' := 24) rfl ?_)
  obtain ⟨v181011, e181012⟩ : ∃ x : Int, x = wq_and (H r181004 (a1.toNat)) (H r0 19) := ⟨_, rfl⟩
  rw [← e181012]
  have b181013 : -2147483648 ≤ v181011 ∧ v181011 ≤ 2147483647 := by
    rw [e181012]
    exact wI_and _ _
  refine wp_of e274 c274_24 (rw_istore_n (pc' := 25) (z := v181011) (L' := [(3, vI v181011), (2, vI (H r180999 (a1.toNat))), (0, .ref r0), (1, vI a1)]) rfl rfl rfl ?_)
  refine wp_of e274 c274_25 (rw_sipush (pc' := 28) (z := -1000) rfl (by decide) ?_)
  refine wp_of e274 c274_28 (rw_istore (pc' := 30) (z := -1000) (L' := [(4, vI (-1000)), (3, vI v181011), (2, vI (H r180999 (a1.toNat))), (0, .ref r0), (1, vI a1)]) rfl rfl rfl ?_)
  refine wp_of e274 c274_30 (rw_iconst (pc' := 31) rfl ?_)
  refine wp_of e274 c274_31 (rw_istore (pc' := 33) (z := 0) (L' := [(5, vI 0), (4, vI (-1000)), (3, vI v181011), (2, vI (H r180999 (a1.toNat))), (0, .ref r0), (1, vI a1)]) rfl rfl rfl ?_)
  have lp181526 : ∀ (n181527 : Nat) (v181529 : Int) (v181530 : Int) (H181531 : wq_H), WT T H181531 → wfr [(51, 999)] T H H181531 → (0 ≤ v181529 ∧ v181529 ≤ 20000) → ((-1000) ≤ v181530 ∧ v181530 ≤ 24) → (20000 - v181529).toNat = n181527 → wp kt 4 274 33 [(5, vI v181529), (4, vI v181530), (3, vI v181011), (2, vI (H r180999 (a1.toNat))), (0, .ref r0)] [] T H181531 (q_274 r0 a1 pp T H) := by
    intro n181527
    induction n181527 using Nat.strongRecOn with
    | _ n181527 ih181528 =>
      intro v181529 v181530 H181531 w181532 f181533 b181534 b181535 m181536
      have f181537 := f0.tr f181533 rfl
      refine wp_of e274 c274_33 (rw_iload (pc' := 35) (z := v181529) rfl rfl ?_)
      refine wp_of e274 c274_35 (rw_i2l (pc' := 36) rfl ⟨by omega, by omega⟩ ?_)
      refine wp_of e274 c274_36 (rw_aload_n (pc' := 37) (v := .ref r0) rfl rfl rfl ?_)
      have k181538 : wLM H181531 r0 = wLM H r0 := (wLM_fr hW g0 f181533 rfl)
      have k181539 : H181531 r0 3 = H r0 3 := (f181533 r0 3 _ g0 rfl)
      have q181540 : H181531 r0 3 = (pp : Int) := k181539.trans qpp
      refine wp_of e274 c274_37 (xc_V (pc' := 40) (r := r0) (as := []) (st := [vL v181529]) (lm_9_376) rfl rfl (Nat.le_of_ble_eq_true rfl) w181532 g0 sh_42 (by decide) rfl (by decide) (s_220 w181532 g0 q181540 gpp) (fun R181541 T181542 H181543 p181544 => ?_))
      obtain ⟨e181545, e181547, z181549, e181546, b181550, p181548⟩ := p181544
      subst e181545
      subst e181546
      subst e181547
      show wp _ _ 274 40 [(5, vI v181529), (4, vI v181530), (3, vI v181011), (2, vI (H r180999 (a1.toNat))), (0, .ref r0)] [vL z181549, vL v181529] _ H181531 _
      refine wp_of e274 c274_40 (rw_lcmp (pc' := 41) rfl ⟨by omega, by omega⟩ ⟨by omega, by omega⟩ ?_)
      have b181551 := wq_cmp_b v181529 z181549
      refine wp_of e274 c274_41 (rw_if_ge (p1 := 123) (p2 := 44) (by decide) rfl ⟨by omega, by omega⟩ (fun c181552 => ?_) (fun c181552 => ?_))
      · refine wp_of e274 c274_123 (rw_iload (pc' := 125) (z := v181530) rfl rfl ?_)
        exact wp_ireturn e274 c274_125 rfl ⟨rfl, w181532, f181537, v181530, rfl, ⟨by omega, by omega⟩⟩
      · refine wp_of e274 c274_44 (rw_aload_n (pc' := 45) (v := .ref r0) rfl rfl rfl ?_)
        refine wp_of e274 c274_45 (rw_iload (pc' := 47) (z := v181529) rfl rfl ?_)
        refine wp_of e274 c274_47 (xc_V (pc' := 50) (r := r0) (as := [vI v181529]) (st := []) (lm_9_425) rfl rfl (Nat.le_of_ble_eq_true rfl) w181532 g0 sh_42 (by decide) rfl (by decide) (s_243 w181532 g0 ⟨by omega, by omega⟩ q181540 gpp (by omega)) (fun R181553 T181554 H181555 p181556 => ?_))
        obtain ⟨e181557, w181559, f181560, e181558⟩ := p181556
        subst e181557
        subst e181558
        have f181561 := f181537.tr f181560 rfl
        have f181562 := f181533.tr f181560 rfl
        show wp _ _ 274 50 [(5, vI v181529), (4, vI v181530), (3, vI v181011), (2, vI (H r180999 (a1.toNat))), (0, .ref r0)] [] _ H181555 _
        refine wp_of e274 c274_50 (rw_iload_n (pc' := 51) (z := v181011) rfl rfl ?_)
        refine wp_of e274 c274_51 (rw_aload_n (pc' := 52) (v := .ref r0) rfl rfl rfl ?_)
        refine wp_of e274 c274_52 (xg_R (pc' := 55) lf_9_30 w181559 g0 sh_42 (by decide) (by decide) ty_42_24 rfl rfl (fun r181563 q181564 g181565 => ?_))
        refine wp_of e274 c274_55 (rw_bipush (pc' := 57) (z := 40) rfl (by decide) ?_)
        refine wp_of e274 c274_57 (rw_iload_n (pc' := 58) (z := H r180999 (a1.toNat)) rfl rfl ?_)
        refine wp_of e274 c274_58 (rw_imul (pc' := 59) rfl ?_)
        refine wp_of e274 c274_59 (rw_aload_n (pc' := 60) (v := .ref r0) rfl rfl rfl ?_)
        refine wp_of e274 c274_60 (xg_R (pc' := 63) lf_9_39 w181559 g0 sh_42 (by decide) (by decide) ty_42_27 rfl rfl (fun r181566 q181567 g181568 => ?_))
        refine wp_of e274 c274_63 (rw_iload_n (pc' := 64) (z := H r180999 (a1.toNat)) rfl rfl ?_)
        refine wp_of e274 c274_64 (xa_I (so := 0) (pc' := 65) w181559 g181568 sh_51 (by decide) (ty_51 _) (by omega) (by omega) rfl (fun b181569 b181570 => ?_))
        refine wp_of e274 c274_65 (rw_iadd (pc' := 66) rfl ?_)
        refine wp_of e274 c274_66 (xa_I (so := 0) (pc' := 67) w181559 g181565 sh_48 (by decide) (ty_48 _) (by omega) (by omega) rfl (fun b181571 b181572 => ?_))
        refine wp_of e274 c274_67 (rw_iconst (pc' := 68) rfl ?_)
        refine wp_of e274 c274_68 (rw_ixor (pc' := 69) rfl ?_)
        obtain ⟨v181573, e181574⟩ : ∃ x : Int, x = wq_xor (H181555 r181563 (((40 * (H r180999 (a1.toNat))) + (H181555 r181566 ((H r180999 (a1.toNat)).toNat))).toNat)) (-1) := ⟨_, rfl⟩
        rw [← e181574]
        have b181575 : -2147483648 ≤ v181573 ∧ v181573 ≤ 2147483647 := by
          rw [e181574]
          exact wI_xor _ _
        refine wp_of e274 c274_69 (rw_iand (pc' := 70) rfl ?_)
        obtain ⟨v181576, e181577⟩ : ∃ x : Int, x = wq_and v181011 v181573 := ⟨_, rfl⟩
        rw [← e181577]
        have b181578 : -2147483648 ≤ v181576 ∧ v181576 ≤ 2147483647 := by
          rw [e181577]
          exact wI_and _ _
        refine wp_of e274 c274_70 (rw_if_ne (p1 := 117) (p2 := 73) (by decide) rfl ⟨by omega, by omega⟩ (fun c181579 => ?_) (fun c181579 => ?_))
        · refine wp_of e274 c274_117 (rw_iinc (pc' := 120) (z := v181529) (L' := [(5, vI (v181529 + 1)), (4, vI v181530), (3, vI v181011), (2, vI (H r180999 (a1.toNat))), (0, .ref r0)]) rfl rfl rfl rfl ?_)
          refine wp_of e274 c274_120 (rw_goto (p1 := 33) (by decide) ?_)
          exact wp_lc (ks := [5, 4, 3, 2, 0]) (wl_c rfl (wl_c rfl (wl_c rfl (wl_c rfl (wl_c rfl wl_n))))) rfl (by decide) (ih181528 _ (by omega) (v181529 + 1) v181530 H181555 w181559 f181562 ⟨by omega, by omega⟩ ⟨by omega, by omega⟩ rfl)
        · refine wp_of e274 c274_73 (rw_aload_n (pc' := 74) (v := .ref r0) rfl rfl rfl ?_)
          refine wp_of e274 c274_74 (rw_aload_n (pc' := 75) (v := .ref r0) rfl rfl rfl ?_)
          refine wp_of e274 c274_75 (xg_K (pc' := 78) lf_9_39 w181559 g0 sh_42 (by decide) (by decide) rfl q181567 rfl ?_)
          have k181580 : H181555 r0 3 = H181531 r0 3 := (f181560 r0 3 _ g0 rfl)
          have q181581 : H181555 r0 3 = (pp : Int) := k181580.trans q181540
          refine wp_of e274 c274_78 (xc_V (pc' := 81) (r := r0) (as := [.ref r181566]) (st := []) (lm_9_393) rfl rfl (Nat.le_of_ble_eq_true rfl) w181559 g0 sh_42 (by decide) rfl (by decide) (s_235_m_lot w181559 g0 g181568 q181581 gpp) (fun R181582 T181583 H181584 p181585 => ?_))
          obtain ⟨e181586, e181588, z181589, e181587, b181590⟩ := p181585
          subst e181586
          subst e181587
          subst e181588
          show wp _ _ 274 81 [(5, vI v181529), (4, vI v181530), (3, vI v181011), (2, vI (H r180999 (a1.toNat))), (0, .ref r0)] [vI z181589] _ H181555 _
          refine wp_of e274 c274_81 (rw_if_eq (p1 := 87) (p2 := 84) (by decide) rfl ⟨by omega, by omega⟩ (fun c181591 => ?_) (fun c181591 => ?_))
          · refine wp_of e274 c274_87 (rw_aload_n (pc' := 88) (v := .ref r0) rfl rfl rfl ?_)
            refine wp_of e274 c274_88 (rw_aload_n (pc' := 89) (v := .ref r0) rfl rfl rfl ?_)
            refine wp_of e274 c274_89 (xg_K (pc' := 92) lf_9_39 w181559 g0 sh_42 (by decide) (by decide) rfl q181567 rfl ?_)
            refine wp_of e274 c274_92 (rw_aload_n (pc' := 93) (v := .ref r0) rfl rfl rfl ?_)
            have k181592 : H181555 r0 19 = H r0 19 := ((f181560 r0 19 _ g0 rfl).trans (f181533 r0 19 _ g0 rfl))
            refine wp_of e274 c274_93 (xg_I (pc' := 96) lf_9_343 w181559 g0 sh_42 (by decide) (by decide) ty_42_19 rfl rfl (fun b181593 b181594 => ?_))
            refine wp_of e274 c274_96 (xc_V (pc' := 99) (r := r0) (as := [.ref r181566, vI (H181555 r0 19)]) (st := []) (lm_9_397) rfl rfl (Nat.le_of_ble_eq_true rfl) w181559 g0 sh_42 (by decide) rfl (by decide) (s_239_m_lot w181559 g0 g181568 ⟨by omega, by omega⟩ q181581 gpp) (fun R181595 T181596 H181597 p181598 => ?_))
            obtain ⟨e181599, e181601, z181602, e181600, b181603⟩ := p181598
            subst e181599
            subst e181600
            subst e181601
            show wp _ _ 274 99 [(5, vI v181529), (4, vI v181530), (3, vI v181011), (2, vI (H r180999 (a1.toNat))), (0, .ref r0)] [vI z181602] _ H181555 _
            refine wp_of e274 c274_99 (rw_istore (pc' := 101) (z := z181602) (L' := [(6, vI z181602), (5, vI v181529), (4, vI v181530), (3, vI v181011), (2, vI (H r180999 (a1.toNat))), (0, .ref r0)]) rfl rfl rfl ?_)
            refine wp_of e274 c274_101 (rw_iload (pc' := 103) (z := z181602) rfl rfl ?_)
            refine wp_of e274 c274_103 (rw_iload (pc' := 105) (z := v181530) rfl rfl ?_)
            refine wp_of e274 c274_105 (rw_icmp_le (p1 := 113) (p2 := 108) (by decide) rfl ⟨by omega, by omega⟩ ⟨by omega, by omega⟩ (fun c181604 => ?_) (fun c181604 => ?_))
            · refine wp_of e274 c274_113 (rw_iload (pc' := 115) (z := v181530) rfl rfl ?_)
              refine wp_of e274 c274_115 (rw_istore (pc' := 117) (z := v181530) (L' := [(4, vI v181530), (6, vI z181602), (5, vI v181529), (3, vI v181011), (2, vI (H r180999 (a1.toNat))), (0, .ref r0)]) rfl rfl rfl ?_)
              refine wp_of e274 c274_117 (rw_iinc (pc' := 120) (z := v181529) (L' := [(5, vI (v181529 + 1)), (4, vI v181530), (6, vI z181602), (3, vI v181011), (2, vI (H r180999 (a1.toNat))), (0, .ref r0)]) rfl rfl rfl rfl ?_)
              refine wp_of e274 c274_120 (rw_goto (p1 := 33) (by decide) ?_)
              exact wp_lc (ks := [5, 4, 6, 3, 2, 0]) (wl_c rfl (wl_c rfl (wl_c rfl (wl_c rfl (wl_c rfl wl_n))))) rfl (by decide) (ih181528 _ (by omega) (v181529 + 1) v181530 H181555 w181559 f181562 ⟨by omega, by omega⟩ ⟨by omega, by omega⟩ rfl)
            · refine wp_of e274 c274_108 (rw_iload (pc' := 110) (z := z181602) rfl rfl ?_)
              refine wp_of e274 c274_110 (rw_goto (p1 := 115) (by decide) ?_)
              refine wp_of e274 c274_115 (rw_istore (pc' := 117) (z := z181602) (L' := [(4, vI z181602), (6, vI z181602), (5, vI v181529), (3, vI v181011), (2, vI (H r180999 (a1.toNat))), (0, .ref r0)]) rfl rfl rfl ?_)
              refine wp_of e274 c274_117 (rw_iinc (pc' := 120) (z := v181529) (L' := [(5, vI (v181529 + 1)), (4, vI z181602), (6, vI z181602), (3, vI v181011), (2, vI (H r180999 (a1.toNat))), (0, .ref r0)]) rfl rfl rfl rfl ?_)
              refine wp_of e274 c274_120 (rw_goto (p1 := 33) (by decide) ?_)
              exact wp_lc (ks := [5, 4, 6, 3, 2, 0]) (wl_c rfl (wl_c rfl (wl_c rfl (wl_c rfl (wl_c rfl wl_n))))) rfl (by decide) (ih181528 _ (by omega) (v181529 + 1) z181602 H181555 w181559 f181562 ⟨by omega, by omega⟩ ⟨by omega, by omega⟩ rfl)
          · refine wp_of e274 c274_84 (rw_goto (p1 := 117) (by decide) ?_)
            refine wp_of e274 c274_117 (rw_iinc (pc' := 120) (z := v181529) (L' := [(5, vI (v181529 + 1)), (4, vI v181530), (3, vI v181011), (2, vI (H r180999 (a1.toNat))), (0, .ref r0)]) rfl rfl rfl rfl ?_)
            refine wp_of e274 c274_120 (rw_goto (p1 := 33) (by decide) ?_)
            exact wp_lc (ks := [5, 4, 3, 2, 0]) (wl_c rfl (wl_c rfl (wl_c rfl (wl_c rfl (wl_c rfl wl_n))))) rfl (by decide) (ih181528 _ (by omega) (v181529 + 1) v181530 H181555 w181559 f181562 ⟨by omega, by omega⟩ ⟨by omega, by omega⟩ rfl)
  exact wp_lc (ks := [5, 4, 3, 2, 0, 1]) (wl_c rfl (wl_c rfl (wl_c rfl (wl_c rfl (wl_c rfl wl_n))))) rfl (by decide) (lp181526 _ 0 (-1000) H hW wfr.rf ⟨by omega, by omega⟩ ⟨by omega, by omega⟩ rfl)
