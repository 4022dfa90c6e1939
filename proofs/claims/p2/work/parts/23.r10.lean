/-! methods of the reference (own work, written by wip/gen2/sx.py) -/
/-! StrikeAwakeModel.lie(I)I -/
theorem e272 : wq_en 272 = some (9, 3, false, some FieldType.int) := rfl
theorem c272_0 : mc_cd 272 0 = some (.aload_n 0, 1) := by decide +kernel
theorem c272_1 : mc_cd 272 1 = some (.iconst 0, 1) := by decide +kernel
theorem c272_2 : mc_cd 272 2 = some (.putfield 48, 3) := by decide +kernel
theorem c272_5 : mc_cd 272 5 = some (.aload_n 0, 1) := by decide +kernel
theorem c272_6 : mc_cd 272 6 = some (.aload_n 0, 1) := by decide +kernel
theorem c272_7 : mc_cd 272 7 = some (.iload_n 1, 1) := by decide +kernel
theorem c272_8 : mc_cd 272 8 = some (.invokevirtual 473, 3) := by decide +kernel
theorem c272_11 : mc_cd 272 11 = some (.invokevirtual 433, 3) := by decide +kernel
theorem c272_14 : mc_cd 272 14 = some (.istore_n 2, 1) := by decide +kernel
theorem c272_15 : mc_cd 272 15 = some (.iload_n 2, 1) := by decide +kernel
theorem c272_16 : mc_cd 272 16 = some (.ifCond .le 11, 3) := by decide +kernel
theorem c272_19 : mc_cd 272 19 = some (.aload_n 0, 1) := by decide +kernel
theorem c272_20 : mc_cd 272 20 = some (.iload_n 2, 1) := by decide +kernel
theorem c272_21 : mc_cd 272 21 = some (.invokevirtual 54, 3) := by decide +kernel
theorem c272_24 : mc_cd 272 24 = some (.goto 22, 3) := by decide +kernel
theorem c272_27 : mc_cd 272 27 = some (.aload_n 0, 1) := by decide +kernel
theorem c272_28 : mc_cd 272 28 = some (.aload_n 0, 1) := by decide +kernel
theorem c272_29 : mc_cd 272 29 = some (.iload_n 1, 1) := by decide +kernel
theorem c272_30 : mc_cd 272 30 = some (.invokevirtual 476, 3) := by decide +kernel
theorem c272_33 : mc_cd 272 33 = some (.bipush 24, 2) := by decide +kernel
theorem c272_35 : mc_cd 272 35 = some (.if_icmp .ne 7, 3) := by decide +kernel
theorem c272_38 : mc_cd 272 38 = some (.iconst 0, 1) := by decide +kernel
theorem c272_39 : mc_cd 272 39 = some (.goto 4, 3) := by decide +kernel
theorem c272_42 : mc_cd 272 42 = some (.iconst 1, 1) := by decide +kernel
theorem c272_43 : mc_cd 272 43 = some (.invokevirtual 58, 3) := by decide +kernel
theorem c272_46 : mc_cd 272 46 = some (.ireturn, 1) := by decide +kernel
abbrev q_272 (r0 : Nat) (a1 : Int) (T : wq_T) (H : wq_H) : Option Value → wq_T → wq_H → Prop := fun r T' H' => T = T' ∧ WT T H' ∧ wfr [(42, 0), (42, 1), (42, 2), (42, 28), (42, 29), (51, 999), (52, 999)] T H H' ∧ ∃ z : Int, some (vI z) = r ∧ ((-2147483648) ≤ z ∧ z ≤ 2147483647) ∧ (wKI H' r0 = 1)
set_option maxHeartbeats 4000000 in
theorem s_272 {kt : Nat → Option mc_E} {T : wq_T} {H : wq_H} {r0 : Nat} {a1 : Int} (hW : WT T H) (g0 : T.2.2.2 r0 = some 42) (i1 : (-2147483648) ≤ a1 ∧ a1 ≤ 2147483647) (p0 : wKI H r0 = 1) : wpc kt 8 272 [.ref r0, vI a1] T H (q_272 r0 a1 T H) := by
  refine wp_enter e272 (Nat.le_of_ble_eq_true rfl) rfl ?_
  have f0 : wfr [(42, 0), (42, 1), (42, 2), (42, 28), (42, 29), (51, 999), (52, 999)] T H H := wfr.rf
  show wp _ _ 272 0 [(0, .ref r0), (1, vI a1)] [] _ H _
  refine wp_of e272 c272_0 (rw_aload_n (pc' := 1) (v := .ref r0) rfl rfl rfl ?_)
  refine wp_of e272 c272_1 (rw_iconst (pc' := 2) rfl ?_)
  refine wp_of e272 c272_2 (xp_I (pc' := 5) lf_9_48 hW g0 sh_42 (by decide) (by decide) ty_42_0 rfl rfl (by omega) (by omega) ⟨by omega, by omega⟩ rfl (fun H177476 e177477 w177478 => ?_))
  have f177479 := f0.put' e177477 g0 rfl
  have k177480 : H177476 r0 0 = 0 := wq_u_s e177477
  refine wp_of e272 c272_5 (rw_aload_n (pc' := 6) (v := .ref r0) rfl rfl rfl ?_)
  refine wp_of e272 c272_6 (rw_aload_n (pc' := 7) (v := .ref r0) rfl rfl rfl ?_)
  refine wp_of e272 c272_7 (rw_iload_n (pc' := 8) (z := a1) rfl rfl ?_)
  refine wp_of e272 c272_8 (xc_V (pc' := 11) (r := r0) (as := [vI a1]) (st := [.ref r0]) (lm_9_473) rfl rfl (Nat.le_of_ble_eq_true rfl) w177478 g0 sh_42 (by decide) rfl (by decide) (s_273 w177478 g0 ⟨by omega, by omega⟩) (fun R177481 T177482 H177483 p177484 => ?_))
  obtain ⟨e177485, e177487, z177489, e177486, b177490, p177488⟩ := p177484
  subst e177485
  subst e177486
  subst e177487
  show wp _ _ 272 11 [(0, .ref r0), (1, vI a1)] [vI z177489, .ref r0] _ H177476 _
  have k177491 : wKI H177476 r0 = wKI H r0 := (wKI_fr hW g0 ((wfr.rf (l := [(42, 0)])).put' e177477 g0 rfl) rfl)
  refine wp_of e272 c272_11 (xc_V (pc' := 14) (r := r0) (as := [vI z177489]) (st := []) (lm_9_433) rfl rfl (Nat.le_of_ble_eq_true rfl) w177478 g0 sh_42 (by decide) rfl (by decide) (s_241 w177478 g0 ⟨by omega, by omega⟩ (by omega) (by omega)) (fun R177492 T177493 H177494 p177495 => ?_))
  obtain ⟨e177496, w177498, f177499, z177504, e177497, b177505, p177500, p177501, p177502, p177503⟩ := p177495
  subst e177496
  subst e177497
  have f177506 := f177479.tr f177499 rfl
  show wp _ _ 272 14 [(0, .ref r0), (1, vI a1)] [vI z177504] _ H177494 _
  refine wp_of e272 c272_14 (rw_istore_n (pc' := 15) (z := z177504) (L' := [(2, vI z177504), (0, .ref r0), (1, vI a1)]) rfl rfl rfl ?_)
  refine wp_of e272 c272_15 (rw_iload_n (pc' := 16) (z := z177504) rfl rfl ?_)
  refine wp_of e272 c272_16 (rw_if_le (p1 := 27) (p2 := 19) (by decide) rfl ⟨by omega, by omega⟩ (fun c177507 => ?_) (fun c177507 => ?_))
  · refine wp_of e272 c272_27 (rw_aload_n (pc' := 28) (v := .ref r0) rfl rfl rfl ?_)
    refine wp_of e272 c272_28 (rw_aload_n (pc' := 29) (v := .ref r0) rfl rfl rfl ?_)
    refine wp_of e272 c272_29 (rw_iload_n (pc' := 30) (z := a1) rfl rfl ?_)
    have k177508 : H177494 r0 3 = H177476 r0 3 := (f177499 r0 3 _ g0 rfl)
    obtain ⟨r177509, q177510, g177511⟩ := (w177498.opt g0 (t' := 54) (n := 33) (j := 3) (p := 0) (q := 0) rfl (by decide) rfl).resolve_left (by omega)
    refine wp_of e272 c272_30 (xc_V (pc' := 33) (r := r0) (as := [vI a1]) (st := [.ref r0]) (lm_9_476) rfl rfl (Nat.le_of_ble_eq_true rfl) w177498 g0 sh_42 (by decide) rfl (by decide) (s_274 w177498 g0 ⟨by omega, by omega⟩ q177510 g177511 (by omega)) (fun R177512 T177513 H177514 p177515 => ?_))
    obtain ⟨e177516, w177518, f177519, z177520, e177517, b177521⟩ := p177515
    subst e177516
    subst e177517
    have f177522 := f177506.tr f177519 rfl
    show wp _ _ 272 33 [(2, vI z177504), (0, .ref r0), (1, vI a1)] [vI z177520, .ref r0] _ H177514 _
    refine wp_of e272 c272_33 (rw_bipush (pc' := 35) (z := 24) rfl (by decide) ?_)
    refine wp_of e272 c272_35 (rw_icmp_ne (p1 := 42) (p2 := 38) (by decide) rfl ⟨by omega, by omega⟩ ⟨by omega, by omega⟩ (fun c177523 => ?_) (fun c177523 => ?_))
    · refine wp_of e272 c272_42 (rw_iconst (pc' := 43) rfl ?_)
      refine wp_of e272 c272_43 (xc_V (pc' := 46) (r := r0) (as := [vI 1]) (st := []) (lm_9_58) rfl rfl (Nat.le_of_ble_eq_true rfl) w177518 g0 sh_42 (by decide) rfl (by decide) (s_209 w177518 g0 ⟨by omega, by omega⟩) (fun R177524 T177525 H177526 p177527 => ?_))
      obtain ⟨e177528, w177530, f177531, z177532, e177529, b177533⟩ := p177527
      subst e177528
      subst e177529
      have f177534 := f177522.tr f177531 rfl
      show wp _ _ 272 46 [(2, vI z177504), (0, .ref r0), (1, vI a1)] [vI z177532] _ H177526 _
      have k177535 : wKI H177526 r0 = wKI H177494 r0 := ((wKI_fr w177518 g0 f177531 rfl).trans (wKI_fr w177498 g0 f177519 rfl))
      exact wp_ireturn e272 c272_46 rfl ⟨rfl, w177530, f177534, z177532, rfl, ⟨by omega, by omega⟩, by omega⟩
    · refine wp_of e272 c272_38 (rw_iconst (pc' := 39) rfl ?_)
      refine wp_of e272 c272_39 (rw_goto (p1 := 43) (by decide) ?_)
      refine wp_of e272 c272_43 (xc_V (pc' := 46) (r := r0) (as := [vI 0]) (st := []) (lm_9_58) rfl rfl (Nat.le_of_ble_eq_true rfl) w177518 g0 sh_42 (by decide) rfl (by decide) (s_209 w177518 g0 ⟨by omega, by omega⟩) (fun R177536 T177537 H177538 p177539 => ?_))
      obtain ⟨e177540, w177542, f177543, z177544, e177541, b177545⟩ := p177539
      subst e177540
      subst e177541
      have f177546 := f177522.tr f177543 rfl
      show wp _ _ 272 46 [(2, vI z177504), (0, .ref r0), (1, vI a1)] [vI z177544] _ H177538 _
      have k177547 : wKI H177538 r0 = wKI H177494 r0 := ((wKI_fr w177518 g0 f177543 rfl).trans (wKI_fr w177498 g0 f177519 rfl))
      exact wp_ireturn e272 c272_46 rfl ⟨rfl, w177542, f177546, z177544, rfl, ⟨by omega, by omega⟩, by omega⟩
  · refine wp_of e272 c272_19 (rw_aload_n (pc' := 20) (v := .ref r0) rfl rfl rfl ?_)
    refine wp_of e272 c272_20 (rw_iload_n (pc' := 21) (z := z177504) rfl rfl ?_)
    refine wp_of e272 c272_21 (xc_V (pc' := 24) (r := r0) (as := [vI z177504]) (st := []) (lm_9_54) rfl rfl (Nat.le_of_ble_eq_true rfl) w177498 g0 sh_42 (by decide) rfl (by decide) (s_170 w177498 g0 ⟨by omega, by omega⟩) (fun R177548 T177549 H177550 p177551 => ?_))
    obtain ⟨e177552, w177554, f177555, z177556, e177553, b177557⟩ := p177551
    subst e177552
    subst e177553
    have f177558 := f177506.tr f177555 rfl
    show wp _ _ 272 24 [(2, vI z177504), (0, .ref r0), (1, vI a1)] [vI z177556] _ H177550 _
    refine wp_of e272 c272_24 (rw_goto (p1 := 46) (by decide) ?_)
    have k177559 : wKI H177550 r0 = wKI H177494 r0 := (wKI_fr w177498 g0 f177555 rfl)
    exact wp_ireturn e272 c272_46 rfl ⟨rfl, w177554, f177558, z177556, rfl, ⟨by omega, by omega⟩, by omega⟩
/-! StrikeAwakeModel.bars(I)I -/
theorem e275 : wq_en 275 = some (9, 4, false, some FieldType.int) := rfl
theorem c275_0 : mc_cd 275 0 = some (.aload_n 0, 1) := by decide +kernel
theorem c275_1 : mc_cd 275 1 = some (.iconst 0, 1) := by decide +kernel
theorem c275_2 : mc_cd 275 2 = some (.putfield 48, 3) := by decide +kernel
theorem c275_5 : mc_cd 275 5 = some (.aload_n 0, 1) := by decide +kernel
theorem c275_6 : mc_cd 275 6 = some (.aload_n 0, 1) := by decide +kernel
theorem c275_7 : mc_cd 275 7 = some (.iload_n 1, 1) := by decide +kernel
theorem c275_8 : mc_cd 275 8 = some (.invokevirtual 473, 3) := by decide +kernel
theorem c275_11 : mc_cd 275 11 = some (.invokevirtual 433, 3) := by decide +kernel
theorem c275_14 : mc_cd 275 14 = some (.istore_n 2, 1) := by decide +kernel
theorem c275_15 : mc_cd 275 15 = some (.iload_n 2, 1) := by decide +kernel
theorem c275_16 : mc_cd 275 16 = some (.ifCond .le 9, 3) := by decide +kernel
theorem c275_19 : mc_cd 275 19 = some (.aload_n 0, 1) := by decide +kernel
theorem c275_20 : mc_cd 275 20 = some (.iload_n 2, 1) := by decide +kernel
theorem c275_21 : mc_cd 275 21 = some (.invokevirtual 54, 3) := by decide +kernel
theorem c275_24 : mc_cd 275 24 = some (.ireturn, 1) := by decide +kernel
theorem c275_25 : mc_cd 275 25 = some (.aload_n 0, 1) := by decide +kernel
theorem c275_26 : mc_cd 275 26 = some (.iload_n 1, 1) := by decide +kernel
theorem c275_27 : mc_cd 275 27 = some (.invokevirtual 476, 3) := by decide +kernel
theorem c275_30 : mc_cd 275 30 = some (.istore_n 3, 1) := by decide +kernel
theorem c275_31 : mc_cd 275 31 = some (.aload_n 0, 1) := by decide +kernel
theorem c275_32 : mc_cd 275 32 = some (.iload_n 3, 1) := by decide +kernel
theorem c275_33 : mc_cd 275 33 = some (.bipush 24, 2) := by decide +kernel
theorem c275_35 : mc_cd 275 35 = some (.if_icmp .ne 8, 3) := by decide +kernel
theorem c275_38 : mc_cd 275 38 = some (.bipush (-2), 2) := by decide +kernel
theorem c275_40 : mc_cd 275 40 = some (.goto 4, 3) := by decide +kernel
theorem c275_43 : mc_cd 275 43 = some (.iload_n 3, 1) := by decide +kernel
theorem c275_44 : mc_cd 275 44 = some (.invokevirtual 58, 3) := by decide +kernel
theorem c275_47 : mc_cd 275 47 = some (.ireturn, 1) := by decide +kernel
abbrev q_275 (r0 : Nat) (a1 : Int) (T : wq_T) (H : wq_H) : Option Value → wq_T → wq_H → Prop := fun r T' H' => T = T' ∧ WT T H' ∧ wfr [(42, 0), (42, 1), (42, 2), (42, 28), (42, 29), (51, 999), (52, 999)] T H H' ∧ ∃ z : Int, some (vI z) = r ∧ ((-2147483648) ≤ z ∧ z ≤ 2147483647) ∧ (wKI H' r0 = 1)
set_option maxHeartbeats 4000000 in
theorem s_275 {kt : Nat → Option mc_E} {T : wq_T} {H : wq_H} {r0 : Nat} {a1 : Int} (hW : WT T H) (g0 : T.2.2.2 r0 = some 42) (i1 : (-2147483648) ≤ a1 ∧ a1 ≤ 2147483647) (p0 : wKI H r0 = 1) : wpc kt 8 275 [.ref r0, vI a1] T H (q_275 r0 a1 T H) := by
  refine wp_enter e275 (Nat.le_of_ble_eq_true rfl) rfl ?_
  have f0 : wfr [(42, 0), (42, 1), (42, 2), (42, 28), (42, 29), (51, 999), (52, 999)] T H H := wfr.rf
  show wp _ _ 275 0 [(0, .ref r0), (1, vI a1)] [] _ H _
  refine wp_of e275 c275_0 (rw_aload_n (pc' := 1) (v := .ref r0) rfl rfl rfl ?_)
  refine wp_of e275 c275_1 (rw_iconst (pc' := 2) rfl ?_)
  refine wp_of e275 c275_2 (xp_I (pc' := 5) lf_9_48 hW g0 sh_42 (by decide) (by decide) ty_42_0 rfl rfl (by omega) (by omega) ⟨by omega, by omega⟩ rfl (fun H177644 e177645 w177646 => ?_))
  have f177647 := f0.put' e177645 g0 rfl
  have k177648 : H177644 r0 0 = 0 := wq_u_s e177645
  refine wp_of e275 c275_5 (rw_aload_n (pc' := 6) (v := .ref r0) rfl rfl rfl ?_)
  refine wp_of e275 c275_6 (rw_aload_n (pc' := 7) (v := .ref r0) rfl rfl rfl ?_)
  refine wp_of e275 c275_7 (rw_iload_n (pc' := 8) (z := a1) rfl rfl ?_)
  refine wp_of e275 c275_8 (xc_V (pc' := 11) (r := r0) (as := [vI a1]) (st := [.ref r0]) (lm_9_473) rfl rfl (Nat.le_of_ble_eq_true rfl) w177646 g0 sh_42 (by decide) rfl (by decide) (s_273 w177646 g0 ⟨by omega, by omega⟩) (fun R177649 T177650 H177651 p177652 => ?_))
  obtain ⟨e177653, e177655, z177657, e177654, b177658, p177656⟩ := p177652
  subst e177653
  subst e177654
  subst e177655
  show wp _ _ 275 11 [(0, .ref r0), (1, vI a1)] [vI z177657, .ref r0] _ H177644 _
  have k177659 : wKI H177644 r0 = wKI H r0 := (wKI_fr hW g0 ((wfr.rf (l := [(42, 0)])).put' e177645 g0 rfl) rfl)
  refine wp_of e275 c275_11 (xc_V (pc' := 14) (r := r0) (as := [vI z177657]) (st := []) (lm_9_433) rfl rfl (Nat.le_of_ble_eq_true rfl) w177646 g0 sh_42 (by decide) rfl (by decide) (s_241 w177646 g0 ⟨by omega, by omega⟩ (by omega) (by omega)) (fun R177660 T177661 H177662 p177663 => ?_))
  obtain ⟨e177664, w177666, f177667, z177672, e177665, b177673, p177668, p177669, p177670, p177671⟩ := p177663
  subst e177664
  subst e177665
  have f177674 := f177647.tr f177667 rfl
  show wp _ _ 275 14 [(0, .ref r0), (1, vI a1)] [vI z177672] _ H177662 _
  refine wp_of e275 c275_14 (rw_istore_n (pc' := 15) (z := z177672) (L' := [(2, vI z177672), (0, .ref r0), (1, vI a1)]) rfl rfl rfl ?_)
  refine wp_of e275 c275_15 (rw_iload_n (pc' := 16) (z := z177672) rfl rfl ?_)
  refine wp_of e275 c275_16 (rw_if_le (p1 := 25) (p2 := 19) (by decide) rfl ⟨by omega, by omega⟩ (fun c177675 => ?_) (fun c177675 => ?_))
  · refine wp_of e275 c275_25 (rw_aload_n (pc' := 26) (v := .ref r0) rfl rfl rfl ?_)
    refine wp_of e275 c275_26 (rw_iload_n (pc' := 27) (z := a1) rfl rfl ?_)
    have k177676 : H177662 r0 3 = H177644 r0 3 := (f177667 r0 3 _ g0 rfl)
    obtain ⟨r177677, q177678, g177679⟩ := (w177666.opt g0 (t' := 54) (n := 33) (j := 3) (p := 0) (q := 0) rfl (by decide) rfl).resolve_left (by omega)
    refine wp_of e275 c275_27 (xc_V (pc' := 30) (r := r0) (as := [vI a1]) (st := []) (lm_9_476) rfl rfl (Nat.le_of_ble_eq_true rfl) w177666 g0 sh_42 (by decide) rfl (by decide) (s_274 w177666 g0 ⟨by omega, by omega⟩ q177678 g177679 (by omega)) (fun R177680 T177681 H177682 p177683 => ?_))
    obtain ⟨e177684, w177686, f177687, z177688, e177685, b177689⟩ := p177683
    subst e177684
    subst e177685
    have f177690 := f177674.tr f177687 rfl
    show wp _ _ 275 30 [(2, vI z177672), (0, .ref r0), (1, vI a1)] [vI z177688] _ H177682 _
    refine wp_of e275 c275_30 (rw_istore_n (pc' := 31) (z := z177688) (L' := [(3, vI z177688), (2, vI z177672), (0, .ref r0), (1, vI a1)]) rfl rfl rfl ?_)
    refine wp_of e275 c275_31 (rw_aload_n (pc' := 32) (v := .ref r0) rfl rfl rfl ?_)
    refine wp_of e275 c275_32 (rw_iload_n (pc' := 33) (z := z177688) rfl rfl ?_)
    refine wp_of e275 c275_33 (rw_bipush (pc' := 35) (z := 24) rfl (by decide) ?_)
    refine wp_of e275 c275_35 (rw_icmp_ne (p1 := 43) (p2 := 38) (by decide) rfl ⟨by omega, by omega⟩ ⟨by omega, by omega⟩ (fun c177691 => ?_) (fun c177691 => ?_))
    · refine wp_of e275 c275_43 (rw_iload_n (pc' := 44) (z := z177688) rfl rfl ?_)
      refine wp_of e275 c275_44 (xc_V (pc' := 47) (r := r0) (as := [vI z177688]) (st := []) (lm_9_58) rfl rfl (Nat.le_of_ble_eq_true rfl) w177686 g0 sh_42 (by decide) rfl (by decide) (s_209 w177686 g0 ⟨by omega, by omega⟩) (fun R177692 T177693 H177694 p177695 => ?_))
      obtain ⟨e177696, w177698, f177699, z177700, e177697, b177701⟩ := p177695
      subst e177696
      subst e177697
      have f177702 := f177690.tr f177699 rfl
      show wp _ _ 275 47 [(3, vI z177688), (2, vI z177672), (0, .ref r0), (1, vI a1)] [vI z177700] _ H177694 _
      have k177703 : wKI H177694 r0 = wKI H177662 r0 := ((wKI_fr w177686 g0 f177699 rfl).trans (wKI_fr w177666 g0 f177687 rfl))
      exact wp_ireturn e275 c275_47 rfl ⟨rfl, w177698, f177702, z177700, rfl, ⟨by omega, by omega⟩, by omega⟩
    · refine wp_of e275 c275_38 (rw_bipush (pc' := 40) (z := -2) rfl (by decide) ?_)
      refine wp_of e275 c275_40 (rw_goto (p1 := 44) (by decide) ?_)
      refine wp_of e275 c275_44 (xc_V (pc' := 47) (r := r0) (as := [vI (-2)]) (st := []) (lm_9_58) rfl rfl (Nat.le_of_ble_eq_true rfl) w177686 g0 sh_42 (by decide) rfl (by decide) (s_209 w177686 g0 ⟨by omega, by omega⟩) (fun R177704 T177705 H177706 p177707 => ?_))
      obtain ⟨e177708, w177710, f177711, z177712, e177709, b177713⟩ := p177707
      subst e177708
      subst e177709
      have f177714 := f177690.tr f177711 rfl
      show wp _ _ 275 47 [(3, vI z177688), (2, vI z177672), (0, .ref r0), (1, vI a1)] [vI z177712] _ H177706 _
      have k177715 : wKI H177706 r0 = wKI H177662 r0 := ((wKI_fr w177686 g0 f177711 rfl).trans (wKI_fr w177666 g0 f177687 rfl))
      exact wp_ireturn e275 c275_47 rfl ⟨rfl, w177710, f177714, z177712, rfl, ⟨by omega, by omega⟩, by omega⟩
  · refine wp_of e275 c275_19 (rw_aload_n (pc' := 20) (v := .ref r0) rfl rfl rfl ?_)
    refine wp_of e275 c275_20 (rw_iload_n (pc' := 21) (z := z177672) rfl rfl ?_)
    refine wp_of e275 c275_21 (xc_V (pc' := 24) (r := r0) (as := [vI z177672]) (st := []) (lm_9_54) rfl rfl (Nat.le_of_ble_eq_true rfl) w177666 g0 sh_42 (by decide) rfl (by decide) (s_170 w177666 g0 ⟨by omega, by omega⟩) (fun R177716 T177717 H177718 p177719 => ?_))
    obtain ⟨e177720, w177722, f177723, z177724, e177721, b177725⟩ := p177719
    subst e177720
    subst e177721
    have f177726 := f177674.tr f177723 rfl
    show wp _ _ 275 24 [(2, vI z177672), (0, .ref r0), (1, vI a1)] [vI z177724] _ H177718 _
    have k177727 : wKI H177718 r0 = wKI H177662 r0 := (wKI_fr w177666 g0 f177723 rfl)
    exact wp_ireturn e275 c275_24 rfl ⟨rfl, w177722, f177726, z177724, rfl, ⟨by omega, by omega⟩, by omega⟩
/-! StrikeAwakeModel.proves(I)Z -/
theorem e278 : wq_en 278 = some (9, 3, false, some FieldType.boolean) := rfl
theorem c278_0 : mc_cd 278 0 = some (.iconst 0, 1) := by decide +kernel
theorem c278_1 : mc_cd 278 1 = some (.istore_n 2, 1) := by decide +kernel
theorem c278_2 : mc_cd 278 2 = some (.iload_n 2, 1) := by decide +kernel
theorem c278_3 : mc_cd 278 3 = some (.i2l, 1) := by decide +kernel
theorem c278_4 : mc_cd 278 4 = some (.aload_n 0, 1) := by decide +kernel
theorem c278_5 : mc_cd 278 5 = some (.invokevirtual 376, 3) := by decide +kernel
theorem c278_8 : mc_cd 278 8 = some (.lcmp, 1) := by decide +kernel
theorem c278_9 : mc_cd 278 9 = some (.ifCond .ge 41, 3) := by decide +kernel
theorem c278_12 : mc_cd 278 12 = some (.aload_n 0, 1) := by decide +kernel
theorem c278_13 : mc_cd 278 13 = some (.iload_n 2, 1) := by decide +kernel
theorem c278_14 : mc_cd 278 14 = some (.invokevirtual 425, 3) := by decide +kernel
theorem c278_17 : mc_cd 278 17 = some (.aload_n 0, 1) := by decide +kernel
theorem c278_18 : mc_cd 278 18 = some (.aload_n 0, 1) := by decide +kernel
theorem c278_19 : mc_cd 278 19 = some (.getfield 39, 3) := by decide +kernel
theorem c278_22 : mc_cd 278 22 = some (.invokevirtual 393, 3) := by decide +kernel
theorem c278_25 : mc_cd 278 25 = some (.ifCond .ne 19, 3) := by decide +kernel
theorem c278_28 : mc_cd 278 28 = some (.aload_n 0, 1) := by decide +kernel
theorem c278_29 : mc_cd 278 29 = some (.aload_n 0, 1) := by decide +kernel
theorem c278_30 : mc_cd 278 30 = some (.getfield 39, 3) := by decide +kernel
theorem c278_33 : mc_cd 278 33 = some (.iload_n 1, 1) := by decide +kernel
theorem c278_34 : mc_cd 278 34 = some (.invokevirtual 397, 3) := by decide +kernel
theorem c278_37 : mc_cd 278 37 = some (.bipush 24, 2) := by decide +kernel
theorem c278_39 : mc_cd 278 39 = some (.if_icmp .ne 5, 3) := by decide +kernel
theorem c278_42 : mc_cd 278 42 = some (.iconst 0, 1) := by decide +kernel
theorem c278_43 : mc_cd 278 43 = some (.ireturn, 1) := by decide +kernel
theorem c278_44 : mc_cd 278 44 = some (.iinc 2 1, 3) := by decide +kernel
theorem c278_47 : mc_cd 278 47 = some (.goto (-45), 3) := by decide +kernel
theorem c278_50 : mc_cd 278 50 = some (.iconst 1, 1) := by decide +kernel
theorem c278_51 : mc_cd 278 51 = some (.ireturn, 1) := by decide +kernel
abbrev q_278 (r0 : Nat) (a1 : Int) (pp : Nat) (T : wq_T) (H : wq_H) : Option Value → wq_T → wq_H → Prop := fun r T' H' => T = T' ∧ WT T H' ∧ wfr [(51, 999)] T H H' ∧ ∃ z : Int, some (vI z) = r ∧ (0 ≤ z ∧ z ≤ 1)
set_option maxHeartbeats 4000000 in
theorem s_278 {kt : Nat → Option mc_E} {T : wq_T} {H : wq_H} {r0 : Nat} {a1 : Int} {pp : Nat} (hW : WT T H) (g0 : T.2.2.2 r0 = some 42) (i1 : (-2147483648) ≤ a1 ∧ a1 ≤ 2147483647) (qpp : H r0 3 = (pp : Int)) (gpp : T.2.2.2 pp = some 54) (p0 : wLM H r0 ≤ 20000) : wpc kt 5 278 [.ref r0, vI a1] T H (q_278 r0 a1 pp T H) := by
  refine wp_enter e278 (Nat.le_of_ble_eq_true rfl) rfl ?_
  have f0 : wfr [(51, 999)] T H H := wfr.rf
  show wp _ _ 278 0 [(0, .ref r0), (1, vI a1)] [] _ H _
  refine wp_of e278 c278_0 (rw_iconst (pc' := 1) rfl ?_)
  refine wp_of e278 c278_1 (rw_istore_n (pc' := 2) (z := 0) (L' := [(2, vI 0), (0, .ref r0), (1, vI a1)]) rfl rfl rfl ?_)
  have lp178562 : ∀ (n178563 : Nat) (v178565 : Int) (H178566 : wq_H), WT T H178566 → wfr [(51, 999)] T H H178566 → (0 ≤ v178565 ∧ v178565 ≤ 20000) → (20000 - v178565).toNat = n178563 → wp kt 4 278 2 [(2, vI v178565), (0, .ref r0), (1, vI a1)] [] T H178566 (q_278 r0 a1 pp T H) := by
    intro n178563
    induction n178563 using Nat.strongRecOn with
    | _ n178563 ih178564 =>
      intro v178565 H178566 w178567 f178568 b178569 m178570
      have f178571 := f0.tr f178568 rfl
      refine wp_of e278 c278_2 (rw_iload_n (pc' := 3) (z := v178565) rfl rfl ?_)
      refine wp_of e278 c278_3 (rw_i2l (pc' := 4) rfl ⟨by omega, by omega⟩ ?_)
      refine wp_of e278 c278_4 (rw_aload_n (pc' := 5) (v := .ref r0) rfl rfl rfl ?_)
      have k178572 : wLM H178566 r0 = wLM H r0 := (wLM_fr hW g0 f178568 rfl)
      have k178573 : H178566 r0 3 = H r0 3 := (f178568 r0 3 _ g0 rfl)
      have q178574 : H178566 r0 3 = (pp : Int) := k178573.trans qpp
      refine wp_of e278 c278_5 (xc_V (pc' := 8) (r := r0) (as := []) (st := [vL v178565]) (lm_9_376) rfl rfl (Nat.le_of_ble_eq_true rfl) w178567 g0 sh_42 (by decide) rfl (by decide) (s_220 w178567 g0 q178574 gpp) (fun R178575 T178576 H178577 p178578 => ?_))
      obtain ⟨e178579, e178581, z178583, e178580, b178584, p178582⟩ := p178578
      subst e178579
      subst e178580
      subst e178581
      show wp _ _ 278 8 [(2, vI v178565), (0, .ref r0), (1, vI a1)] [vL z178583, vL v178565] _ H178566 _
      refine wp_of e278 c278_8 (rw_lcmp (pc' := 9) rfl ⟨by omega, by omega⟩ ⟨by omega, by omega⟩ ?_)
      have b178585 := wq_cmp_b v178565 z178583
      refine wp_of e278 c278_9 (rw_if_ge (p1 := 50) (p2 := 12) (by decide) rfl ⟨by omega, by omega⟩ (fun c178586 => ?_) (fun c178586 => ?_))
      · refine wp_of e278 c278_50 (rw_iconst (pc' := 51) rfl ?_)
        exact wp_zreturn e278 c278_51 rfl (by omega) ⟨rfl, w178567, f178571, 1, rfl, ⟨by omega, by omega⟩⟩
      · refine wp_of e278 c278_12 (rw_aload_n (pc' := 13) (v := .ref r0) rfl rfl rfl ?_)
        refine wp_of e278 c278_13 (rw_iload_n (pc' := 14) (z := v178565) rfl rfl ?_)
        refine wp_of e278 c278_14 (xc_V (pc' := 17) (r := r0) (as := [vI v178565]) (st := []) (lm_9_425) rfl rfl (Nat.le_of_ble_eq_true rfl) w178567 g0 sh_42 (by decide) rfl (by decide) (s_243 w178567 g0 ⟨by omega, by omega⟩ q178574 gpp (by omega)) (fun R178587 T178588 H178589 p178590 => ?_))
        obtain ⟨e178591, w178593, f178594, e178592⟩ := p178590
        subst e178591
        subst e178592
        have f178595 := f178571.tr f178594 rfl
        have f178596 := f178568.tr f178594 rfl
        show wp _ _ 278 17 [(2, vI v178565), (0, .ref r0), (1, vI a1)] [] _ H178589 _
        refine wp_of e278 c278_17 (rw_aload_n (pc' := 18) (v := .ref r0) rfl rfl rfl ?_)
        refine wp_of e278 c278_18 (rw_aload_n (pc' := 19) (v := .ref r0) rfl rfl rfl ?_)
        refine wp_of e278 c278_19 (xg_R (pc' := 22) lf_9_39 w178593 g0 sh_42 (by decide) (by decide) ty_42_27 rfl rfl (fun r178597 q178598 g178599 => ?_))
        have k178600 : H178589 r0 3 = H178566 r0 3 := (f178594 r0 3 _ g0 rfl)
        have q178601 : H178589 r0 3 = (pp : Int) := k178600.trans q178574
        refine wp_of e278 c278_22 (xc_V (pc' := 25) (r := r0) (as := [.ref r178597]) (st := []) (lm_9_393) rfl rfl (Nat.le_of_ble_eq_true rfl) w178593 g0 sh_42 (by decide) rfl (by decide) (s_235_m_lot w178593 g0 g178599 q178601 gpp) (fun R178602 T178603 H178604 p178605 => ?_))
        obtain ⟨e178606, e178608, z178609, e178607, b178610⟩ := p178605
        subst e178606
        subst e178607
        subst e178608
        show wp _ _ 278 25 [(2, vI v178565), (0, .ref r0), (1, vI a1)] [vI z178609] _ H178589 _
        refine wp_of e278 c278_25 (rw_if_ne (p1 := 44) (p2 := 28) (by decide) rfl ⟨by omega, by omega⟩ (fun c178611 => ?_) (fun c178611 => ?_))
        · refine wp_of e278 c278_44 (rw_iinc (pc' := 47) (z := v178565) (L' := [(2, vI (v178565 + 1)), (0, .ref r0), (1, vI a1)]) rfl rfl rfl rfl ?_)
          refine wp_of e278 c278_47 (rw_goto (p1 := 2) (by decide) ?_)
          exact wp_lc (ks := [2, 0, 1]) (wl_c rfl (wl_c rfl (wl_c rfl wl_n))) rfl (by decide) (ih178564 _ (by omega) (v178565 + 1) H178589 w178593 f178596 ⟨by omega, by omega⟩ rfl)
        · refine wp_of e278 c278_28 (rw_aload_n (pc' := 29) (v := .ref r0) rfl rfl rfl ?_)
          refine wp_of e278 c278_29 (rw_aload_n (pc' := 30) (v := .ref r0) rfl rfl rfl ?_)
          refine wp_of e278 c278_30 (xg_K (pc' := 33) lf_9_39 w178593 g0 sh_42 (by decide) (by decide) rfl q178598 rfl ?_)
          refine wp_of e278 c278_33 (rw_iload_n (pc' := 34) (z := a1) rfl rfl ?_)
          refine wp_of e278 c278_34 (xc_V (pc' := 37) (r := r0) (as := [.ref r178597, vI a1]) (st := []) (lm_9_397) rfl rfl (Nat.le_of_ble_eq_true rfl) w178593 g0 sh_42 (by decide) rfl (by decide) (s_239_m_lot w178593 g0 g178599 ⟨by omega, by omega⟩ q178601 gpp) (fun R178612 T178613 H178614 p178615 => ?_))
          obtain ⟨e178616, e178618, z178619, e178617, b178620⟩ := p178615
          subst e178616
          subst e178617
          subst e178618
          show wp _ _ 278 37 [(2, vI v178565), (0, .ref r0), (1, vI a1)] [vI z178619] _ H178589 _
          refine wp_of e278 c278_37 (rw_bipush (pc' := 39) (z := 24) rfl (by decide) ?_)
          refine wp_of e278 c278_39 (rw_icmp_ne (p1 := 44) (p2 := 42) (by decide) rfl ⟨by omega, by omega⟩ ⟨by omega, by omega⟩ (fun c178621 => ?_) (fun c178621 => ?_))
          · refine wp_of e278 c278_44 (rw_iinc (pc' := 47) (z := v178565) (L' := [(2, vI (v178565 + 1)), (0, .ref r0), (1, vI a1)]) rfl rfl rfl rfl ?_)
            refine wp_of e278 c278_47 (rw_goto (p1 := 2) (by decide) ?_)
            exact wp_lc (ks := [2, 0, 1]) (wl_c rfl (wl_c rfl (wl_c rfl wl_n))) rfl (by decide) (ih178564 _ (by omega) (v178565 + 1) H178589 w178593 f178596 ⟨by omega, by omega⟩ rfl)
          · refine wp_of e278 c278_42 (rw_iconst (pc' := 43) rfl ?_)
            exact wp_zreturn e278 c278_43 rfl (by omega) ⟨rfl, w178593, f178595, 0, rfl, ⟨by omega, by omega⟩⟩
  exact wp_lc (ks := [2, 0, 1]) (wl_c rfl (wl_c rfl (wl_c rfl wl_n))) rfl (by decide) (lp178562 _ 0 H hW wfr.rf ⟨by omega, by omega⟩ rfl)
/-! StrikeAwakeModel.leastProof(II)I -/
theorem e277 : wq_en 277 = some (9, 6, false, some FieldType.int) := rfl
theorem c277_0 : mc_cd 277 0 = some (.iload_n 2, 1) := by decide +kernel
theorem c277_1 : mc_cd 277 1 = some (.ifCond .ne 17, 3) := by decide +kernel
theorem c277_4 : mc_cd 277 4 = some (.aload_n 0, 1) := by decide +kernel
theorem c277_5 : mc_cd 277 5 = some (.iconst 0, 1) := by decide +kernel
theorem c277_6 : mc_cd 277 6 = some (.invokevirtual 484, 3) := by decide +kernel
theorem c277_9 : mc_cd 277 9 = some (.ifCond .eq 7, 3) := by decide +kernel
theorem c277_12 : mc_cd 277 12 = some (.iconst 0, 1) := by decide +kernel
theorem c277_13 : mc_cd 277 13 = some (.goto 4, 3) := by decide +kernel
theorem c277_16 : mc_cd 277 16 = some (.iconst (-1), 1) := by decide +kernel
theorem c277_17 : mc_cd 277 17 = some (.ireturn, 1) := by decide +kernel
theorem c277_18 : mc_cd 277 18 = some (.iload_n 2, 1) := by decide +kernel
theorem c277_19 : mc_cd 277 19 = some (.iconst 1, 1) := by decide +kernel
theorem c277_20 : mc_cd 277 20 = some (.isub, 1) := by decide +kernel
theorem c277_21 : mc_cd 277 21 = some (.istore_n 3, 1) := by decide +kernel
theorem c277_22 : mc_cd 277 22 = some (.iload_n 3, 1) := by decide +kernel
theorem c277_23 : mc_cd 277 23 = some (.bipush 24, 2) := by decide +kernel
theorem c277_25 : mc_cd 277 25 = some (.if_icmp .ge 166, 3) := by decide +kernel
theorem c277_28 : mc_cd 277 28 = some (.iload_n 1, 1) := by decide +kernel
theorem c277_29 : mc_cd 277 29 = some (.iload_n 3, 1) := by decide +kernel
theorem c277_30 : mc_cd 277 30 = some (.invokestatic 346, 3) := by decide +kernel
theorem c277_33 : mc_cd 277 33 = some (.ifCond .ne 6, 3) := by decide +kernel
theorem c277_36 : mc_cd 277 36 = some (.goto 149, 3) := by decide +kernel
theorem c277_39 : mc_cd 277 39 = some (.iload_n 2, 1) := by decide +kernel
theorem c277_40 : mc_cd 277 40 = some (.iconst 1, 1) := by decide +kernel
theorem c277_41 : mc_cd 277 41 = some (.if_icmp .ne 17, 3) := by decide +kernel
theorem c277_44 : mc_cd 277 44 = some (.aload_n 0, 1) := by decide +kernel
theorem c277_45 : mc_cd 277 45 = some (.iconst 1, 1) := by decide +kernel
theorem c277_46 : mc_cd 277 46 = some (.iload_n 3, 1) := by decide +kernel
theorem c277_47 : mc_cd 277 47 = some (.ishl, 1) := by decide +kernel
theorem c277_48 : mc_cd 277 48 = some (.invokevirtual 484, 3) := by decide +kernel
theorem c277_51 : mc_cd 277 51 = some (.ifCond .eq 7, 3) := by decide +kernel
theorem c277_54 : mc_cd 277 54 = some (.iconst 1, 1) := by decide +kernel
theorem c277_55 : mc_cd 277 55 = some (.iload_n 3, 1) := by decide +kernel
theorem c277_56 : mc_cd 277 56 = some (.ishl, 1) := by decide +kernel
theorem c277_57 : mc_cd 277 57 = some (.ireturn, 1) := by decide +kernel
theorem c277_58 : mc_cd 277 58 = some (.iload_n 2, 1) := by decide +kernel
theorem c277_59 : mc_cd 277 59 = some (.iconst 2, 1) := by decide +kernel
theorem c277_60 : mc_cd 277 60 = some (.isub, 1) := by decide +kernel
theorem c277_61 : mc_cd 277 61 = some (.istore 4, 2) := by decide +kernel
theorem c277_63 : mc_cd 277 63 = some (.iload 4, 2) := by decide +kernel
theorem c277_65 : mc_cd 277 65 = some (.iload_n 3, 1) := by decide +kernel
theorem c277_66 : mc_cd 277 66 = some (.if_icmp .ge 119, 3) := by decide +kernel
theorem c277_69 : mc_cd 277 69 = some (.iload_n 2, 1) := by decide +kernel
theorem c277_70 : mc_cd 277 70 = some (.iconst 1, 1) := by decide +kernel
theorem c277_71 : mc_cd 277 71 = some (.if_icmp .le 114, 3) := by decide +kernel
theorem c277_74 : mc_cd 277 74 = some (.iload_n 1, 1) := by decide +kernel
theorem c277_75 : mc_cd 277 75 = some (.iload 4, 2) := by decide +kernel
theorem c277_77 : mc_cd 277 77 = some (.invokestatic 346, 3) := by decide +kernel
theorem c277_80 : mc_cd 277 80 = some (.ifCond .ne 6, 3) := by decide +kernel
theorem c277_83 : mc_cd 277 83 = some (.goto 96, 3) := by decide +kernel
theorem c277_86 : mc_cd 277 86 = some (.iload_n 2, 1) := by decide +kernel
theorem c277_87 : mc_cd 277 87 = some (.iconst 2, 1) := by decide +kernel
theorem c277_88 : mc_cd 277 88 = some (.if_icmp .ne 27, 3) := by decide +kernel
theorem c277_91 : mc_cd 277 91 = some (.aload_n 0, 1) := by decide +kernel
theorem c277_92 : mc_cd 277 92 = some (.iconst 1, 1) := by decide +kernel
theorem c277_93 : mc_cd 277 93 = some (.iload_n 3, 1) := by decide +kernel
theorem c277_94 : mc_cd 277 94 = some (.ishl, 1) := by decide +kernel
theorem c277_95 : mc_cd 277 95 = some (.iconst 1, 1) := by decide +kernel
theorem c277_96 : mc_cd 277 96 = some (.iload 4, 2) := by decide +kernel
theorem c277_98 : mc_cd 277 98 = some (.ishl, 1) := by decide +kernel
theorem c277_99 : mc_cd 277 99 = some (.ior, 1) := by decide +kernel
theorem c277_100 : mc_cd 277 100 = some (.invokevirtual 484, 3) := by decide +kernel
theorem c277_103 : mc_cd 277 103 = some (.ifCond .eq 12, 3) := by decide +kernel
theorem c277_106 : mc_cd 277 106 = some (.iconst 1, 1) := by decide +kernel
theorem c277_107 : mc_cd 277 107 = some (.iload_n 3, 1) := by decide +kernel
theorem c277_108 : mc_cd 277 108 = some (.ishl, 1) := by decide +kernel
theorem c277_109 : mc_cd 277 109 = some (.iconst 1, 1) := by decide +kernel
theorem c277_110 : mc_cd 277 110 = some (.iload 4, 2) := by decide +kernel
theorem c277_112 : mc_cd 277 112 = some (.ishl, 1) := by decide +kernel
theorem c277_113 : mc_cd 277 113 = some (.ior, 1) := by decide +kernel
theorem c277_114 : mc_cd 277 114 = some (.ireturn, 1) := by decide +kernel
theorem c277_115 : mc_cd 277 115 = some (.iconst 0, 1) := by decide +kernel
theorem c277_116 : mc_cd 277 116 = some (.istore 5, 2) := by decide +kernel
theorem c277_118 : mc_cd 277 118 = some (.iload 5, 2) := by decide +kernel
theorem c277_120 : mc_cd 277 120 = some (.iload 4, 2) := by decide +kernel
theorem c277_122 : mc_cd 277 122 = some (.if_icmp .ge 57, 3) := by decide +kernel
theorem c277_125 : mc_cd 277 125 = some (.iload_n 2, 1) := by decide +kernel
theorem c277_126 : mc_cd 277 126 = some (.iconst 2, 1) := by decide +kernel
theorem c277_127 : mc_cd 277 127 = some (.if_icmp .le 52, 3) := by decide +kernel
theorem c277_130 : mc_cd 277 130 = some (.iload_n 1, 1) := by decide +kernel
theorem c277_131 : mc_cd 277 131 = some (.iload 5, 2) := by decide +kernel
theorem c277_133 : mc_cd 277 133 = some (.invokestatic 346, 3) := by decide +kernel
theorem c277_136 : mc_cd 277 136 = some (.ifCond .eq 37, 3) := by decide +kernel
theorem c277_139 : mc_cd 277 139 = some (.aload_n 0, 1) := by decide +kernel
theorem c277_140 : mc_cd 277 140 = some (.iconst 1, 1) := by decide +kernel
theorem c277_141 : mc_cd 277 141 = some (.iload_n 3, 1) := by decide +kernel
theorem c277_142 : mc_cd 277 142 = some (.ishl, 1) := by decide +kernel
theorem c277_143 : mc_cd 277 143 = some (.iconst 1, 1) := by decide +kernel
theorem c277_144 : mc_cd 277 144 = some (.iload 4, 2) := by decide +kernel
theorem c277_146 : mc_cd 277 146 = some (.ishl, 1) := by decide +kernel
theorem c277_147 : mc_cd 277 147 = some (.ior, 1) := by decide +kernel
theorem c277_148 : mc_cd 277 148 = some (.iconst 1, 1) := by decide +kernel
theorem c277_149 : mc_cd 277 149 = some (.iload 5, 2) := by decide +kernel
theorem c277_151 : mc_cd 277 151 = some (.ishl, 1) := by decide +kernel
theorem c277_152 : mc_cd 277 152 = some (.ior, 1) := by decide +kernel
theorem c277_153 : mc_cd 277 153 = some (.invokevirtual 484, 3) := by decide +kernel
theorem c277_156 : mc_cd 277 156 = some (.ifCond .eq 17, 3) := by decide +kernel
theorem c277_159 : mc_cd 277 159 = some (.iconst 1, 1) := by decide +kernel
theorem c277_160 : mc_cd 277 160 = some (.iload_n 3, 1) := by decide +kernel
theorem c277_161 : mc_cd 277 161 = some (.ishl, 1) := by decide +kernel
theorem c277_162 : mc_cd 277 162 = some (.iconst 1, 1) := by decide +kernel
theorem c277_163 : mc_cd 277 163 = some (.iload 4, 2) := by decide +kernel
theorem c277_165 : mc_cd 277 165 = some (.ishl, 1) := by decide +kernel
theorem c277_166 : mc_cd 277 166 = some (.ior, 1) := by decide +kernel
theorem c277_167 : mc_cd 277 167 = some (.iconst 1, 1) := by decide +kernel
theorem c277_168 : mc_cd 277 168 = some (.iload 5, 2) := by decide +kernel
theorem c277_170 : mc_cd 277 170 = some (.ishl, 1) := by decide +kernel
theorem c277_171 : mc_cd 277 171 = some (.ior, 1) := by decide +kernel
theorem c277_172 : mc_cd 277 172 = some (.ireturn, 1) := by decide +kernel
theorem c277_173 : mc_cd 277 173 = some (.iinc 5 1, 3) := by decide +kernel
theorem c277_176 : mc_cd 277 176 = some (.goto (-58), 3) := by decide +kernel
theorem c277_179 : mc_cd 277 179 = some (.iinc 4 1, 3) := by decide +kernel
theorem c277_182 : mc_cd 277 182 = some (.goto (-119), 3) := by decide +kernel
theorem c277_185 : mc_cd 277 185 = some (.iinc 3 1, 3) := by decide +kernel
theorem c277_188 : mc_cd 277 188 = some (.goto (-166), 3) := by decide +kernel
theorem c277_191 : mc_cd 277 191 = some (.iconst (-1), 1) := by decide +kernel
theorem c277_192 : mc_cd 277 192 = some (.ireturn, 1) := by decide +kernel
abbrev q_277 (r0 : Nat) (a1 : Int) (a2 : Int) (pp : Nat) (T : wq_T) (H : wq_H) : Option Value → wq_T → wq_H → Prop := fun r T' H' => T = T' ∧ WT T H' ∧ wfr [(51, 999)] T H H' ∧ ∃ z : Int, some (vI z) = r ∧ ((-2147483648) ≤ z ∧ z ≤ 2147483647)
set_option maxHeartbeats 4000000 in
theorem s_277 {kt : Nat → Option mc_E} {T : wq_T} {H : wq_H} {r0 : Nat} {a1 : Int} {a2 : Int} {pp : Nat} (hW : WT T H) (g0 : T.2.2.2 r0 = some 42) (i1 : (-2147483648) ≤ a1 ∧ a1 ≤ 2147483647) (i2 : 0 ≤ a2 ∧ a2 ≤ 3) (qpp : H r0 3 = (pp : Int)) (gpp : T.2.2.2 pp = some 54) (p0 : wLM H r0 ≤ 20000) : wpc kt 6 277 [.ref r0, vI a1, vI a2] T H (q_277 r0 a1 a2 pp T H) := by
  refine wp_enter e277 (Nat.le_of_ble_eq_true rfl) rfl ?_
  have f0 : wfr [(51, 999)] T H H := wfr.rf
  show wp _ _ 277 0 [(0, .ref r0), (1, vI a1), (2, vI a2)] [] _ H _
  refine wp_of e277 c277_0 (rw_iload_n (pc' := 1) (z := a2) rfl rfl ?_)
  refine wp_of e277 c277_1 (rw_if_ne (p1 := 18) (p2 := 4) (by decide) rfl ⟨by omega, by omega⟩ (fun c194097 => ?_) (fun c194097 => ?_))
  · refine wp_of e277 c277_18 (rw_iload_n (pc' := 19) (z := a2) rfl rfl ?_)
    refine wp_of e277 c277_19 (rw_iconst (pc' := 20) rfl ?_)
    refine wp_of e277 c277_20 (rw_isub (pc' := 21) rfl ?_)
    refine wp_of e277 c277_21 (rw_istore_n (pc' := 22) (z := a2 - 1) (L' := [(3, vI (a2 - 1)), (0, .ref r0), (1, vI a1), (2, vI a2)]) rfl rfl rfl ?_)
    have lp206926 : ∀ (n206927 : Nat) (v206929 : Int) (H206930 : wq_H), WT T H206930 → wfr [(51, 999)] T H H206930 → (0 ≤ v206929 ∧ v206929 ≤ 24) → (24 - v206929).toNat = n206927 → wp kt 5 277 22 [(3, vI v206929), (0, .ref r0), (1, vI a1), (2, vI a2)] [] T H206930 (q_277 r0 a1 a2 pp T H) := by
      intro n206927
      induction n206927 using Nat.strongRecOn with
      | _ n206927 ih206928 =>
        intro v206929 H206930 w206931 f206932 b206933 m206934
        have f206935 := f0.tr f206932 rfl
        refine wp_of e277 c277_22 (rw_iload_n (pc' := 23) (z := v206929) rfl rfl ?_)
        refine wp_of e277 c277_23 (rw_bipush (pc' := 25) (z := 24) rfl (by decide) ?_)
        refine wp_of e277 c277_25 (rw_icmp_ge (p1 := 191) (p2 := 28) (by decide) rfl ⟨by omega, by omega⟩ ⟨by omega, by omega⟩ (fun c206936 => ?_) (fun c206936 => ?_))
        · refine wp_of e277 c277_191 (rw_iconst (pc' := 192) rfl ?_)
          exact wp_ireturn e277 c277_192 rfl ⟨rfl, w206931, f206935, -1, rfl, ⟨by omega, by omega⟩⟩
        · refine wp_of e277 c277_28 (rw_iload_n (pc' := 29) (z := a1) rfl rfl ?_)
          refine wp_of e277 c277_29 (rw_iload_n (pc' := 30) (z := v206929) rfl rfl ?_)
          refine wp_of e277 c277_30 (xc_S (pc' := 33) (as := [vI a1, vI v206929]) (st := []) (lm_9_346) rfl rfl (Nat.le_of_ble_eq_true rfl) rfl (by decide) (s_205 w206931 ⟨by omega, by omega⟩ ⟨by omega, by omega⟩) (fun R206937 T206938 H206939 p206940 => ?_))
          obtain ⟨e206941, e206943, z206944, e206942, b206945⟩ := p206940
          subst e206941
          subst e206942
          subst e206943
          show wp _ _ 277 33 [(3, vI v206929), (0, .ref r0), (1, vI a1), (2, vI a2)] [vI z206944] _ H206930 _
          refine wp_of e277 c277_33 (rw_if_ne (p1 := 39) (p2 := 36) (by decide) rfl ⟨by omega, by omega⟩ (fun c206946 => ?_) (fun c206946 => ?_))
          · refine wp_of e277 c277_39 (rw_iload_n (pc' := 40) (z := a2) rfl rfl ?_)
            refine wp_of e277 c277_40 (rw_iconst (pc' := 41) rfl ?_)
            refine wp_of e277 c277_41 (rw_icmp_ne (p1 := 58) (p2 := 44) (by decide) rfl ⟨by omega, by omega⟩ ⟨by omega, by omega⟩ (fun c206947 => ?_) (fun c206947 => ?_))
            · refine wp_of e277 c277_58 (rw_iload_n (pc' := 59) (z := a2) rfl rfl ?_)
              refine wp_of e277 c277_59 (rw_iconst (pc' := 60) rfl ?_)
              refine wp_of e277 c277_60 (rw_isub (pc' := 61) rfl ?_)
              refine wp_of e277 c277_61 (rw_istore (pc' := 63) (z := a2 - 2) (L' := [(4, vI (a2 - 2)), (3, vI v206929), (0, .ref r0), (1, vI a1), (2, vI a2)]) rfl rfl rfl ?_)
              have lp209214 : ∀ (n209215 : Nat) (v209217 : Int) (H209218 : wq_H), WT T H209218 → wfr [(51, 999)] T H206930 H209218 → (0 ≤ v209217 ∧ v209217 ≤ 23) → (23 - v209217).toNat = n209215 → wp kt 5 277 63 [(4, vI v209217), (3, vI v206929), (0, .ref r0), (1, vI a1), (2, vI a2)] [] T H209218 (q_277 r0 a1 a2 pp T H) := by
                intro n209215
                induction n209215 using Nat.strongRecOn with
                | _ n209215 ih209216 =>
                  intro v209217 H209218 w209219 f209220 b209221 m209222
                  have f209223 := f206935.tr f209220 rfl
                  have f209224 := f206932.tr f209220 rfl
                  refine wp_of e277 c277_63 (rw_iload (pc' := 65) (z := v209217) rfl rfl ?_)
                  refine wp_of e277 c277_65 (rw_iload_n (pc' := 66) (z := v206929) rfl rfl ?_)
                  refine wp_of e277 c277_66 (rw_icmp_ge (p1 := 185) (p2 := 69) (by decide) rfl ⟨by omega, by omega⟩ ⟨by omega, by omega⟩ (fun c209225 => ?_) (fun c209225 => ?_))
                  · refine wp_of e277 c277_185 (rw_iinc (pc' := 188) (z := v206929) (L' := [(3, vI (v206929 + 1)), (4, vI v209217), (0, .ref r0), (1, vI a1), (2, vI a2)]) rfl rfl rfl rfl ?_)
                    refine wp_of e277 c277_188 (rw_goto (p1 := 22) (by decide) ?_)
                    exact wp_lc (ks := [3, 4, 0, 1, 2]) (wl_c rfl (wl_c rfl (wl_c rfl (wl_c rfl wl_n)))) rfl (by decide) (ih206928 _ (by omega) (v206929 + 1) H209218 w209219 f209224 ⟨by omega, by omega⟩ rfl)
                  · refine wp_of e277 c277_69 (rw_iload_n (pc' := 70) (z := a2) rfl rfl ?_)
                    refine wp_of e277 c277_70 (rw_iconst (pc' := 71) rfl ?_)
                    refine wp_of e277 c277_71 (rw_icmp_le (p1 := 185) (p2 := 74) (by decide) rfl ⟨by omega, by omega⟩ ⟨by omega, by omega⟩ (fun c209226 => ?_) (fun c209226 => ?_))
                    · exfalso
                      omega
                    · refine wp_of e277 c277_74 (rw_iload_n (pc' := 75) (z := a1) rfl rfl ?_)
                      refine wp_of e277 c277_75 (rw_iload (pc' := 77) (z := v209217) rfl rfl ?_)
                      refine wp_of e277 c277_77 (xc_S (pc' := 80) (as := [vI a1, vI v209217]) (st := []) (lm_9_346) rfl rfl (Nat.le_of_ble_eq_true rfl) rfl (by decide) (s_205 w209219 ⟨by omega, by omega⟩ ⟨by omega, by omega⟩) (fun R209227 T209228 H209229 p209230 => ?_))
                      obtain ⟨e209231, e209233, z209234, e209232, b209235⟩ := p209230
                      subst e209231
                      subst e209232
                      subst e209233
                      show wp _ _ 277 80 [(4, vI v209217), (3, vI v206929), (0, .ref r0), (1, vI a1), (2, vI a2)] [vI z209234] _ H209218 _
                      refine wp_of e277 c277_80 (rw_if_ne (p1 := 86) (p2 := 83) (by decide) rfl ⟨by omega, by omega⟩ (fun c209236 => ?_) (fun c209236 => ?_))
                      · refine wp_of e277 c277_86 (rw_iload_n (pc' := 87) (z := a2) rfl rfl ?_)
                        refine wp_of e277 c277_87 (rw_iconst (pc' := 88) rfl ?_)
                        refine wp_of e277 c277_88 (rw_icmp_ne (p1 := 115) (p2 := 91) (by decide) rfl ⟨by omega, by omega⟩ ⟨by omega, by omega⟩ (fun c209237 => ?_) (fun c209237 => ?_))
                        · refine wp_of e277 c277_115 (rw_iconst (pc' := 116) rfl ?_)
                          refine wp_of e277 c277_116 (rw_istore (pc' := 118) (z := 0) (L' := [(5, vI 0), (4, vI v209217), (3, vI v206929), (0, .ref r0), (1, vI a1), (2, vI a2)]) rfl rfl rfl ?_)
                          have lp209550 : ∀ (n209551 : Nat) (v209553 : Int) (H209554 : wq_H), WT T H209554 → wfr [(51, 999)] T H209218 H209554 → (0 ≤ v209553 ∧ v209553 ≤ 22) → (22 - v209553).toNat = n209551 → wp kt 5 277 118 [(5, vI v209553), (4, vI v209217), (3, vI v206929), (0, .ref r0), (1, vI a1), (2, vI a2)] [] T H209554 (q_277 r0 a1 a2 pp T H) := by
                            intro n209551
                            induction n209551 using Nat.strongRecOn with
                            | _ n209551 ih209552 =>
                              intro v209553 H209554 w209555 f209556 b209557 m209558
                              have f209559 := f209223.tr f209556 rfl
                              have f209560 := f209224.tr f209556 rfl
                              have f209561 := f209220.tr f209556 rfl
                              refine wp_of e277 c277_118 (rw_iload (pc' := 120) (z := v209553) rfl rfl ?_)
                              refine wp_of e277 c277_120 (rw_iload (pc' := 122) (z := v209217) rfl rfl ?_)
                              refine wp_of e277 c277_122 (rw_icmp_ge (p1 := 179) (p2 := 125) (by decide) rfl ⟨by omega, by omega⟩ ⟨by omega, by omega⟩ (fun c209562 => ?_) (fun c209562 => ?_))
                              · refine wp_of e277 c277_179 (rw_iinc (pc' := 182) (z := v209217) (L' := [(4, vI (v209217 + 1)), (5, vI v209553), (3, vI v206929), (0, .ref r0), (1, vI a1), (2, vI a2)]) rfl rfl rfl rfl ?_)
                                refine wp_of e277 c277_182 (rw_goto (p1 := 63) (by decide) ?_)
                                exact wp_lc (ks := [4, 5, 3, 0, 1, 2]) (wl_c rfl (wl_c rfl (wl_c rfl (wl_c rfl (wl_c rfl wl_n))))) rfl (by decide) (ih209216 _ (by omega) (v209217 + 1) H209554 w209555 f209561 ⟨by omega, by omega⟩ rfl)
                              · refine wp_of e277 c277_125 (rw_iload_n (pc' := 126) (z := a2) rfl rfl ?_)
                                refine wp_of e277 c277_126 (rw_iconst (pc' := 127) rfl ?_)
                                refine wp_of e277 c277_127 (rw_icmp_le (p1 := 179) (p2 := 130) (by decide) rfl ⟨by omega, by omega⟩ ⟨by omega, by omega⟩ (fun c209563 => ?_) (fun c209563 => ?_))
                                · exfalso
                                  omega
                                · refine wp_of e277 c277_130 (rw_iload_n (pc' := 131) (z := a1) rfl rfl ?_)
                                  refine wp_of e277 c277_131 (rw_iload (pc' := 133) (z := v209553) rfl rfl ?_)
                                  refine wp_of e277 c277_133 (xc_S (pc' := 136) (as := [vI a1, vI v209553]) (st := []) (lm_9_346) rfl rfl (Nat.le_of_ble_eq_true rfl) rfl (by decide) (s_205 w209555 ⟨by omega, by omega⟩ ⟨by omega, by omega⟩) (fun R209564 T209565 H209566 p209567 => ?_))
                                  obtain ⟨e209568, e209570, z209571, e209569, b209572⟩ := p209567
                                  subst e209568
                                  subst e209569
                                  subst e209570
                                  show wp _ _ 277 136 [(5, vI v209553), (4, vI v209217), (3, vI v206929), (0, .ref r0), (1, vI a1), (2, vI a2)] [vI z209571] _ H209554 _
                                  refine wp_of e277 c277_136 (rw_if_eq (p1 := 173) (p2 := 139) (by decide) rfl ⟨by omega, by omega⟩ (fun c209573 => ?_) (fun c209573 => ?_))
                                  · refine wp_of e277 c277_173 (rw_iinc (pc' := 176) (z := v209553) (L' := [(5, vI (v209553 + 1)), (4, vI v209217), (3, vI v206929), (0, .ref r0), (1, vI a1), (2, vI a2)]) rfl rfl rfl rfl ?_)
                                    refine wp_of e277 c277_176 (rw_goto (p1 := 118) (by decide) ?_)
                                    exact wp_lc (ks := [5, 4, 3, 0, 1, 2]) (wl_c rfl (wl_c rfl (wl_c rfl (wl_c rfl (wl_c rfl (wl_c rfl wl_n)))))) rfl (by decide) (ih209552 _ (by omega) (v209553 + 1) H209554 w209555 f209556 ⟨by omega, by omega⟩ rfl)
                                  · refine wp_of e277 c277_139 (rw_aload_n (pc' := 140) (v := .ref r0) rfl rfl rfl ?_)
                                    refine wp_of e277 c277_140 (rw_iconst (pc' := 141) rfl ?_)
                                    refine wp_of e277 c277_141 (rw_iload_n (pc' := 142) (z := v206929) rfl rfl ?_)
                                    refine wp_of e277 c277_142 (rw_ishl (pc' := 143) rfl ?_)
                                    obtain ⟨v209574, e209575⟩ : ∃ x : Int, x = wq_shl 1 v206929 := ⟨_, rfl⟩
                                    rw [← e209575]
                                    have b209576 : 1 ≤ v209574 ∧ v209574 ≤ 8388608 := by
                                      rw [e209575]
                                      exact wq_shl1_24 ⟨by omega, by omega⟩
                                    refine wp_of e277 c277_143 (rw_iconst (pc' := 144) rfl ?_)
                                    refine wp_of e277 c277_144 (rw_iload (pc' := 146) (z := v209217) rfl rfl ?_)
                                    refine wp_of e277 c277_146 (rw_ishl (pc' := 147) rfl ?_)
                                    obtain ⟨v209577, e209578⟩ : ∃ x : Int, x = wq_shl 1 v209217 := ⟨_, rfl⟩
                                    rw [← e209578]
                                    have b209579 : 1 ≤ v209577 ∧ v209577 ≤ 8388608 := by
                                      rw [e209578]
                                      exact wq_shl1_24 ⟨by omega, by omega⟩
                                    refine wp_of e277 c277_147 (rw_ior (pc' := 148) rfl ?_)
                                    obtain ⟨v209580, e209581⟩ : ∃ x : Int, x = wq_or v209574 v209577 := ⟨_, rfl⟩
                                    rw [← e209581]
                                    have b209582 : 0 ≤ v209580 ∧ v209580 ≤ 16777215 := by
                                      rw [e209581]
                                      exact wq_or_24 ⟨by omega, by omega⟩ ⟨by omega, by omega⟩
                                    refine wp_of e277 c277_148 (rw_iconst (pc' := 149) rfl ?_)
                                    refine wp_of e277 c277_149 (rw_iload (pc' := 151) (z := v209553) rfl rfl ?_)
                                    refine wp_of e277 c277_151 (rw_ishl (pc' := 152) rfl ?_)
                                    obtain ⟨v209583, e209584⟩ : ∃ x : Int, x = wq_shl 1 v209553 := ⟨_, rfl⟩
                                    rw [← e209584]
                                    have b209585 : 1 ≤ v209583 ∧ v209583 ≤ 8388608 := by
                                      rw [e209584]
                                      exact wq_shl1_24 ⟨by omega, by omega⟩
                                    refine wp_of e277 c277_152 (rw_ior (pc' := 153) rfl ?_)
                                    obtain ⟨v209586, e209587⟩ : ∃ x : Int, x = wq_or v209580 v209583 := ⟨_, rfl⟩
                                    rw [← e209587]
                                    have b209588 : 0 ≤ v209586 ∧ v209586 ≤ 16777215 := by
                                      rw [e209587]
                                      exact wq_or_24 ⟨by omega, by omega⟩ ⟨by omega, by omega⟩
                                    have k209589 : wLM H209554 r0 = wLM H r0 := ((wLM_fr w209219 g0 f209556 rfl).trans ((wLM_fr w206931 g0 f209220 rfl).trans (wLM_fr hW g0 f206932 rfl)))
                                    have k209590 : H209554 r0 3 = H r0 3 := ((f209556 r0 3 _ g0 rfl).trans ((f209220 r0 3 _ g0 rfl).trans (f206932 r0 3 _ g0 rfl)))
                                    have q209591 : H209554 r0 3 = (pp : Int) := k209590.trans qpp
                                    refine wp_of e277 c277_153 (xc_V (pc' := 156) (r := r0) (as := [vI v209586]) (st := []) (lm_9_484) rfl rfl (Nat.le_of_ble_eq_true rfl) w209555 g0 sh_42 (by decide) rfl (by decide) (s_278 w209555 g0 ⟨by omega, by omega⟩ q209591 gpp (by omega)) (fun R209592 T209593 H209594 p209595 => ?_))
                                    obtain ⟨e209596, w209598, f209599, z209600, e209597, b209601⟩ := p209595
                                    subst e209596
                                    subst e209597
                                    have f209602 := f209559.tr f209599 rfl
                                    have f209603 := f209560.tr f209599 rfl
                                    have f209604 := f209561.tr f209599 rfl
                                    have f209605 := f209556.tr f209599 rfl
                                    show wp _ _ 277 156 [(5, vI v209553), (4, vI v209217), (3, vI v206929), (0, .ref r0), (1, vI a1), (2, vI a2)] [vI z209600] _ H209594 _
                                    refine wp_of e277 c277_156 (rw_if_eq (p1 := 173) (p2 := 159) (by decide) rfl ⟨by omega, by omega⟩ (fun c209606 => ?_) (fun c209606 => ?_))
                                    · refine wp_of e277 c277_173 (rw_iinc (pc' := 176) (z := v209553) (L' := [(5, vI (v209553 + 1)), (4, vI v209217), (3, vI v206929), (0, .ref r0), (1, vI a1), (2, vI a2)]) rfl rfl rfl rfl ?_)
                                      refine wp_of e277 c277_176 (rw_goto (p1 := 118) (by decide) ?_)
                                      exact wp_lc (ks := [5, 4, 3, 0, 1, 2]) (wl_c rfl (wl_c rfl (wl_c rfl (wl_c rfl (wl_c rfl (wl_c rfl wl_n)))))) rfl (by decide) (ih209552 _ (by omega) (v209553 + 1) H209594 w209598 f209605 ⟨by omega, by omega⟩ rfl)
                                    · refine wp_of e277 c277_159 (rw_iconst (pc' := 160) rfl ?_)
                                      refine wp_of e277 c277_160 (rw_iload_n (pc' := 161) (z := v206929) rfl rfl ?_)
                                      refine wp_of e277 c277_161 (rw_ishl (pc' := 162) rfl ?_)
                                      obtain ⟨v209607, e209608⟩ : ∃ x : Int, x = wq_shl 1 v206929 := ⟨_, rfl⟩
                                      rw [← e209608]
                                      have b209609 : 1 ≤ v209607 ∧ v209607 ≤ 8388608 := by
                                        rw [e209608]
                                        exact wq_shl1_24 ⟨by omega, by omega⟩
                                      refine wp_of e277 c277_162 (rw_iconst (pc' := 163) rfl ?_)
                                      refine wp_of e277 c277_163 (rw_iload (pc' := 165) (z := v209217) rfl rfl ?_)
                                      refine wp_of e277 c277_165 (rw_ishl (pc' := 166) rfl ?_)
                                      obtain ⟨v209610, e209611⟩ : ∃ x : Int, x = wq_shl 1 v209217 := ⟨_, rfl⟩
                                      rw [← e209611]
                                      have b209612 : 1 ≤ v209610 ∧ v209610 ≤ 8388608 := by
                                        rw [e209611]
                                        exact wq_shl1_24 ⟨by omega, by omega⟩
                                      refine wp_of e277 c277_166 (rw_ior (pc' := 167) rfl ?_)
                                      obtain ⟨v209613, e209614⟩ : ∃ x : Int, x = wq_or v209607 v209610 := ⟨_, rfl⟩
                                      rw [← e209614]
                                      have b209615 : 0 ≤ v209613 ∧ v209613 ≤ 16777215 := by
                                        rw [e209614]
                                        exact wq_or_24 ⟨by omega, by omega⟩ ⟨by omega, by omega⟩
                                      refine wp_of e277 c277_167 (rw_iconst (pc' := 168) rfl ?_)
                                      refine wp_of e277 c277_168 (rw_iload (pc' := 170) (z := v209553) rfl rfl ?_)
                                      refine wp_of e277 c277_170 (rw_ishl (pc' := 171) rfl ?_)
                                      obtain ⟨v209616, e209617⟩ : ∃ x : Int, x = wq_shl 1 v209553 := ⟨_, rfl⟩
                                      rw [← e209617]
                                      have b209618 : 1 ≤ v209616 ∧ v209616 ≤ 8388608 := by
                                        rw [e209617]
                                        exact wq_shl1_24 ⟨by omega, by omega⟩
                                      refine wp_of e277 c277_171 (rw_ior (pc' := 172) rfl ?_)
                                      obtain ⟨v209619, e209620⟩ : ∃ x : Int, x = wq_or v209613 v209616 := ⟨_, rfl⟩
                                      rw [← e209620]
                                      have b209621 : 0 ≤ v209619 ∧ v209619 ≤ 16777215 := by
                                        rw [e209620]
                                        exact wq_or_24 ⟨by omega, by omega⟩ ⟨by omega, by omega⟩
                                      exact wp_ireturn e277 c277_172 rfl ⟨rfl, w209598, f209602, v209619, rfl, ⟨by omega, by omega⟩⟩
                          exact wp_lc (ks := [5, 4, 3, 0, 1, 2]) (wl_c rfl (wl_c rfl (wl_c rfl (wl_c rfl (wl_c rfl (wl_c rfl wl_n)))))) rfl (by decide) (lp209550 _ 0 H209218 w209219 wfr.rf ⟨by omega, by omega⟩ rfl)
                        · refine wp_of e277 c277_91 (rw_aload_n (pc' := 92) (v := .ref r0) rfl rfl rfl ?_)
                          refine wp_of e277 c277_92 (rw_iconst (pc' := 93) rfl ?_)
                          refine wp_of e277 c277_93 (rw_iload_n (pc' := 94) (z := v206929) rfl rfl ?_)
                          refine wp_of e277 c277_94 (rw_ishl (pc' := 95) rfl ?_)
                          obtain ⟨v209622, e209623⟩ : ∃ x : Int, x = wq_shl 1 v206929 := ⟨_, rfl⟩
                          rw [← e209623]
                          have b209624 : 1 ≤ v209622 ∧ v209622 ≤ 8388608 := by
                            rw [e209623]
                            exact wq_shl1_24 ⟨by omega, by omega⟩
                          refine wp_of e277 c277_95 (rw_iconst (pc' := 96) rfl ?_)
                          refine wp_of e277 c277_96 (rw_iload (pc' := 98) (z := v209217) rfl rfl ?_)
                          refine wp_of e277 c277_98 (rw_ishl (pc' := 99) rfl ?_)
                          obtain ⟨v209625, e209626⟩ : ∃ x : Int, x = wq_shl 1 v209217 := ⟨_, rfl⟩
                          rw [← e209626]
                          have b209627 : 1 ≤ v209625 ∧ v209625 ≤ 8388608 := by
                            rw [e209626]
                            exact wq_shl1_24 ⟨by omega, by omega⟩
                          refine wp_of e277 c277_99 (rw_ior (pc' := 100) rfl ?_)
                          obtain ⟨v209628, e209629⟩ : ∃ x : Int, x = wq_or v209622 v209625 := ⟨_, rfl⟩
                          rw [← e209629]
                          have b209630 : 0 ≤ v209628 ∧ v209628 ≤ 16777215 := by
                            rw [e209629]
                            exact wq_or_24 ⟨by omega, by omega⟩ ⟨by omega, by omega⟩
                          have k209631 : wLM H209218 r0 = wLM H r0 := ((wLM_fr w206931 g0 f209220 rfl).trans (wLM_fr hW g0 f206932 rfl))
                          have k209632 : H209218 r0 3 = H r0 3 := ((f209220 r0 3 _ g0 rfl).trans (f206932 r0 3 _ g0 rfl))
                          have q209633 : H209218 r0 3 = (pp : Int) := k209632.trans qpp
                          refine wp_of e277 c277_100 (xc_V (pc' := 103) (r := r0) (as := [vI v209628]) (st := []) (lm_9_484) rfl rfl (Nat.le_of_ble_eq_true rfl) w209219 g0 sh_42 (by decide) rfl (by decide) (s_278 w209219 g0 ⟨by omega, by omega⟩ q209633 gpp (by omega)) (fun R209634 T209635 H209636 p209637 => ?_))
                          obtain ⟨e209638, w209640, f209641, z209642, e209639, b209643⟩ := p209637
                          subst e209638
                          subst e209639
                          have f209644 := f209223.tr f209641 rfl
                          have f209645 := f209224.tr f209641 rfl
                          have f209646 := f209220.tr f209641 rfl
                          show wp _ _ 277 103 [(4, vI v209217), (3, vI v206929), (0, .ref r0), (1, vI a1), (2, vI a2)] [vI z209642] _ H209636 _
                          refine wp_of e277 c277_103 (rw_if_eq (p1 := 115) (p2 := 106) (by decide) rfl ⟨by omega, by omega⟩ (fun c209647 => ?_) (fun c209647 => ?_))
                          · refine wp_of e277 c277_115 (rw_iconst (pc' := 116) rfl ?_)
                            refine wp_of e277 c277_116 (rw_istore (pc' := 118) (z := 0) (L' := [(5, vI 0), (4, vI v209217), (3, vI v206929), (0, .ref r0), (1, vI a1), (2, vI a2)]) rfl rfl rfl ?_)
                            have lp209650 : ∀ (n209651 : Nat) (v209653 : Int), (0 ≤ v209653 ∧ v209653 ≤ 0) → 0 = n209651 → wp kt 5 277 118 [(5, vI v209653), (4, vI v209217), (3, vI v206929), (0, .ref r0), (1, vI a1), (2, vI a2)] [] T H209636 (q_277 r0 a1 a2 pp T H) := by
                              intro n209651
                              induction n209651 using Nat.strongRecOn with
                              | _ n209651 ih209652 =>
                                intro v209653 b209656 m209657
                                refine wp_of e277 c277_118 (rw_iload (pc' := 120) (z := v209653) rfl rfl ?_)
                                refine wp_of e277 c277_120 (rw_iload (pc' := 122) (z := v209217) rfl rfl ?_)
                                refine wp_of e277 c277_122 (rw_icmp_ge (p1 := 179) (p2 := 125) (by decide) rfl ⟨by omega, by omega⟩ ⟨by omega, by omega⟩ (fun c209658 => ?_) (fun c209658 => ?_))
                                · refine wp_of e277 c277_179 (rw_iinc (pc' := 182) (z := v209217) (L' := [(4, vI (v209217 + 1)), (5, vI v209653), (3, vI v206929), (0, .ref r0), (1, vI a1), (2, vI a2)]) rfl rfl rfl rfl ?_)
                                  refine wp_of e277 c277_182 (rw_goto (p1 := 63) (by decide) ?_)
                                  exact wp_lc (ks := [4, 5, 3, 0, 1, 2]) (wl_c rfl (wl_c rfl (wl_c rfl (wl_c rfl (wl_c rfl wl_n))))) rfl (by decide) (ih209216 _ (by omega) (v209217 + 1) H209636 w209640 f209646 ⟨by omega, by omega⟩ rfl)
                                · refine wp_of e277 c277_125 (rw_iload_n (pc' := 126) (z := a2) rfl rfl ?_)
                                  refine wp_of e277 c277_126 (rw_iconst (pc' := 127) rfl ?_)
                                  refine wp_of e277 c277_127 (rw_icmp_le (p1 := 179) (p2 := 130) (by decide) rfl ⟨by omega, by omega⟩ ⟨by omega, by omega⟩ (fun c209659 => ?_) (fun c209659 => ?_))
                                  · refine wp_of e277 c277_179 (rw_iinc (pc' := 182) (z := v209217) (L' := [(4, vI (v209217 + 1)), (5, vI v209653), (3, vI v206929), (0, .ref r0), (1, vI a1), (2, vI a2)]) rfl rfl rfl rfl ?_)
                                    refine wp_of e277 c277_182 (rw_goto (p1 := 63) (by decide) ?_)
                                    exact wp_lc (ks := [4, 5, 3, 0, 1, 2]) (wl_c rfl (wl_c rfl (wl_c rfl (wl_c rfl (wl_c rfl wl_n))))) rfl (by decide) (ih209216 _ (by omega) (v209217 + 1) H209636 w209640 f209646 ⟨by omega, by omega⟩ rfl)
                                  · exfalso
                                    omega
                            exact wp_lc (ks := [5, 4, 3, 0, 1, 2]) (wl_c rfl (wl_c rfl (wl_c rfl (wl_c rfl (wl_c rfl (wl_c rfl wl_n)))))) rfl (by decide) (lp209650 _ 0 ⟨by omega, by omega⟩ rfl)
                          · refine wp_of e277 c277_106 (rw_iconst (pc' := 107) rfl ?_)
                            refine wp_of e277 c277_107 (rw_iload_n (pc' := 108) (z := v206929) rfl rfl ?_)
                            refine wp_of e277 c277_108 (rw_ishl (pc' := 109) rfl ?_)
                            obtain ⟨v209660, e209661⟩ : ∃ x : Int, x = wq_shl 1 v206929 := ⟨_, rfl⟩
                            rw [← e209661]
                            have b209662 : 1 ≤ v209660 ∧ v209660 ≤ 8388608 := by
                              rw [e209661]
                              exact wq_shl1_24 ⟨by omega, by omega⟩
                            refine wp_of e277 c277_109 (rw_iconst (pc' := 110) rfl ?_)
                            refine wp_of e277 c277_110 (rw_iload (pc' := 112) (z := v209217) rfl rfl ?_)
                            refine wp_of e277 c277_112 (rw_ishl (pc' := 113) rfl ?_)
                            obtain ⟨v209663, e209664⟩ : ∃ x : Int, x = wq_shl 1 v209217 := ⟨_, rfl⟩
                            rw [← e209664]
                            have b209665 : 1 ≤ v209663 ∧ v209663 ≤ 8388608 := by
                              rw [e209664]
                              exact wq_shl1_24 ⟨by omega, by omega⟩
                            refine wp_of e277 c277_113 (rw_ior (pc' := 114) rfl ?_)
                            obtain ⟨v209666, e209667⟩ : ∃ x : Int, x = wq_or v209660 v209663 := ⟨_, rfl⟩
                            rw [← e209667]
                            have b209668 : 0 ≤ v209666 ∧ v209666 ≤ 16777215 := by
                              rw [e209667]
                              exact wq_or_24 ⟨by omega, by omega⟩ ⟨by omega, by omega⟩
                            exact wp_ireturn e277 c277_114 rfl ⟨rfl, w209640, f209644, v209666, rfl, ⟨by omega, by omega⟩⟩
                      · refine wp_of e277 c277_83 (rw_goto (p1 := 179) (by decide) ?_)
                        refine wp_of e277 c277_179 (rw_iinc (pc' := 182) (z := v209217) (L' := [(4, vI (v209217 + 1)), (3, vI v206929), (0, .ref r0), (1, vI a1), (2, vI a2)]) rfl rfl rfl rfl ?_)
                        refine wp_of e277 c277_182 (rw_goto (p1 := 63) (by decide) ?_)
                        exact wp_lc (ks := [4, 3, 0, 1, 2]) (wl_c rfl (wl_c rfl (wl_c rfl (wl_c rfl (wl_c rfl wl_n))))) rfl (by decide) (ih209216 _ (by omega) (v209217 + 1) H209218 w209219 f209220 ⟨by omega, by omega⟩ rfl)
              exact wp_lc (ks := [4, 3, 0, 1, 2]) (wl_c rfl (wl_c rfl (wl_c rfl (wl_c rfl (wl_c rfl wl_n))))) rfl (by decide) (lp209214 _ (a2 - 2) H206930 w206931 wfr.rf ⟨by omega, by omega⟩ rfl)
            · refine wp_of e277 c277_44 (rw_aload_n (pc' := 45) (v := .ref r0) rfl rfl rfl ?_)
              refine wp_of e277 c277_45 (rw_iconst (pc' := 46) rfl ?_)
              refine wp_of e277 c277_46 (rw_iload_n (pc' := 47) (z := v206929) rfl rfl ?_)
              refine wp_of e277 c277_47 (rw_ishl (pc' := 48) rfl ?_)
              obtain ⟨v209669, e209670⟩ : ∃ x : Int, x = wq_shl 1 v206929 := ⟨_, rfl⟩
              rw [← e209670]
              have b209671 : 1 ≤ v209669 ∧ v209669 ≤ 8388608 := by
                rw [e209670]
                exact wq_shl1_24 ⟨by omega, by omega⟩
              have k209672 : wLM H206930 r0 = wLM H r0 := (wLM_fr hW g0 f206932 rfl)
              have k209673 : H206930 r0 3 = H r0 3 := (f206932 r0 3 _ g0 rfl)
              have q209674 : H206930 r0 3 = (pp : Int) := k209673.trans qpp
              refine wp_of e277 c277_48 (xc_V (pc' := 51) (r := r0) (as := [vI v209669]) (st := []) (lm_9_484) rfl rfl (Nat.le_of_ble_eq_true rfl) w206931 g0 sh_42 (by decide) rfl (by decide) (s_278 w206931 g0 ⟨by omega, by omega⟩ q209674 gpp (by omega)) (fun R209675 T209676 H209677 p209678 => ?_))
              obtain ⟨e209679, w209681, f209682, z209683, e209680, b209684⟩ := p209678
              subst e209679
              subst e209680
              have f209685 := f206935.tr f209682 rfl
              have f209686 := f206932.tr f209682 rfl
              show wp _ _ 277 51 [(3, vI v206929), (0, .ref r0), (1, vI a1), (2, vI a2)] [vI z209683] _ H209677 _
              refine wp_of e277 c277_51 (rw_if_eq (p1 := 58) (p2 := 54) (by decide) rfl ⟨by omega, by omega⟩ (fun c209687 => ?_) (fun c209687 => ?_))
              · refine wp_of e277 c277_58 (rw_iload_n (pc' := 59) (z := a2) rfl rfl ?_)
                refine wp_of e277 c277_59 (rw_iconst (pc' := 60) rfl ?_)
                refine wp_of e277 c277_60 (rw_isub (pc' := 61) rfl ?_)
                refine wp_of e277 c277_61 (rw_istore (pc' := 63) (z := a2 - 2) (L' := [(4, vI (a2 - 2)), (3, vI v206929), (0, .ref r0), (1, vI a1), (2, vI a2)]) rfl rfl rfl ?_)
                have lp209690 : ∀ (n209691 : Nat) (v209693 : Int), ((-1) ≤ v209693 ∧ v209693 ≤ (-1)) → 0 = n209691 → wp kt 5 277 63 [(4, vI v209693), (3, vI v206929), (0, .ref r0), (1, vI a1), (2, vI a2)] [] T H209677 (q_277 r0 a1 a2 pp T H) := by
                  intro n209691
                  induction n209691 using Nat.strongRecOn with
                  | _ n209691 ih209692 =>
                    intro v209693 b209696 m209697
                    refine wp_of e277 c277_63 (rw_iload (pc' := 65) (z := v209693) rfl rfl ?_)
                    refine wp_of e277 c277_65 (rw_iload_n (pc' := 66) (z := v206929) rfl rfl ?_)
                    refine wp_of e277 c277_66 (rw_icmp_ge (p1 := 185) (p2 := 69) (by decide) rfl ⟨by omega, by omega⟩ ⟨by omega, by omega⟩ (fun c209698 => ?_) (fun c209698 => ?_))
                    · exfalso
                      omega
                    · refine wp_of e277 c277_69 (rw_iload_n (pc' := 70) (z := a2) rfl rfl ?_)
                      refine wp_of e277 c277_70 (rw_iconst (pc' := 71) rfl ?_)
                      refine wp_of e277 c277_71 (rw_icmp_le (p1 := 185) (p2 := 74) (by decide) rfl ⟨by omega, by omega⟩ ⟨by omega, by omega⟩ (fun c209699 => ?_) (fun c209699 => ?_))
                      · refine wp_of e277 c277_185 (rw_iinc (pc' := 188) (z := v206929) (L' := [(3, vI (v206929 + 1)), (4, vI v209693), (0, .ref r0), (1, vI a1), (2, vI a2)]) rfl rfl rfl rfl ?_)
                        refine wp_of e277 c277_188 (rw_goto (p1 := 22) (by decide) ?_)
                        exact wp_lc (ks := [3, 4, 0, 1, 2]) (wl_c rfl (wl_c rfl (wl_c rfl (wl_c rfl wl_n)))) rfl (by decide) (ih206928 _ (by omega) (v206929 + 1) H209677 w209681 f209686 ⟨by omega, by omega⟩ rfl)
                      · exfalso
                        omega
                exact wp_lc (ks := [4, 3, 0, 1, 2]) (wl_c rfl (wl_c rfl (wl_c rfl (wl_c rfl (wl_c rfl wl_n))))) rfl (by decide) (lp209690 _ (a2 - 2) ⟨by omega, by omega⟩ rfl)
              · refine wp_of e277 c277_54 (rw_iconst (pc' := 55) rfl ?_)
                refine wp_of e277 c277_55 (rw_iload_n (pc' := 56) (z := v206929) rfl rfl ?_)
                refine wp_of e277 c277_56 (rw_ishl (pc' := 57) rfl ?_)
                obtain ⟨v209700, e209701⟩ : ∃ x : Int, x = wq_shl 1 v206929 := ⟨_, rfl⟩
                rw [← e209701]
                have b209702 : 1 ≤ v209700 ∧ v209700 ≤ 8388608 := by
                  rw [e209701]
                  exact wq_shl1_24 ⟨by omega, by omega⟩
                exact wp_ireturn e277 c277_57 rfl ⟨rfl, w209681, f209685, v209700, rfl, ⟨by omega, by omega⟩⟩
          · refine wp_of e277 c277_36 (rw_goto (p1 := 185) (by decide) ?_)
            refine wp_of e277 c277_185 (rw_iinc (pc' := 188) (z := v206929) (L' := [(3, vI (v206929 + 1)), (0, .ref r0), (1, vI a1), (2, vI a2)]) rfl rfl rfl rfl ?_)
            refine wp_of e277 c277_188 (rw_goto (p1 := 22) (by decide) ?_)
            exact wp_lc (ks := [3, 0, 1, 2]) (wl_c rfl (wl_c rfl (wl_c rfl (wl_c rfl wl_n)))) rfl (by decide) (ih206928 _ (by omega) (v206929 + 1) H206930 w206931 f206932 ⟨by omega, by omega⟩ rfl)
    exact wp_lc (ks := [3, 0, 1, 2]) (wl_c rfl (wl_c rfl (wl_c rfl (wl_c rfl wl_n)))) rfl (by decide) (lp206926 _ (a2 - 1) H hW wfr.rf ⟨by omega, by omega⟩ rfl)
  · refine wp_of e277 c277_4 (rw_aload_n (pc' := 5) (v := .ref r0) rfl rfl rfl ?_)
    refine wp_of e277 c277_5 (rw_iconst (pc' := 6) rfl ?_)
    refine wp_of e277 c277_6 (xc_V (pc' := 9) (r := r0) (as := [vI 0]) (st := []) (lm_9_484) rfl rfl (Nat.le_of_ble_eq_true rfl) hW g0 sh_42 (by decide) rfl (by decide) (s_278 hW g0 ⟨by omega, by omega⟩ qpp gpp (by omega)) (fun R209703 T209704 H209705 p209706 => ?_))
    obtain ⟨e209707, w209709, f209710, z209711, e209708, b209712⟩ := p209706
    subst e209707
    subst e209708
    have f209713 := f0.tr f209710 rfl
    show wp _ _ 277 9 [(0, .ref r0), (1, vI a1), (2, vI a2)] [vI z209711] _ H209705 _
    refine wp_of e277 c277_9 (rw_if_eq (p1 := 16) (p2 := 12) (by decide) rfl ⟨by omega, by omega⟩ (fun c209714 => ?_) (fun c209714 => ?_))
    · refine wp_of e277 c277_16 (rw_iconst (pc' := 17) rfl ?_)
      exact wp_ireturn e277 c277_17 rfl ⟨rfl, w209709, f209713, -1, rfl, ⟨by omega, by omega⟩⟩
    · refine wp_of e277 c277_12 (rw_iconst (pc' := 13) rfl ?_)
      refine wp_of e277 c277_13 (rw_goto (p1 := 17) (by decide) ?_)
      exact wp_ireturn e277 c277_17 rfl ⟨rfl, w209709, f209713, 0, rfl, ⟨by omega, by omega⟩⟩
/-! StrikeAwakeModel.proof()I -/
theorem e276 : wq_en 276 = some (9, 5, false, some FieldType.int) := rfl
theorem c276_0 : mc_cd 276 0 = some (.aload_n 0, 1) := by decide +kernel
theorem c276_1 : mc_cd 276 1 = some (.iconst 0, 1) := by decide +kernel
theorem c276_2 : mc_cd 276 2 = some (.putfield 48, 3) := by decide +kernel
theorem c276_5 : mc_cd 276 5 = some (.aload_n 0, 1) := by decide +kernel
theorem c276_6 : mc_cd 276 6 = some (.aload_n 0, 1) := by decide +kernel
theorem c276_7 : mc_cd 276 7 = some (.getfield 337, 3) := by decide +kernel
theorem c276_10 : mc_cd 276 10 = some (.ifnull 7, 3) := by decide +kernel
theorem c276_13 : mc_cd 276 13 = some (.iconst 1, 1) := by decide +kernel
theorem c276_14 : mc_cd 276 14 = some (.goto 4, 3) := by decide +kernel
theorem c276_17 : mc_cd 276 17 = some (.iconst 0, 1) := by decide +kernel
theorem c276_18 : mc_cd 276 18 = some (.invokevirtual 433, 3) := by decide +kernel
theorem c276_21 : mc_cd 276 21 = some (.istore_n 1, 1) := by decide +kernel
theorem c276_22 : mc_cd 276 22 = some (.iload_n 1, 1) := by decide +kernel
theorem c276_23 : mc_cd 276 23 = some (.ifCond .ne 16, 3) := by decide +kernel
theorem c276_26 : mc_cd 276 26 = some (.aload_n 0, 1) := by decide +kernel
theorem c276_27 : mc_cd 276 27 = some (.invokevirtual 376, 3) := by decide +kernel
theorem c276_30 : mc_cd 276 30 = some (.ldc2_w 479, 3) := by decide +kernel
theorem c276_33 : mc_cd 276 33 = some (.lcmp, 1) := by decide +kernel
theorem c276_34 : mc_cd 276 34 = some (.ifCond .le 5, 3) := by decide +kernel
theorem c276_37 : mc_cd 276 37 = some (.iconst 3, 1) := by decide +kernel
theorem c276_38 : mc_cd 276 38 = some (.istore_n 1, 1) := by decide +kernel
theorem c276_39 : mc_cd 276 39 = some (.iload_n 1, 1) := by decide +kernel
theorem c276_40 : mc_cd 276 40 = some (.ifCond .ne 12, 3) := by decide +kernel
theorem c276_43 : mc_cd 276 43 = some (.aload_n 0, 1) := by decide +kernel
theorem c276_44 : mc_cd 276 44 = some (.getfield 422, 3) := by decide +kernel
theorem c276_47 : mc_cd 276 47 = some (.ifCond .le 5, 3) := by decide +kernel
theorem c276_50 : mc_cd 276 50 = some (.iconst 5, 1) := by decide +kernel
theorem c276_51 : mc_cd 276 51 = some (.istore_n 1, 1) := by decide +kernel
theorem c276_52 : mc_cd 276 52 = some (.iload_n 1, 1) := by decide +kernel
theorem c276_53 : mc_cd 276 53 = some (.ifCond .le 9, 3) := by decide +kernel
theorem c276_56 : mc_cd 276 56 = some (.aload_n 0, 1) := by decide +kernel
theorem c276_57 : mc_cd 276 57 = some (.iload_n 1, 1) := by decide +kernel
theorem c276_58 : mc_cd 276 58 = some (.invokevirtual 54, 3) := by decide +kernel
theorem c276_61 : mc_cd 276 61 = some (.ireturn, 1) := by decide +kernel
theorem c276_62 : mc_cd 276 62 = some (.aload_n 0, 1) := by decide +kernel
theorem c276_63 : mc_cd 276 63 = some (.invokevirtual 357, 3) := by decide +kernel
theorem c276_66 : mc_cd 276 66 = some (.istore_n 2, 1) := by decide +kernel
theorem c276_67 : mc_cd 276 67 = some (.iconst 0, 1) := by decide +kernel
theorem c276_68 : mc_cd 276 68 = some (.istore_n 3, 1) := by decide +kernel
theorem c276_69 : mc_cd 276 69 = some (.iload_n 3, 1) := by decide +kernel
theorem c276_70 : mc_cd 276 70 = some (.iconst 4, 1) := by decide +kernel
theorem c276_71 : mc_cd 276 71 = some (.if_icmp .ge 30, 3) := by decide +kernel
theorem c276_74 : mc_cd 276 74 = some (.aload_n 0, 1) := by decide +kernel
theorem c276_75 : mc_cd 276 75 = some (.iload_n 2, 1) := by decide +kernel
theorem c276_76 : mc_cd 276 76 = some (.iload_n 3, 1) := by decide +kernel
theorem c276_77 : mc_cd 276 77 = some (.invokevirtual 481, 3) := by decide +kernel
theorem c276_80 : mc_cd 276 80 = some (.istore 4, 2) := by decide +kernel
theorem c276_82 : mc_cd 276 82 = some (.iload 4, 2) := by decide +kernel
theorem c276_84 : mc_cd 276 84 = some (.iconst (-1), 1) := by decide +kernel
theorem c276_85 : mc_cd 276 85 = some (.if_icmp .eq 10, 3) := by decide +kernel
theorem c276_88 : mc_cd 276 88 = some (.aload_n 0, 1) := by decide +kernel
theorem c276_89 : mc_cd 276 89 = some (.iload 4, 2) := by decide +kernel
theorem c276_91 : mc_cd 276 91 = some (.invokevirtual 58, 3) := by decide +kernel
theorem c276_94 : mc_cd 276 94 = some (.ireturn, 1) := by decide +kernel
theorem c276_95 : mc_cd 276 95 = some (.iinc 3 1, 3) := by decide +kernel
theorem c276_98 : mc_cd 276 98 = some (.goto (-29), 3) := by decide +kernel
theorem c276_101 : mc_cd 276 101 = some (.aload_n 0, 1) := by decide +kernel
theorem c276_102 : mc_cd 276 102 = some (.bipush (-2), 2) := by decide +kernel
theorem c276_104 : mc_cd 276 104 = some (.invokevirtual 58, 3) := by decide +kernel
theorem c276_107 : mc_cd 276 107 = some (.ireturn, 1) := by decide +kernel
abbrev q_276 (r0 : Nat) (T : wq_T) (H : wq_H) : Option Value → wq_T → wq_H → Prop := fun r T' H' => T = T' ∧ WT T H' ∧ wfr [(42, 0), (42, 1), (42, 2), (42, 28), (42, 29), (51, 999), (52, 999)] T H H' ∧ ∃ z : Int, some (vI z) = r ∧ ((-2147483648) ≤ z ∧ z ≤ 2147483647) ∧ (wKI H' r0 = 1)
set_option maxHeartbeats 4000000 in
theorem s_276 {kt : Nat → Option mc_E} {T : wq_T} {H : wq_H} {r0 : Nat} (hW : WT T H) (g0 : T.2.2.2 r0 = some 42) (p0 : wKI H r0 = 1) : wpc kt 8 276 [.ref r0] T H (q_276 r0 T H) := by
  refine wp_enter e276 (Nat.le_of_ble_eq_true rfl) rfl ?_
  have f0 : wfr [(42, 0), (42, 1), (42, 2), (42, 28), (42, 29), (51, 999), (52, 999)] T H H := wfr.rf
  show wp _ _ 276 0 [(0, .ref r0)] [] _ H _
  refine wp_of e276 c276_0 (rw_aload_n (pc' := 1) (v := .ref r0) rfl rfl rfl ?_)
  refine wp_of e276 c276_1 (rw_iconst (pc' := 2) rfl ?_)
  refine wp_of e276 c276_2 (xp_I (pc' := 5) lf_9_48 hW g0 sh_42 (by decide) (by decide) ty_42_0 rfl rfl (by omega) (by omega) ⟨by omega, by omega⟩ rfl (fun H209961 e209962 w209963 => ?_))
  have f209964 := f0.put' e209962 g0 rfl
  have k209965 : H209961 r0 0 = 0 := wq_u_s e209962
  refine wp_of e276 c276_5 (rw_aload_n (pc' := 6) (v := .ref r0) rfl rfl rfl ?_)
  refine wp_of e276 c276_6 (rw_aload_n (pc' := 7) (v := .ref r0) rfl rfl rfl ?_)
  refine wp_of e276 c276_7 (xg_O (pc' := 10) lf_9_337 w209963 g0 sh_42 (by decide) (by decide) ty_42_3 rfl rfl (fun q209967 => ?_) (fun r209966 q209967 g209968 => ?_))
  · refine wp_of e276 c276_10 (rw_ifnull_n (p1 := 17) (p2 := 13) (by decide) rfl ?_)
    refine wp_of e276 c276_17 (rw_iconst (pc' := 18) rfl ?_)
    have k209969 : wKI H209961 r0 = wKI H r0 := (wKI_fr hW g0 ((wfr.rf (l := [(42, 0)])).put' e209962 g0 rfl) rfl)
    refine wp_of e276 c276_18 (xc_V (pc' := 21) (r := r0) (as := [vI 0]) (st := []) (lm_9_433) rfl rfl (Nat.le_of_ble_eq_true rfl) w209963 g0 sh_42 (by decide) rfl (by decide) (s_241 w209963 g0 ⟨by omega, by omega⟩ (by omega) (by omega)) (fun R209970 T209971 H209972 p209973 => ?_))
    obtain ⟨e209974, w209976, f209977, z209982, e209975, b209983, p209978, p209979, p209980, p209981⟩ := p209973
    subst e209974
    subst e209975
    have f209984 := f209964.tr f209977 rfl
    show wp _ _ 276 21 [(0, .ref r0)] [vI z209982] _ H209972 _
    refine wp_of e276 c276_21 (rw_istore_n (pc' := 22) (z := z209982) (L' := [(1, vI z209982), (0, .ref r0)]) rfl rfl rfl ?_)
    refine wp_of e276 c276_22 (rw_iload_n (pc' := 23) (z := z209982) rfl rfl ?_)
    refine wp_of e276 c276_23 (rw_if_ne (p1 := 39) (p2 := 26) (by decide) rfl ⟨by omega, by omega⟩ (fun c209985 => ?_) (fun c209985 => ?_))
    · refine wp_of e276 c276_39 (rw_iload_n (pc' := 40) (z := z209982) rfl rfl ?_)
      refine wp_of e276 c276_40 (rw_if_ne (p1 := 52) (p2 := 43) (by decide) rfl ⟨by omega, by omega⟩ (fun c209986 => ?_) (fun c209986 => ?_))
      · refine wp_of e276 c276_52 (rw_iload_n (pc' := 53) (z := z209982) rfl rfl ?_)
        refine wp_of e276 c276_53 (rw_if_le (p1 := 62) (p2 := 56) (by decide) rfl ⟨by omega, by omega⟩ (fun c209987 => ?_) (fun c209987 => ?_))
        · exfalso
          omega
        · refine wp_of e276 c276_56 (rw_aload_n (pc' := 57) (v := .ref r0) rfl rfl rfl ?_)
          refine wp_of e276 c276_57 (rw_iload_n (pc' := 58) (z := z209982) rfl rfl ?_)
          refine wp_of e276 c276_58 (xc_V (pc' := 61) (r := r0) (as := [vI z209982]) (st := []) (lm_9_54) rfl rfl (Nat.le_of_ble_eq_true rfl) w209976 g0 sh_42 (by decide) rfl (by decide) (s_170 w209976 g0 ⟨by omega, by omega⟩) (fun R209988 T209989 H209990 p209991 => ?_))
          obtain ⟨e209992, w209994, f209995, z209996, e209993, b209997⟩ := p209991
          subst e209992
          subst e209993
          have f209998 := f209984.tr f209995 rfl
          show wp _ _ 276 61 [(1, vI z209982), (0, .ref r0)] [vI z209996] _ H209990 _
          have k209999 : wKI H209990 r0 = wKI H209972 r0 := (wKI_fr w209976 g0 f209995 rfl)
          exact wp_ireturn e276 c276_61 rfl ⟨rfl, w209994, f209998, z209996, rfl, ⟨by omega, by omega⟩, by omega⟩
      · exfalso
        omega
    · exfalso
      omega
  · refine wp_of e276 c276_10 (rw_ifnull_r (p1 := 17) (p2 := 13) (by decide) rfl ?_)
    refine wp_of e276 c276_13 (rw_iconst (pc' := 14) rfl ?_)
    refine wp_of e276 c276_14 (rw_goto (p1 := 18) (by decide) ?_)
    have k210000 : wKI H209961 r0 = wKI H r0 := (wKI_fr hW g0 ((wfr.rf (l := [(42, 0)])).put' e209962 g0 rfl) rfl)
    refine wp_of e276 c276_18 (xc_V (pc' := 21) (r := r0) (as := [vI 1]) (st := []) (lm_9_433) rfl rfl (Nat.le_of_ble_eq_true rfl) w209963 g0 sh_42 (by decide) rfl (by decide) (s_241 w209963 g0 ⟨by omega, by omega⟩ (by omega) (by omega)) (fun R210001 T210002 H210003 p210004 => ?_))
    obtain ⟨e210005, w210007, f210008, z210013, e210006, b210014, p210009, p210010, p210011, p210012⟩ := p210004
    subst e210005
    subst e210006
    have f210015 := f209964.tr f210008 rfl
    show wp _ _ 276 21 [(0, .ref r0)] [vI z210013] _ H210003 _
    refine wp_of e276 c276_21 (rw_istore_n (pc' := 22) (z := z210013) (L' := [(1, vI z210013), (0, .ref r0)]) rfl rfl rfl ?_)
    refine wp_of e276 c276_22 (rw_iload_n (pc' := 23) (z := z210013) rfl rfl ?_)
    refine wp_of e276 c276_23 (rw_if_ne (p1 := 39) (p2 := 26) (by decide) rfl ⟨by omega, by omega⟩ (fun c210016 => ?_) (fun c210016 => ?_))
    · refine wp_of e276 c276_39 (rw_iload_n (pc' := 40) (z := z210013) rfl rfl ?_)
      refine wp_of e276 c276_40 (rw_if_ne (p1 := 52) (p2 := 43) (by decide) rfl ⟨by omega, by omega⟩ (fun c210017 => ?_) (fun c210017 => ?_))
      · refine wp_of e276 c276_52 (rw_iload_n (pc' := 53) (z := z210013) rfl rfl ?_)
        refine wp_of e276 c276_53 (rw_if_le (p1 := 62) (p2 := 56) (by decide) rfl ⟨by omega, by omega⟩ (fun c210018 => ?_) (fun c210018 => ?_))
        · exfalso
          omega
        · refine wp_of e276 c276_56 (rw_aload_n (pc' := 57) (v := .ref r0) rfl rfl rfl ?_)
          refine wp_of e276 c276_57 (rw_iload_n (pc' := 58) (z := z210013) rfl rfl ?_)
          refine wp_of e276 c276_58 (xc_V (pc' := 61) (r := r0) (as := [vI z210013]) (st := []) (lm_9_54) rfl rfl (Nat.le_of_ble_eq_true rfl) w210007 g0 sh_42 (by decide) rfl (by decide) (s_170 w210007 g0 ⟨by omega, by omega⟩) (fun R210019 T210020 H210021 p210022 => ?_))
          obtain ⟨e210023, w210025, f210026, z210027, e210024, b210028⟩ := p210022
          subst e210023
          subst e210024
          have f210029 := f210015.tr f210026 rfl
          show wp _ _ 276 61 [(1, vI z210013), (0, .ref r0)] [vI z210027] _ H210021 _
          have k210030 : wKI H210021 r0 = wKI H210003 r0 := (wKI_fr w210007 g0 f210026 rfl)
          exact wp_ireturn e276 c276_61 rfl ⟨rfl, w210025, f210029, z210027, rfl, ⟨by omega, by omega⟩, by omega⟩
      · exfalso
        omega
    · refine wp_of e276 c276_26 (rw_aload_n (pc' := 27) (v := .ref r0) rfl rfl rfl ?_)
      have k210031 : H210003 r0 3 = H209961 r0 3 := (f210008 r0 3 _ g0 rfl)
      have q210032 : H210003 r0 3 = (r209966 : Int) := k210031.trans q209967
      refine wp_of e276 c276_27 (xc_V (pc' := 30) (r := r0) (as := []) (st := []) (lm_9_376) rfl rfl (Nat.le_of_ble_eq_true rfl) w210007 g0 sh_42 (by decide) rfl (by decide) (s_220 w210007 g0 q210032 g209968) (fun R210033 T210034 H210035 p210036 => ?_))
      obtain ⟨e210037, e210039, z210041, e210038, b210042, p210040⟩ := p210036
      subst e210037
      subst e210038
      subst e210039
      show wp _ _ 276 30 [(1, vI z210013), (0, .ref r0)] [vL z210041] _ H210003 _
      refine wp_of e276 c276_30 (rw_ldc2 (pc' := 33) (z := 5000) rfl rfl rfl ?_)
      refine wp_of e276 c276_33 (rw_lcmp (pc' := 34) rfl ⟨by omega, by omega⟩ ⟨by omega, by omega⟩ ?_)
      have b210043 := wq_cmp_b z210041 5000
      refine wp_of e276 c276_34 (rw_if_le (p1 := 39) (p2 := 37) (by decide) rfl ⟨by omega, by omega⟩ (fun c210044 => ?_) (fun c210044 => ?_))
      · refine wp_of e276 c276_39 (rw_iload_n (pc' := 40) (z := z210013) rfl rfl ?_)
        refine wp_of e276 c276_40 (rw_if_ne (p1 := 52) (p2 := 43) (by decide) rfl ⟨by omega, by omega⟩ (fun c210045 => ?_) (fun c210045 => ?_))
        · exfalso
          omega
        · refine wp_of e276 c276_43 (rw_aload_n (pc' := 44) (v := .ref r0) rfl rfl rfl ?_)
          refine wp_of e276 c276_44 (xg_I (pc' := 47) lf_9_422 w210007 g0 sh_42 (by decide) (by decide) ty_42_29 rfl rfl (fun b210046 b210047 => ?_))
          refine wp_of e276 c276_47 (rw_if_le (p1 := 52) (p2 := 50) (by decide) rfl ⟨by omega, by omega⟩ (fun c210048 => ?_) (fun c210048 => ?_))
          · refine wp_of e276 c276_52 (rw_iload_n (pc' := 53) (z := z210013) rfl rfl ?_)
            refine wp_of e276 c276_53 (rw_if_le (p1 := 62) (p2 := 56) (by decide) rfl ⟨by omega, by omega⟩ (fun c210049 => ?_) (fun c210049 => ?_))
            · refine wp_of e276 c276_62 (rw_aload_n (pc' := 63) (v := .ref r0) rfl rfl rfl ?_)
              refine wp_of e276 c276_63 (xc_V (pc' := 66) (r := r0) (as := []) (st := []) (lm_9_357) rfl rfl (Nat.le_of_ble_eq_true rfl) w210007 g0 sh_42 (by decide) rfl (by decide) (s_207 w210007 g0) (fun R210050 T210051 H210052 p210053 => ?_))
              obtain ⟨e210054, e210056, z210057, e210055, b210058⟩ := p210053
              subst e210054
              subst e210055
              subst e210056
              show wp _ _ 276 66 [(1, vI z210013), (0, .ref r0)] [vI z210057] _ H210003 _
              refine wp_of e276 c276_66 (rw_istore_n (pc' := 67) (z := z210057) (L' := [(2, vI z210057), (1, vI z210013), (0, .ref r0)]) rfl rfl rfl ?_)
              refine wp_of e276 c276_67 (rw_iconst (pc' := 68) rfl ?_)
              refine wp_of e276 c276_68 (rw_istore_n (pc' := 69) (z := 0) (L' := [(3, vI 0), (2, vI z210057), (1, vI z210013), (0, .ref r0)]) rfl rfl rfl ?_)
              have lp210139 : ∀ (n210140 : Nat) (v210142 : Int) (H210143 : wq_H), WT T H210143 → wfr [(51, 999)] T H210003 H210143 → (0 ≤ v210142 ∧ v210142 ≤ 4) → (4 - v210142).toNat = n210140 → wp kt 7 276 69 [(3, vI v210142), (2, vI z210057), (0, .ref r0)] [] T H210143 (q_276 r0 T H) := by
                intro n210140
                induction n210140 using Nat.strongRecOn with
                | _ n210140 ih210141 =>
                  intro v210142 H210143 w210144 f210145 b210146 m210147
                  have f210148 := f210015.tr f210145 rfl
                  refine wp_of e276 c276_69 (rw_iload_n (pc' := 70) (z := v210142) rfl rfl ?_)
                  refine wp_of e276 c276_70 (rw_iconst (pc' := 71) rfl ?_)
                  refine wp_of e276 c276_71 (rw_icmp_ge (p1 := 101) (p2 := 74) (by decide) rfl ⟨by omega, by omega⟩ ⟨by omega, by omega⟩ (fun c210149 => ?_) (fun c210149 => ?_))
                  · refine wp_of e276 c276_101 (rw_aload_n (pc' := 102) (v := .ref r0) rfl rfl rfl ?_)
                    refine wp_of e276 c276_102 (rw_bipush (pc' := 104) (z := -2) rfl (by decide) ?_)
                    refine wp_of e276 c276_104 (xc_V (pc' := 107) (r := r0) (as := [vI (-2)]) (st := []) (lm_9_58) rfl rfl (Nat.le_of_ble_eq_true rfl) w210144 g0 sh_42 (by decide) rfl (by decide) (s_209 w210144 g0 ⟨by omega, by omega⟩) (fun R210150 T210151 H210152 p210153 => ?_))
                    obtain ⟨e210154, w210156, f210157, z210158, e210155, b210159⟩ := p210153
                    subst e210154
                    subst e210155
                    have f210160 := f210148.tr f210157 rfl
                    show wp _ _ 276 107 [(3, vI v210142), (2, vI z210057), (0, .ref r0)] [vI z210158] _ H210152 _
                    have k210161 : wKI H210152 r0 = wKI H210003 r0 := ((wKI_fr w210144 g0 f210157 rfl).trans (wKI_fr w210007 g0 f210145 rfl))
                    exact wp_ireturn e276 c276_107 rfl ⟨rfl, w210156, f210160, z210158, rfl, ⟨by omega, by omega⟩, by omega⟩
                  · refine wp_of e276 c276_74 (rw_aload_n (pc' := 75) (v := .ref r0) rfl rfl rfl ?_)
                    refine wp_of e276 c276_75 (rw_iload_n (pc' := 76) (z := z210057) rfl rfl ?_)
                    refine wp_of e276 c276_76 (rw_iload_n (pc' := 77) (z := v210142) rfl rfl ?_)
                    have k210162 : wLM H210143 r0 = wLM H210003 r0 := (wLM_fr w210007 g0 f210145 rfl)
                    have k210163 : H210143 r0 3 = H210003 r0 3 := (f210145 r0 3 _ g0 rfl)
                    have q210164 : H210143 r0 3 = (r209966 : Int) := k210163.trans q210032
                    refine wp_of e276 c276_77 (xc_V (pc' := 80) (r := r0) (as := [vI z210057, vI v210142]) (st := []) (lm_9_481) rfl rfl (Nat.le_of_ble_eq_true rfl) w210144 g0 sh_42 (by decide) rfl (by decide) (s_277 w210144 g0 ⟨by omega, by omega⟩ ⟨by omega, by omega⟩ q210164 g209968 (by omega)) (fun R210165 T210166 H210167 p210168 => ?_))
                    obtain ⟨e210169, w210171, f210172, z210173, e210170, b210174⟩ := p210168
                    subst e210169
                    subst e210170
                    have f210175 := f210148.tr f210172 rfl
                    have f210176 := f210145.tr f210172 rfl
                    show wp _ _ 276 80 [(3, vI v210142), (2, vI z210057), (0, .ref r0)] [vI z210173] _ H210167 _
                    refine wp_of e276 c276_80 (rw_istore (pc' := 82) (z := z210173) (L' := [(4, vI z210173), (3, vI v210142), (2, vI z210057), (0, .ref r0)]) rfl rfl rfl ?_)
                    refine wp_of e276 c276_82 (rw_iload (pc' := 84) (z := z210173) rfl rfl ?_)
                    refine wp_of e276 c276_84 (rw_iconst (pc' := 85) rfl ?_)
                    refine wp_of e276 c276_85 (rw_icmp_eq (p1 := 95) (p2 := 88) (by decide) rfl ⟨by omega, by omega⟩ ⟨by omega, by omega⟩ (fun c210177 => ?_) (fun c210177 => ?_))
                    · refine wp_of e276 c276_95 (rw_iinc (pc' := 98) (z := v210142) (L' := [(3, vI (v210142 + 1)), (4, vI z210173), (2, vI z210057), (0, .ref r0)]) rfl rfl rfl rfl ?_)
                      refine wp_of e276 c276_98 (rw_goto (p1 := 69) (by decide) ?_)
                      exact wp_lc (ks := [3, 4, 2, 0]) (wl_c rfl (wl_c rfl (wl_c rfl wl_n))) rfl (by decide) (ih210141 _ (by omega) (v210142 + 1) H210167 w210171 f210176 ⟨by omega, by omega⟩ rfl)
                    · refine wp_of e276 c276_88 (rw_aload_n (pc' := 89) (v := .ref r0) rfl rfl rfl ?_)
                      refine wp_of e276 c276_89 (rw_iload (pc' := 91) (z := z210173) rfl rfl ?_)
                      refine wp_of e276 c276_91 (xc_V (pc' := 94) (r := r0) (as := [vI z210173]) (st := []) (lm_9_58) rfl rfl (Nat.le_of_ble_eq_true rfl) w210171 g0 sh_42 (by decide) rfl (by decide) (s_209 w210171 g0 ⟨by omega, by omega⟩) (fun R210178 T210179 H210180 p210181 => ?_))
                      obtain ⟨e210182, w210184, f210185, z210186, e210183, b210187⟩ := p210181
                      subst e210182
                      subst e210183
                      have f210188 := f210175.tr f210185 rfl
                      show wp _ _ 276 94 [(4, vI z210173), (3, vI v210142), (2, vI z210057), (0, .ref r0)] [vI z210186] _ H210180 _
                      have k210189 : wKI H210180 r0 = wKI H210003 r0 := ((wKI_fr w210171 g0 f210185 rfl).trans ((wKI_fr w210144 g0 f210172 rfl).trans (wKI_fr w210007 g0 f210145 rfl)))
                      exact wp_ireturn e276 c276_94 rfl ⟨rfl, w210184, f210188, z210186, rfl, ⟨by omega, by omega⟩, by omega⟩
              exact wp_lc (ks := [3, 2, 1, 0]) (wl_c rfl (wl_c rfl (wl_c rfl wl_n))) rfl (by decide) (lp210139 _ 0 H210003 w210007 wfr.rf ⟨by omega, by omega⟩ rfl)
            · exfalso
              omega
          · refine wp_of e276 c276_50 (rw_iconst (pc' := 51) rfl ?_)
            refine wp_of e276 c276_51 (rw_istore_n (pc' := 52) (z := 5) (L' := [(1, vI 5), (0, .ref r0)]) rfl rfl rfl ?_)
            refine wp_of e276 c276_52 (rw_iload_n (pc' := 53) (z := 5) rfl rfl ?_)
            refine wp_of e276 c276_53 (rw_if_le (p1 := 62) (p2 := 56) (by decide) rfl ⟨by omega, by omega⟩ (fun c210190 => ?_) (fun c210190 => ?_))
            · exfalso
              omega
            · refine wp_of e276 c276_56 (rw_aload_n (pc' := 57) (v := .ref r0) rfl rfl rfl ?_)
              refine wp_of e276 c276_57 (rw_iload_n (pc' := 58) (z := 5) rfl rfl ?_)
              refine wp_of e276 c276_58 (xc_V (pc' := 61) (r := r0) (as := [vI 5]) (st := []) (lm_9_54) rfl rfl (Nat.le_of_ble_eq_true rfl) w210007 g0 sh_42 (by decide) rfl (by decide) (s_170 w210007 g0 ⟨by omega, by omega⟩) (fun R210191 T210192 H210193 p210194 => ?_))
              obtain ⟨e210195, w210197, f210198, z210199, e210196, b210200⟩ := p210194
              subst e210195
              subst e210196
              have f210201 := f210015.tr f210198 rfl
              show wp _ _ 276 61 [(1, vI 5), (0, .ref r0)] [vI z210199] _ H210193 _
              have k210202 : wKI H210193 r0 = wKI H210003 r0 := (wKI_fr w210007 g0 f210198 rfl)
              exact wp_ireturn e276 c276_61 rfl ⟨rfl, w210197, f210201, z210199, rfl, ⟨by omega, by omega⟩, by omega⟩
      · refine wp_of e276 c276_37 (rw_iconst (pc' := 38) rfl ?_)
        refine wp_of e276 c276_38 (rw_istore_n (pc' := 39) (z := 3) (L' := [(1, vI 3), (0, .ref r0)]) rfl rfl rfl ?_)
        refine wp_of e276 c276_39 (rw_iload_n (pc' := 40) (z := 3) rfl rfl ?_)
        refine wp_of e276 c276_40 (rw_if_ne (p1 := 52) (p2 := 43) (by decide) rfl ⟨by omega, by omega⟩ (fun c210203 => ?_) (fun c210203 => ?_))
        · refine wp_of e276 c276_52 (rw_iload_n (pc' := 53) (z := 3) rfl rfl ?_)
          refine wp_of e276 c276_53 (rw_if_le (p1 := 62) (p2 := 56) (by decide) rfl ⟨by omega, by omega⟩ (fun c210204 => ?_) (fun c210204 => ?_))
          · exfalso
            omega
          · refine wp_of e276 c276_56 (rw_aload_n (pc' := 57) (v := .ref r0) rfl rfl rfl ?_)
            refine wp_of e276 c276_57 (rw_iload_n (pc' := 58) (z := 3) rfl rfl ?_)
            refine wp_of e276 c276_58 (xc_V (pc' := 61) (r := r0) (as := [vI 3]) (st := []) (lm_9_54) rfl rfl (Nat.le_of_ble_eq_true rfl) w210007 g0 sh_42 (by decide) rfl (by decide) (s_170 w210007 g0 ⟨by omega, by omega⟩) (fun R210205 T210206 H210207 p210208 => ?_))
            obtain ⟨e210209, w210211, f210212, z210213, e210210, b210214⟩ := p210208
            subst e210209
            subst e210210
            have f210215 := f210015.tr f210212 rfl
            show wp _ _ 276 61 [(1, vI 3), (0, .ref r0)] [vI z210213] _ H210207 _
            have k210216 : wKI H210207 r0 = wKI H210003 r0 := (wKI_fr w210007 g0 f210212 rfl)
            exact wp_ireturn e276 c276_61 rfl ⟨rfl, w210211, f210215, z210213, rfl, ⟨by omega, by omega⟩, by omega⟩
        · exfalso
          omega
/-! StrikeAwakeModel.isStruck(I)Z -/
theorem e280 : wq_en 280 = some (9, 2, false, some FieldType.boolean) := rfl
theorem c280_0 : mc_cd 280 0 = some (.aload_n 0, 1) := by decide +kernel
theorem c280_1 : mc_cd 280 1 = some (.iload_n 1, 1) := by decide +kernel
theorem c280_2 : mc_cd 280 2 = some (.invokevirtual 373, 3) := by decide +kernel
theorem c280_5 : mc_cd 280 5 = some (.ifCond .eq 16, 3) := by decide +kernel
theorem c280_8 : mc_cd 280 8 = some (.aload_n 0, 1) := by decide +kernel
theorem c280_9 : mc_cd 280 9 = some (.getfield 17, 3) := by decide +kernel
theorem c280_12 : mc_cd 280 12 = some (.iload_n 1, 1) := by decide +kernel
theorem c280_13 : mc_cd 280 13 = some (.iaload, 1) := by decide +kernel
theorem c280_14 : mc_cd 280 14 = some (.ifCond .le 7, 3) := by decide +kernel
theorem c280_17 : mc_cd 280 17 = some (.iconst 1, 1) := by decide +kernel
theorem c280_18 : mc_cd 280 18 = some (.goto 4, 3) := by decide +kernel
theorem c280_21 : mc_cd 280 21 = some (.iconst 0, 1) := by decide +kernel
theorem c280_22 : mc_cd 280 22 = some (.ireturn, 1) := by decide +kernel
abbrev q_280 (r0 : Nat) (a1 : Int) (T : wq_T) (H : wq_H) : Option Value → wq_T → wq_H → Prop := fun r T' H' => T = T' ∧ H = H' ∧ ∃ z : Int, some (vI z) = r ∧ (0 ≤ z ∧ z ≤ 1) ∧ (z = 0 ∨ (H r0 3 ≠ -1 ∧ 0 ≤ a1 ∧ a1 ≤ 23))
set_option maxHeartbeats 4000000 in
theorem s_280 {kt : Nat → Option mc_E} {T : wq_T} {H : wq_H} {r0 : Nat} {a1 : Int} (hW : WT T H) (g0 : T.2.2.2 r0 = some 42) (i1 : (-2147483648) ≤ a1 ∧ a1 ≤ 2147483647) : wpc kt 2 280 [.ref r0, vI a1] T H (q_280 r0 a1 T H) := by
  refine wp_enter e280 (Nat.le_of_ble_eq_true rfl) rfl ?_
  show wp _ _ 280 0 [(0, .ref r0), (1, vI a1)] [] _ H _
  refine wp_of e280 c280_0 (rw_aload_n (pc' := 1) (v := .ref r0) rfl rfl rfl ?_)
  refine wp_of e280 c280_1 (rw_iload_n (pc' := 2) (z := a1) rfl rfl ?_)
  refine wp_of e280 c280_2 (xc_V (pc' := 5) (r := r0) (as := [vI a1]) (st := []) (lm_9_373) rfl rfl (Nat.le_of_ble_eq_true rfl) hW g0 sh_42 (by decide) rfl (by decide) (s_218 hW g0 ⟨by omega, by omega⟩) (fun R210234 T210235 H210236 p210237 => ?_))
  obtain ⟨e210238, e210240, z210242, e210239, b210243, p210241⟩ := p210237
  subst e210238
  subst e210239
  subst e210240
  show wp _ _ 280 5 [(0, .ref r0), (1, vI a1)] [vI z210242] _ H _
  refine wp_of e280 c280_5 (rw_if_eq (p1 := 21) (p2 := 8) (by decide) rfl ⟨by omega, by omega⟩ (fun c210244 => ?_) (fun c210244 => ?_))
  · refine wp_of e280 c280_21 (rw_iconst (pc' := 22) rfl ?_)
    exact wp_zreturn e280 c280_22 rfl (by omega) ⟨rfl, rfl, 0, rfl, ⟨by omega, by omega⟩, by omega⟩
  · refine wp_of e280 c280_8 (rw_aload_n (pc' := 9) (v := .ref r0) rfl rfl rfl ?_)
    refine wp_of e280 c280_9 (xg_R (pc' := 12) lf_9_17 hW g0 sh_42 (by decide) (by decide) ty_42_20 rfl rfl (fun r210245 q210246 g210247 => ?_))
    refine wp_of e280 c280_12 (rw_iload_n (pc' := 13) (z := a1) rfl rfl ?_)
    refine wp_of e280 c280_13 (xa_I (so := 0) (pc' := 14) hW g210247 sh_44 (by decide) (ty_44 _) (by omega) (by omega) rfl (fun b210248 b210249 => ?_))
    refine wp_of e280 c280_14 (rw_if_le (p1 := 21) (p2 := 17) (by decide) rfl ⟨by omega, by omega⟩ (fun c210250 => ?_) (fun c210250 => ?_))
    · refine wp_of e280 c280_21 (rw_iconst (pc' := 22) rfl ?_)
      exact wp_zreturn e280 c280_22 rfl (by omega) ⟨rfl, rfl, 0, rfl, ⟨by omega, by omega⟩, by omega⟩
    · refine wp_of e280 c280_17 (rw_iconst (pc' := 18) rfl ?_)
      refine wp_of e280 c280_18 (rw_goto (p1 := 22) (by decide) ?_)
      exact wp_zreturn e280 c280_22 rfl (by omega) ⟨rfl, rfl, 1, rfl, ⟨by omega, by omega⟩, by omega⟩
/-! StrikeAwakeModel.lost(I)I -/
theorem e281 : wq_en 281 = some (9, 2, false, some FieldType.int) := rfl
theorem c281_0 : mc_cd 281 0 = some (.aload_n 0, 1) := by decide +kernel
theorem c281_1 : mc_cd 281 1 = some (.iload_n 1, 1) := by decide +kernel
theorem c281_2 : mc_cd 281 2 = some (.invokevirtual 54, 3) := by decide +kernel
theorem c281_5 : mc_cd 281 5 = some (.pop, 1) := by decide +kernel
theorem c281_6 : mc_cd 281 6 = some (.sipush (-1000), 3) := by decide +kernel
theorem c281_9 : mc_cd 281 9 = some (.ireturn, 1) := by decide +kernel
abbrev q_281 (r0 : Nat) (a1 : Int) (T : wq_T) (H : wq_H) : Option Value → wq_T → wq_H → Prop := fun r T' H' => T = T' ∧ WT T H' ∧ wfr [(42, 1), (42, 2)] T H H' ∧ ∃ z : Int, some (vI z) = r ∧ ((-2147483648) ≤ z ∧ z ≤ 2147483647)
set_option maxHeartbeats 4000000 in
theorem s_281 {kt : Nat → Option mc_E} {T : wq_T} {H : wq_H} {r0 : Nat} {a1 : Int} (hW : WT T H) (g0 : T.2.2.2 r0 = some 42) (i1 : (-2147483648) ≤ a1 ∧ a1 ≤ 2147483647) : wpc kt 2 281 [.ref r0, vI a1] T H (q_281 r0 a1 T H) := by
  refine wp_enter e281 (Nat.le_of_ble_eq_true rfl) rfl ?_
  have f0 : wfr [(42, 1), (42, 2)] T H H := wfr.rf
  show wp _ _ 281 0 [(0, .ref r0), (1, vI a1)] [] _ H _
  refine wp_of e281 c281_0 (rw_aload_n (pc' := 1) (v := .ref r0) rfl rfl rfl ?_)
  refine wp_of e281 c281_1 (rw_iload_n (pc' := 2) (z := a1) rfl rfl ?_)
  refine wp_of e281 c281_2 (xc_V (pc' := 5) (r := r0) (as := [vI a1]) (st := []) (lm_9_54) rfl rfl (Nat.le_of_ble_eq_true rfl) hW g0 sh_42 (by decide) rfl (by decide) (s_170 hW g0 ⟨by omega, by omega⟩) (fun R210262 T210263 H210264 p210265 => ?_))
  obtain ⟨e210266, w210268, f210269, z210270, e210267, b210271⟩ := p210265
  subst e210266
  subst e210267
  have f210272 := f0.tr f210269 rfl
  show wp _ _ 281 5 [(0, .ref r0), (1, vI a1)] [vI z210270] _ H210264 _
  refine wp_of e281 c281_5 (rw_pop (pc' := 6) rfl rfl ?_)
  refine wp_of e281 c281_6 (rw_sipush (pc' := 9) (z := -1000) rfl (by decide) ?_)
  exact wp_ireturn e281 c281_9 rfl ⟨rfl, w210268, f210272, -1000, rfl, ⟨by omega, by omega⟩⟩
