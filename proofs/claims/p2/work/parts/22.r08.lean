/-! methods of the reference (own work, written by wip/gen2/sx.py) -/
/-! StrikeAwakeModel.likeliest(I)I -/
theorem e256 : wq_en 256 = some (9, 3, false, some FieldType.int) := rfl
theorem c256_0 : mc_cd 256 0 = some (.aload_n 0, 1) := by decide +kernel
theorem c256_1 : mc_cd 256 1 = some (.iconst 0, 1) := by decide +kernel
theorem c256_2 : mc_cd 256 2 = some (.putfield 48, 3) := by decide +kernel
theorem c256_5 : mc_cd 256 5 = some (.aload_n 0, 1) := by decide +kernel
theorem c256_6 : mc_cd 256 6 = some (.aload_n 0, 1) := by decide +kernel
theorem c256_7 : mc_cd 256 7 = some (.iload_n 1, 1) := by decide +kernel
theorem c256_8 : mc_cd 256 8 = some (.invokevirtual 364, 3) := by decide +kernel
theorem c256_11 : mc_cd 256 11 = some (.invokevirtual 447, 3) := by decide +kernel
theorem c256_14 : mc_cd 256 14 = some (.istore_n 2, 1) := by decide +kernel
theorem c256_15 : mc_cd 256 15 = some (.iload_n 2, 1) := by decide +kernel
theorem c256_16 : mc_cd 256 16 = some (.ifCond .le 9, 3) := by decide +kernel
theorem c256_19 : mc_cd 256 19 = some (.aload_n 0, 1) := by decide +kernel
theorem c256_20 : mc_cd 256 20 = some (.iload_n 2, 1) := by decide +kernel
theorem c256_21 : mc_cd 256 21 = some (.invokevirtual 54, 3) := by decide +kernel
theorem c256_24 : mc_cd 256 24 = some (.ireturn, 1) := by decide +kernel
theorem c256_25 : mc_cd 256 25 = some (.aload_n 0, 1) := by decide +kernel
theorem c256_26 : mc_cd 256 26 = some (.invokevirtual 452, 3) := by decide +kernel
theorem c256_29 : mc_cd 256 29 = some (.pop2, 1) := by decide +kernel
theorem c256_30 : mc_cd 256 30 = some (.aload_n 0, 1) := by decide +kernel
theorem c256_31 : mc_cd 256 31 = some (.aload_n 0, 1) := by decide +kernel
theorem c256_32 : mc_cd 256 32 = some (.getfield 39, 3) := by decide +kernel
theorem c256_35 : mc_cd 256 35 = some (.iload_n 1, 1) := by decide +kernel
theorem c256_36 : mc_cd 256 36 = some (.iaload, 1) := by decide +kernel
theorem c256_37 : mc_cd 256 37 = some (.invokevirtual 58, 3) := by decide +kernel
theorem c256_40 : mc_cd 256 40 = some (.ireturn, 1) := by decide +kernel
abbrev q_256 (r0 : Nat) (a1 : Int) (T : wq_T) (H : wq_H) : Option Value → wq_T → wq_H → Prop := fun r T' H' => T = T' ∧ WT T H' ∧ wfr [(42, 0), (42, 1), (42, 2), (42, 28), (42, 29), (51, 999), (52, 999)] T H H' ∧ ∃ z : Int, some (vI z) = r ∧ ((-2147483648) ≤ z ∧ z ≤ 2147483647) ∧ (wKI H' r0 = 1)
set_option maxHeartbeats 4000000 in
theorem s_256 {kt : Nat → Option mc_E} {T : wq_T} {H : wq_H} {r0 : Nat} {a1 : Int} (hW : WT T H) (g0 : T.2.2.2 r0 = some 42) (i1 : (-2147483648) ≤ a1 ∧ a1 ≤ 2147483647) (p0 : wKI H r0 = 1) : wpc kt 9 256 [.ref r0, vI a1] T H (q_256 r0 a1 T H) := by
  refine wp_enter e256 (Nat.le_of_ble_eq_true rfl) rfl ?_
  have f0 : wfr [(42, 0), (42, 1), (42, 2), (42, 28), (42, 29), (51, 999), (52, 999)] T H H := wfr.rf
  show wp _ _ 256 0 [(0, .ref r0), (1, vI a1)] [] _ H _
  refine wp_of e256 c256_0 (rw_aload_n (pc' := 1) (v := .ref r0) rfl rfl rfl ?_)
  refine wp_of e256 c256_1 (rw_iconst (pc' := 2) rfl ?_)
  refine wp_of e256 c256_2 (xp_I (pc' := 5) lf_9_48 hW g0 sh_42 (by decide) (by decide) ty_42_0 rfl rfl (by omega) (by omega) ⟨by omega, by omega⟩ rfl (fun H138569 e138570 w138571 => ?_))
  have f138572 := f0.put' e138570 g0 rfl
  have k138573 : H138569 r0 0 = 0 := wq_u_s e138570
  refine wp_of e256 c256_5 (rw_aload_n (pc' := 6) (v := .ref r0) rfl rfl rfl ?_)
  refine wp_of e256 c256_6 (rw_aload_n (pc' := 7) (v := .ref r0) rfl rfl rfl ?_)
  refine wp_of e256 c256_7 (rw_iload_n (pc' := 8) (z := a1) rfl rfl ?_)
  refine wp_of e256 c256_8 (xc_V (pc' := 11) (r := r0) (as := [vI a1]) (st := [.ref r0]) (lm_9_364) rfl rfl (Nat.le_of_ble_eq_true rfl) w138571 g0 sh_42 (by decide) rfl (by decide) (s_213 w138571 g0 ⟨by omega, by omega⟩) (fun R138574 T138575 H138576 p138577 => ?_))
  obtain ⟨e138578, e138580, z138582, e138579, b138583, p138581⟩ := p138577
  subst e138578
  subst e138579
  subst e138580
  show wp _ _ 256 11 [(0, .ref r0), (1, vI a1)] [vI z138582, .ref r0] _ H138569 _
  have k138584 : wKI H138569 r0 = wKI H r0 := (wKI_fr hW g0 ((wfr.rf (l := [(42, 0)])).put' e138570 g0 rfl) rfl)
  refine wp_of e256 c256_11 (xc_V (pc' := 14) (r := r0) (as := [vI z138582]) (st := []) (lm_9_447) rfl rfl (Nat.le_of_ble_eq_true rfl) w138571 g0 sh_42 (by decide) rfl (by decide) (s_253 w138571 g0 ⟨by omega, by omega⟩ (by omega) (by omega)) (fun R138585 T138586 H138587 p138588 => ?_))
  obtain ⟨e138589, w138591, f138592, z138597, e138590, b138598, p138593, p138594, p138595, p138596⟩ := p138588
  subst e138589
  subst e138590
  have f138599 := f138572.tr f138592 rfl
  show wp _ _ 256 14 [(0, .ref r0), (1, vI a1)] [vI z138597] _ H138587 _
  refine wp_of e256 c256_14 (rw_istore_n (pc' := 15) (z := z138597) (L' := [(2, vI z138597), (0, .ref r0), (1, vI a1)]) rfl rfl rfl ?_)
  refine wp_of e256 c256_15 (rw_iload_n (pc' := 16) (z := z138597) rfl rfl ?_)
  refine wp_of e256 c256_16 (rw_if_le (p1 := 25) (p2 := 19) (by decide) rfl ⟨by omega, by omega⟩ (fun c138600 => ?_) (fun c138600 => ?_))
  · refine wp_of e256 c256_25 (rw_aload_n (pc' := 26) (v := .ref r0) rfl rfl rfl ?_)
    have k138601 : H138587 r0 3 = H138569 r0 3 := (f138592 r0 3 _ g0 rfl)
    obtain ⟨r138602, q138603, g138604⟩ := (w138591.opt g0 (t' := 54) (n := 33) (j := 3) (p := 0) (q := 0) rfl (by decide) rfl).resolve_left (by omega)
    refine wp_of e256 c256_26 (xc_V (pc' := 29) (r := r0) (as := []) (st := []) (lm_9_452) rfl rfl (Nat.le_of_ble_eq_true rfl) w138591 g0 sh_42 (by decide) rfl (by decide) (s_257 w138591 g0 q138603 g138604 (by omega) (by omega)) (fun R138605 T138606 H138607 p138608 => ?_))
    obtain ⟨e138609, w138611, f138612, z138613, e138610, b138614⟩ := p138608
    subst e138609
    subst e138610
    have f138615 := f138599.tr f138612 rfl
    show wp _ _ 256 29 [(2, vI z138597), (0, .ref r0), (1, vI a1)] [vL z138613] _ H138607 _
    refine wp_of e256 c256_29 (rw_pop2 (pc' := 30) rfl rfl ?_)
    refine wp_of e256 c256_30 (rw_aload_n (pc' := 31) (v := .ref r0) rfl rfl rfl ?_)
    refine wp_of e256 c256_31 (rw_aload_n (pc' := 32) (v := .ref r0) rfl rfl rfl ?_)
    refine wp_of e256 c256_32 (xg_R (pc' := 35) lf_9_39 w138611 g0 sh_42 (by decide) (by decide) ty_42_27 rfl rfl (fun r138616 q138617 g138618 => ?_))
    refine wp_of e256 c256_35 (rw_iload_n (pc' := 36) (z := a1) rfl rfl ?_)
    refine wp_of e256 c256_36 (xa_I (so := 0) (pc' := 37) w138611 g138618 sh_51 (by decide) (ty_51 _) (by omega) (by omega) rfl (fun b138619 b138620 => ?_))
    refine wp_of e256 c256_37 (xc_V (pc' := 40) (r := r0) (as := [vI (H138607 r138616 (a1.toNat))]) (st := []) (lm_9_58) rfl rfl (Nat.le_of_ble_eq_true rfl) w138611 g0 sh_42 (by decide) rfl (by decide) (s_209 w138611 g0 ⟨by omega, by omega⟩) (fun R138621 T138622 H138623 p138624 => ?_))
    obtain ⟨e138625, w138627, f138628, z138629, e138626, b138630⟩ := p138624
    subst e138625
    subst e138626
    have f138631 := f138615.tr f138628 rfl
    show wp _ _ 256 40 [(2, vI z138597), (0, .ref r0), (1, vI a1)] [vI z138629] _ H138623 _
    have k138632 : wKI H138623 r0 = wKI H138587 r0 := ((wKI_fr w138611 g0 f138628 rfl).trans (wKI_fr w138591 g0 f138612 rfl))
    exact wp_ireturn e256 c256_40 rfl ⟨rfl, w138627, f138631, z138629, rfl, ⟨by omega, by omega⟩, by omega⟩
  · refine wp_of e256 c256_19 (rw_aload_n (pc' := 20) (v := .ref r0) rfl rfl rfl ?_)
    refine wp_of e256 c256_20 (rw_iload_n (pc' := 21) (z := z138597) rfl rfl ?_)
    refine wp_of e256 c256_21 (xc_V (pc' := 24) (r := r0) (as := [vI z138597]) (st := []) (lm_9_54) rfl rfl (Nat.le_of_ble_eq_true rfl) w138591 g0 sh_42 (by decide) rfl (by decide) (s_170 w138591 g0 ⟨by omega, by omega⟩) (fun R138633 T138634 H138635 p138636 => ?_))
    obtain ⟨e138637, w138639, f138640, z138641, e138638, b138642⟩ := p138636
    subst e138637
    subst e138638
    have f138643 := f138599.tr f138640 rfl
    show wp _ _ 256 24 [(2, vI z138597), (0, .ref r0), (1, vI a1)] [vI z138641] _ H138635 _
    have k138644 : wKI H138635 r0 = wKI H138587 r0 := (wKI_fr w138591 g0 f138640 rfl)
    exact wp_ireturn e256 c256_24 rfl ⟨rfl, w138639, f138643, z138641, rfl, ⟨by omega, by omega⟩, by omega⟩
/-! StrikeAwakeModel.greatest()J -/
theorem e258 : wq_en 258 = some (9, 2, false, some FieldType.long) := rfl
theorem c258_0 : mc_cd 258 0 = some (.aload_n 0, 1) := by decide +kernel
theorem c258_1 : mc_cd 258 1 = some (.iconst 0, 1) := by decide +kernel
theorem c258_2 : mc_cd 258 2 = some (.putfield 48, 3) := by decide +kernel
theorem c258_5 : mc_cd 258 5 = some (.aload_n 0, 1) := by decide +kernel
theorem c258_6 : mc_cd 258 6 = some (.aload_n 0, 1) := by decide +kernel
theorem c258_7 : mc_cd 258 7 = some (.getfield 337, 3) := by decide +kernel
theorem c258_10 : mc_cd 258 10 = some (.ifnull 7, 3) := by decide +kernel
theorem c258_13 : mc_cd 258 13 = some (.iconst 1, 1) := by decide +kernel
theorem c258_14 : mc_cd 258 14 = some (.goto 4, 3) := by decide +kernel
theorem c258_17 : mc_cd 258 17 = some (.iconst 0, 1) := by decide +kernel
theorem c258_18 : mc_cd 258 18 = some (.invokevirtual 447, 3) := by decide +kernel
theorem c258_21 : mc_cd 258 21 = some (.istore_n 1, 1) := by decide +kernel
theorem c258_22 : mc_cd 258 22 = some (.iload_n 1, 1) := by decide +kernel
theorem c258_23 : mc_cd 258 23 = some (.ifCond .le 12, 3) := by decide +kernel
theorem c258_26 : mc_cd 258 26 = some (.aload_n 0, 1) := by decide +kernel
theorem c258_27 : mc_cd 258 27 = some (.iload_n 1, 1) := by decide +kernel
theorem c258_28 : mc_cd 258 28 = some (.invokevirtual 54, 3) := by decide +kernel
theorem c258_31 : mc_cd 258 31 = some (.i2l, 1) := by decide +kernel
theorem c258_32 : mc_cd 258 32 = some (.goto 11, 3) := by decide +kernel
theorem c258_35 : mc_cd 258 35 = some (.aload_n 0, 1) := by decide +kernel
theorem c258_36 : mc_cd 258 36 = some (.aload_n 0, 1) := by decide +kernel
theorem c258_37 : mc_cd 258 37 = some (.invokevirtual 452, 3) := by decide +kernel
theorem c258_40 : mc_cd 258 40 = some (.invokevirtual 380, 3) := by decide +kernel
theorem c258_43 : mc_cd 258 43 = some (.lreturn, 1) := by decide +kernel
abbrev q_258 (r0 : Nat) (T : wq_T) (H : wq_H) : Option Value → wq_T → wq_H → Prop := fun r T' H' => T = T' ∧ WT T H' ∧ wfr [(42, 0), (42, 1), (42, 2), (42, 28), (42, 29), (51, 999), (52, 999)] T H H' ∧ ∃ z : Int, some (vL z) = r ∧ ((-9223372036854775808) ≤ z ∧ z ≤ 9223372036854775807) ∧ (wKI H' r0 = 1)
set_option maxHeartbeats 4000000 in
theorem s_258 {kt : Nat → Option mc_E} {T : wq_T} {H : wq_H} {r0 : Nat} (hW : WT T H) (g0 : T.2.2.2 r0 = some 42) (p0 : wKI H r0 = 1) : wpc kt 9 258 [.ref r0] T H (q_258 r0 T H) := by
  refine wp_enter e258 (Nat.le_of_ble_eq_true rfl) rfl ?_
  have f0 : wfr [(42, 0), (42, 1), (42, 2), (42, 28), (42, 29), (51, 999), (52, 999)] T H H := wfr.rf
  show wp _ _ 258 0 [(0, .ref r0)] [] _ H _
  refine wp_of e258 c258_0 (rw_aload_n (pc' := 1) (v := .ref r0) rfl rfl rfl ?_)
  refine wp_of e258 c258_1 (rw_iconst (pc' := 2) rfl ?_)
  refine wp_of e258 c258_2 (xp_I (pc' := 5) lf_9_48 hW g0 sh_42 (by decide) (by decide) ty_42_0 rfl rfl (by omega) (by omega) ⟨by omega, by omega⟩ rfl (fun H138736 e138737 w138738 => ?_))
  have f138739 := f0.put' e138737 g0 rfl
  have k138740 : H138736 r0 0 = 0 := wq_u_s e138737
  refine wp_of e258 c258_5 (rw_aload_n (pc' := 6) (v := .ref r0) rfl rfl rfl ?_)
  refine wp_of e258 c258_6 (rw_aload_n (pc' := 7) (v := .ref r0) rfl rfl rfl ?_)
  refine wp_of e258 c258_7 (xg_O (pc' := 10) lf_9_337 w138738 g0 sh_42 (by decide) (by decide) ty_42_3 rfl rfl (fun q138742 => ?_) (fun r138741 q138742 g138743 => ?_))
  · refine wp_of e258 c258_10 (rw_ifnull_n (p1 := 17) (p2 := 13) (by decide) rfl ?_)
    refine wp_of e258 c258_17 (rw_iconst (pc' := 18) rfl ?_)
    have k138744 : wKI H138736 r0 = wKI H r0 := (wKI_fr hW g0 ((wfr.rf (l := [(42, 0)])).put' e138737 g0 rfl) rfl)
    refine wp_of e258 c258_18 (xc_V (pc' := 21) (r := r0) (as := [vI 0]) (st := []) (lm_9_447) rfl rfl (Nat.le_of_ble_eq_true rfl) w138738 g0 sh_42 (by decide) rfl (by decide) (s_253 w138738 g0 ⟨by omega, by omega⟩ (by omega) (by omega)) (fun R138745 T138746 H138747 p138748 => ?_))
    obtain ⟨e138749, w138751, f138752, z138757, e138750, b138758, p138753, p138754, p138755, p138756⟩ := p138748
    subst e138749
    subst e138750
    have f138759 := f138739.tr f138752 rfl
    show wp _ _ 258 21 [(0, .ref r0)] [vI z138757] _ H138747 _
    refine wp_of e258 c258_21 (rw_istore_n (pc' := 22) (z := z138757) (L' := [(1, vI z138757), (0, .ref r0)]) rfl rfl rfl ?_)
    refine wp_of e258 c258_22 (rw_iload_n (pc' := 23) (z := z138757) rfl rfl ?_)
    refine wp_of e258 c258_23 (rw_if_le (p1 := 35) (p2 := 26) (by decide) rfl ⟨by omega, by omega⟩ (fun c138760 => ?_) (fun c138760 => ?_))
    · exfalso
      omega
    · refine wp_of e258 c258_26 (rw_aload_n (pc' := 27) (v := .ref r0) rfl rfl rfl ?_)
      refine wp_of e258 c258_27 (rw_iload_n (pc' := 28) (z := z138757) rfl rfl ?_)
      refine wp_of e258 c258_28 (xc_V (pc' := 31) (r := r0) (as := [vI z138757]) (st := []) (lm_9_54) rfl rfl (Nat.le_of_ble_eq_true rfl) w138751 g0 sh_42 (by decide) rfl (by decide) (s_170 w138751 g0 ⟨by omega, by omega⟩) (fun R138761 T138762 H138763 p138764 => ?_))
      obtain ⟨e138765, w138767, f138768, z138769, e138766, b138770⟩ := p138764
      subst e138765
      subst e138766
      have f138771 := f138759.tr f138768 rfl
      show wp _ _ 258 31 [(1, vI z138757), (0, .ref r0)] [vI z138769] _ H138763 _
      refine wp_of e258 c258_31 (rw_i2l (pc' := 32) rfl ⟨by omega, by omega⟩ ?_)
      refine wp_of e258 c258_32 (rw_goto (p1 := 43) (by decide) ?_)
      have k138772 : wKI H138763 r0 = wKI H138747 r0 := (wKI_fr w138751 g0 f138768 rfl)
      exact wp_lreturn e258 c258_43 rfl ⟨rfl, w138767, f138771, z138769, rfl, ⟨by omega, by omega⟩, by omega⟩
  · refine wp_of e258 c258_10 (rw_ifnull_r (p1 := 17) (p2 := 13) (by decide) rfl ?_)
    refine wp_of e258 c258_13 (rw_iconst (pc' := 14) rfl ?_)
    refine wp_of e258 c258_14 (rw_goto (p1 := 18) (by decide) ?_)
    have k138773 : wKI H138736 r0 = wKI H r0 := (wKI_fr hW g0 ((wfr.rf (l := [(42, 0)])).put' e138737 g0 rfl) rfl)
    refine wp_of e258 c258_18 (xc_V (pc' := 21) (r := r0) (as := [vI 1]) (st := []) (lm_9_447) rfl rfl (Nat.le_of_ble_eq_true rfl) w138738 g0 sh_42 (by decide) rfl (by decide) (s_253 w138738 g0 ⟨by omega, by omega⟩ (by omega) (by omega)) (fun R138774 T138775 H138776 p138777 => ?_))
    obtain ⟨e138778, w138780, f138781, z138786, e138779, b138787, p138782, p138783, p138784, p138785⟩ := p138777
    subst e138778
    subst e138779
    have f138788 := f138739.tr f138781 rfl
    show wp _ _ 258 21 [(0, .ref r0)] [vI z138786] _ H138776 _
    refine wp_of e258 c258_21 (rw_istore_n (pc' := 22) (z := z138786) (L' := [(1, vI z138786), (0, .ref r0)]) rfl rfl rfl ?_)
    refine wp_of e258 c258_22 (rw_iload_n (pc' := 23) (z := z138786) rfl rfl ?_)
    refine wp_of e258 c258_23 (rw_if_le (p1 := 35) (p2 := 26) (by decide) rfl ⟨by omega, by omega⟩ (fun c138789 => ?_) (fun c138789 => ?_))
    · refine wp_of e258 c258_35 (rw_aload_n (pc' := 36) (v := .ref r0) rfl rfl rfl ?_)
      refine wp_of e258 c258_36 (rw_aload_n (pc' := 37) (v := .ref r0) rfl rfl rfl ?_)
      have k138790 : H138776 r0 3 = H138736 r0 3 := (f138781 r0 3 _ g0 rfl)
      have q138791 : H138776 r0 3 = (r138741 : Int) := k138790.trans q138742
      refine wp_of e258 c258_37 (xc_V (pc' := 40) (r := r0) (as := []) (st := [.ref r0]) (lm_9_452) rfl rfl (Nat.le_of_ble_eq_true rfl) w138780 g0 sh_42 (by decide) rfl (by decide) (s_257 w138780 g0 q138791 g138743 (by omega) (by omega)) (fun R138792 T138793 H138794 p138795 => ?_))
      obtain ⟨e138796, w138798, f138799, z138800, e138797, b138801⟩ := p138795
      subst e138796
      subst e138797
      have f138802 := f138788.tr f138799 rfl
      show wp _ _ 258 40 [(1, vI z138786), (0, .ref r0)] [vL z138800, .ref r0] _ H138794 _
      refine wp_of e258 c258_40 (xc_V (pc' := 43) (r := r0) (as := [vL z138800]) (st := []) (lm_9_380) rfl rfl (Nat.le_of_ble_eq_true rfl) w138798 g0 sh_42 (by decide) rfl (by decide) (s_221 w138798 g0 ⟨by omega, by omega⟩) (fun R138803 T138804 H138805 p138806 => ?_))
      obtain ⟨e138807, w138809, f138810, z138811, e138808, b138812⟩ := p138806
      subst e138807
      subst e138808
      have f138813 := f138802.tr f138810 rfl
      show wp _ _ 258 43 [(1, vI z138786), (0, .ref r0)] [vL z138811] _ H138805 _
      have k138814 : wKI H138805 r0 = wKI H138776 r0 := ((wKI_fr w138798 g0 f138810 rfl).trans (wKI_fr w138780 g0 f138799 rfl))
      exact wp_lreturn e258 c258_43 rfl ⟨rfl, w138809, f138813, z138811, rfl, ⟨by omega, by omega⟩, by omega⟩
    · refine wp_of e258 c258_26 (rw_aload_n (pc' := 27) (v := .ref r0) rfl rfl rfl ?_)
      refine wp_of e258 c258_27 (rw_iload_n (pc' := 28) (z := z138786) rfl rfl ?_)
      refine wp_of e258 c258_28 (xc_V (pc' := 31) (r := r0) (as := [vI z138786]) (st := []) (lm_9_54) rfl rfl (Nat.le_of_ble_eq_true rfl) w138780 g0 sh_42 (by decide) rfl (by decide) (s_170 w138780 g0 ⟨by omega, by omega⟩) (fun R138815 T138816 H138817 p138818 => ?_))
      obtain ⟨e138819, w138821, f138822, z138823, e138820, b138824⟩ := p138818
      subst e138819
      subst e138820
      have f138825 := f138788.tr f138822 rfl
      show wp _ _ 258 31 [(1, vI z138786), (0, .ref r0)] [vI z138823] _ H138817 _
      refine wp_of e258 c258_31 (rw_i2l (pc' := 32) rfl ⟨by omega, by omega⟩ ?_)
      refine wp_of e258 c258_32 (rw_goto (p1 := 43) (by decide) ?_)
      have k138826 : wKI H138817 r0 = wKI H138776 r0 := (wKI_fr w138780 g0 f138822 rfl)
      exact wp_lreturn e258 c258_43 rfl ⟨rfl, w138821, f138825, z138823, rfl, ⟨by omega, by omega⟩, by omega⟩
/-! StrikeAwakeModel.together(II)I -/
theorem e259 : wq_en 259 = some (9, 6, false, some FieldType.int) := rfl
theorem c259_0 : mc_cd 259 0 = some (.aload_n 0, 1) := by decide +kernel
theorem c259_1 : mc_cd 259 1 = some (.iconst 0, 1) := by decide +kernel
theorem c259_2 : mc_cd 259 2 = some (.putfield 48, 3) := by decide +kernel
theorem c259_5 : mc_cd 259 5 = some (.aload_n 0, 1) := by decide +kernel
theorem c259_6 : mc_cd 259 6 = some (.aload_n 0, 1) := by decide +kernel
theorem c259_7 : mc_cd 259 7 = some (.iload_n 1, 1) := by decide +kernel
theorem c259_8 : mc_cd 259 8 = some (.invokevirtual 364, 3) := by decide +kernel
theorem c259_11 : mc_cd 259 11 = some (.ifCond .eq 20, 3) := by decide +kernel
theorem c259_14 : mc_cd 259 14 = some (.aload_n 0, 1) := by decide +kernel
theorem c259_15 : mc_cd 259 15 = some (.iload_n 2, 1) := by decide +kernel
theorem c259_16 : mc_cd 259 16 = some (.invokevirtual 364, 3) := by decide +kernel
theorem c259_19 : mc_cd 259 19 = some (.ifCond .eq 12, 3) := by decide +kernel
theorem c259_22 : mc_cd 259 22 = some (.iload_n 1, 1) := by decide +kernel
theorem c259_23 : mc_cd 259 23 = some (.iload_n 2, 1) := by decide +kernel
theorem c259_24 : mc_cd 259 24 = some (.if_icmp .eq 7, 3) := by decide +kernel
theorem c259_27 : mc_cd 259 27 = some (.iconst 1, 1) := by decide +kernel
theorem c259_28 : mc_cd 259 28 = some (.goto 4, 3) := by decide +kernel
theorem c259_31 : mc_cd 259 31 = some (.iconst 0, 1) := by decide +kernel
theorem c259_32 : mc_cd 259 32 = some (.invokevirtual 433, 3) := by decide +kernel
theorem c259_35 : mc_cd 259 35 = some (.istore_n 3, 1) := by decide +kernel
theorem c259_36 : mc_cd 259 36 = some (.iload_n 3, 1) := by decide +kernel
theorem c259_37 : mc_cd 259 37 = some (.ifCond .le 9, 3) := by decide +kernel
theorem c259_40 : mc_cd 259 40 = some (.aload_n 0, 1) := by decide +kernel
theorem c259_41 : mc_cd 259 41 = some (.iload_n 3, 1) := by decide +kernel
theorem c259_42 : mc_cd 259 42 = some (.invokevirtual 54, 3) := by decide +kernel
theorem c259_45 : mc_cd 259 45 = some (.ireturn, 1) := by decide +kernel
theorem c259_46 : mc_cd 259 46 = some (.iconst 0, 1) := by decide +kernel
theorem c259_47 : mc_cd 259 47 = some (.istore 4, 2) := by decide +kernel
theorem c259_49 : mc_cd 259 49 = some (.iconst 0, 1) := by decide +kernel
theorem c259_50 : mc_cd 259 50 = some (.istore 5, 2) := by decide +kernel
theorem c259_52 : mc_cd 259 52 = some (.iload 5, 2) := by decide +kernel
theorem c259_54 : mc_cd 259 54 = some (.aload_n 0, 1) := by decide +kernel
theorem c259_55 : mc_cd 259 55 = some (.getfield 422, 3) := by decide +kernel
theorem c259_58 : mc_cd 259 58 = some (.if_icmp .ge 58, 3) := by decide +kernel
theorem c259_61 : mc_cd 259 61 = some (.aload_n 0, 1) := by decide +kernel
theorem c259_62 : mc_cd 259 62 = some (.aload_n 0, 1) := by decide +kernel
theorem c259_63 : mc_cd 259 63 = some (.getfield 42, 3) := by decide +kernel
theorem c259_66 : mc_cd 259 66 = some (.iload 5, 2) := by decide +kernel
theorem c259_68 : mc_cd 259 68 = some (.iaload, 1) := by decide +kernel
theorem c259_69 : mc_cd 259 69 = some (.invokevirtual 425, 3) := by decide +kernel
theorem c259_72 : mc_cd 259 72 = some (.iload 4, 2) := by decide +kernel
theorem c259_74 : mc_cd 259 74 = some (.aload_n 0, 1) := by decide +kernel
theorem c259_75 : mc_cd 259 75 = some (.getfield 33, 3) := by decide +kernel
theorem c259_78 : mc_cd 259 78 = some (.bipush 40, 2) := by decide +kernel
theorem c259_80 : mc_cd 259 80 = some (.iload_n 1, 1) := by decide +kernel
theorem c259_81 : mc_cd 259 81 = some (.imul, 1) := by decide +kernel
theorem c259_82 : mc_cd 259 82 = some (.aload_n 0, 1) := by decide +kernel
theorem c259_83 : mc_cd 259 83 = some (.getfield 39, 3) := by decide +kernel
theorem c259_86 : mc_cd 259 86 = some (.iload_n 1, 1) := by decide +kernel
theorem c259_87 : mc_cd 259 87 = some (.iaload, 1) := by decide +kernel
theorem c259_88 : mc_cd 259 88 = some (.iadd, 1) := by decide +kernel
theorem c259_89 : mc_cd 259 89 = some (.iaload, 1) := by decide +kernel
theorem c259_90 : mc_cd 259 90 = some (.aload_n 0, 1) := by decide +kernel
theorem c259_91 : mc_cd 259 91 = some (.getfield 33, 3) := by decide +kernel
theorem c259_94 : mc_cd 259 94 = some (.bipush 40, 2) := by decide +kernel
theorem c259_96 : mc_cd 259 96 = some (.iload_n 2, 1) := by decide +kernel
theorem c259_97 : mc_cd 259 97 = some (.imul, 1) := by decide +kernel
theorem c259_98 : mc_cd 259 98 = some (.aload_n 0, 1) := by decide +kernel
theorem c259_99 : mc_cd 259 99 = some (.getfield 39, 3) := by decide +kernel
theorem c259_102 : mc_cd 259 102 = some (.iload_n 2, 1) := by decide +kernel
theorem c259_103 : mc_cd 259 103 = some (.iaload, 1) := by decide +kernel
theorem c259_104 : mc_cd 259 104 = some (.iadd, 1) := by decide +kernel
theorem c259_105 : mc_cd 259 105 = some (.iaload, 1) := by decide +kernel
theorem c259_106 : mc_cd 259 106 = some (.iand, 1) := by decide +kernel
theorem c259_107 : mc_cd 259 107 = some (.ior, 1) := by decide +kernel
theorem c259_108 : mc_cd 259 108 = some (.istore 4, 2) := by decide +kernel
theorem c259_110 : mc_cd 259 110 = some (.iinc 5 1, 3) := by decide +kernel
theorem c259_113 : mc_cd 259 113 = some (.goto (-61), 3) := by decide +kernel
theorem c259_116 : mc_cd 259 116 = some (.aload_n 0, 1) := by decide +kernel
theorem c259_117 : mc_cd 259 117 = some (.iload 4, 2) := by decide +kernel
theorem c259_119 : mc_cd 259 119 = some (.invokevirtual 58, 3) := by decide +kernel
theorem c259_122 : mc_cd 259 122 = some (.ireturn, 1) := by decide +kernel
abbrev q_259 (r0 : Nat) (a1 : Int) (a2 : Int) (T : wq_T) (H : wq_H) : Option Value → wq_T → wq_H → Prop := fun r T' H' => T = T' ∧ WT T H' ∧ wfr [(42, 0), (42, 1), (42, 2), (42, 28), (42, 29), (51, 999), (52, 999)] T H H' ∧ ∃ z : Int, some (vI z) = r ∧ ((-2147483648) ≤ z ∧ z ≤ 2147483647) ∧ (wKI H' r0 = 1)
set_option maxHeartbeats 4000000 in
theorem s_259 {kt : Nat → Option mc_E} {T : wq_T} {H : wq_H} {r0 : Nat} {a1 : Int} {a2 : Int} (hW : WT T H) (g0 : T.2.2.2 r0 = some 42) (i1 : (-2147483648) ≤ a1 ∧ a1 ≤ 2147483647) (i2 : (-2147483648) ≤ a2 ∧ a2 ≤ 2147483647) (p0 : wKI H r0 = 1) : wpc kt 8 259 [.ref r0, vI a1, vI a2] T H (q_259 r0 a1 a2 T H) := by
  refine wp_enter e259 (Nat.le_of_ble_eq_true rfl) rfl ?_
  have f0 : wfr [(42, 0), (42, 1), (42, 2), (42, 28), (42, 29), (51, 999), (52, 999)] T H H := wfr.rf
  show wp _ _ 259 0 [(0, .ref r0), (1, vI a1), (2, vI a2)] [] _ H _
  refine wp_of e259 c259_0 (rw_aload_n (pc' := 1) (v := .ref r0) rfl rfl rfl ?_)
  refine wp_of e259 c259_1 (rw_iconst (pc' := 2) rfl ?_)
  refine wp_of e259 c259_2 (xp_I (pc' := 5) lf_9_48 hW g0 sh_42 (by decide) (by decide) ty_42_0 rfl rfl (by omega) (by omega) ⟨by omega, by omega⟩ rfl (fun H139353 e139354 w139355 => ?_))
  have f139356 := f0.put' e139354 g0 rfl
  have k139357 : H139353 r0 0 = 0 := wq_u_s e139354
  refine wp_of e259 c259_5 (rw_aload_n (pc' := 6) (v := .ref r0) rfl rfl rfl ?_)
  refine wp_of e259 c259_6 (rw_aload_n (pc' := 7) (v := .ref r0) rfl rfl rfl ?_)
  refine wp_of e259 c259_7 (rw_iload_n (pc' := 8) (z := a1) rfl rfl ?_)
  refine wp_of e259 c259_8 (xc_V (pc' := 11) (r := r0) (as := [vI a1]) (st := [.ref r0]) (lm_9_364) rfl rfl (Nat.le_of_ble_eq_true rfl) w139355 g0 sh_42 (by decide) rfl (by decide) (s_213 w139355 g0 ⟨by omega, by omega⟩) (fun R139358 T139359 H139360 p139361 => ?_))
  obtain ⟨e139362, e139364, z139366, e139363, b139367, p139365⟩ := p139361
  subst e139362
  subst e139363
  subst e139364
  show wp _ _ 259 11 [(0, .ref r0), (1, vI a1), (2, vI a2)] [vI z139366, .ref r0] _ H139353 _
  refine wp_of e259 c259_11 (rw_if_eq (p1 := 31) (p2 := 14) (by decide) rfl ⟨by omega, by omega⟩ (fun c139368 => ?_) (fun c139368 => ?_))
  · refine wp_of e259 c259_31 (rw_iconst (pc' := 32) rfl ?_)
    have k139369 : wKI H139353 r0 = wKI H r0 := (wKI_fr hW g0 ((wfr.rf (l := [(42, 0)])).put' e139354 g0 rfl) rfl)
    refine wp_of e259 c259_32 (xc_V (pc' := 35) (r := r0) (as := [vI 0]) (st := []) (lm_9_433) rfl rfl (Nat.le_of_ble_eq_true rfl) w139355 g0 sh_42 (by decide) rfl (by decide) (s_241 w139355 g0 ⟨by omega, by omega⟩ (by omega) (by omega)) (fun R139370 T139371 H139372 p139373 => ?_))
    obtain ⟨e139374, w139376, f139377, z139382, e139375, b139383, p139378, p139379, p139380, p139381⟩ := p139373
    subst e139374
    subst e139375
    have f139384 := f139356.tr f139377 rfl
    show wp _ _ 259 35 [(0, .ref r0), (1, vI a1), (2, vI a2)] [vI z139382] _ H139372 _
    refine wp_of e259 c259_35 (rw_istore_n (pc' := 36) (z := z139382) (L' := [(3, vI z139382), (0, .ref r0), (1, vI a1), (2, vI a2)]) rfl rfl rfl ?_)
    refine wp_of e259 c259_36 (rw_iload_n (pc' := 37) (z := z139382) rfl rfl ?_)
    refine wp_of e259 c259_37 (rw_if_le (p1 := 46) (p2 := 40) (by decide) rfl ⟨by omega, by omega⟩ (fun c139385 => ?_) (fun c139385 => ?_))
    · exfalso
      omega
    · refine wp_of e259 c259_40 (rw_aload_n (pc' := 41) (v := .ref r0) rfl rfl rfl ?_)
      refine wp_of e259 c259_41 (rw_iload_n (pc' := 42) (z := z139382) rfl rfl ?_)
      refine wp_of e259 c259_42 (xc_V (pc' := 45) (r := r0) (as := [vI z139382]) (st := []) (lm_9_54) rfl rfl (Nat.le_of_ble_eq_true rfl) w139376 g0 sh_42 (by decide) rfl (by decide) (s_170 w139376 g0 ⟨by omega, by omega⟩) (fun R139386 T139387 H139388 p139389 => ?_))
      obtain ⟨e139390, w139392, f139393, z139394, e139391, b139395⟩ := p139389
      subst e139390
      subst e139391
      have f139396 := f139384.tr f139393 rfl
      show wp _ _ 259 45 [(3, vI z139382), (0, .ref r0), (1, vI a1), (2, vI a2)] [vI z139394] _ H139388 _
      have k139397 : wKI H139388 r0 = wKI H139372 r0 := (wKI_fr w139376 g0 f139393 rfl)
      exact wp_ireturn e259 c259_45 rfl ⟨rfl, w139392, f139396, z139394, rfl, ⟨by omega, by omega⟩, by omega⟩
  · refine wp_of e259 c259_14 (rw_aload_n (pc' := 15) (v := .ref r0) rfl rfl rfl ?_)
    refine wp_of e259 c259_15 (rw_iload_n (pc' := 16) (z := a2) rfl rfl ?_)
    refine wp_of e259 c259_16 (xc_V (pc' := 19) (r := r0) (as := [vI a2]) (st := [.ref r0]) (lm_9_364) rfl rfl (Nat.le_of_ble_eq_true rfl) w139355 g0 sh_42 (by decide) rfl (by decide) (s_213 w139355 g0 ⟨by omega, by omega⟩) (fun R139398 T139399 H139400 p139401 => ?_))
    obtain ⟨e139402, e139404, z139406, e139403, b139407, p139405⟩ := p139401
    subst e139402
    subst e139403
    subst e139404
    show wp _ _ 259 19 [(0, .ref r0), (1, vI a1), (2, vI a2)] [vI z139406, .ref r0] _ H139353 _
    refine wp_of e259 c259_19 (rw_if_eq (p1 := 31) (p2 := 22) (by decide) rfl ⟨by omega, by omega⟩ (fun c139408 => ?_) (fun c139408 => ?_))
    · refine wp_of e259 c259_31 (rw_iconst (pc' := 32) rfl ?_)
      have k139409 : wKI H139353 r0 = wKI H r0 := (wKI_fr hW g0 ((wfr.rf (l := [(42, 0)])).put' e139354 g0 rfl) rfl)
      refine wp_of e259 c259_32 (xc_V (pc' := 35) (r := r0) (as := [vI 0]) (st := []) (lm_9_433) rfl rfl (Nat.le_of_ble_eq_true rfl) w139355 g0 sh_42 (by decide) rfl (by decide) (s_241 w139355 g0 ⟨by omega, by omega⟩ (by omega) (by omega)) (fun R139410 T139411 H139412 p139413 => ?_))
      obtain ⟨e139414, w139416, f139417, z139422, e139415, b139423, p139418, p139419, p139420, p139421⟩ := p139413
      subst e139414
      subst e139415
      have f139424 := f139356.tr f139417 rfl
      show wp _ _ 259 35 [(0, .ref r0), (1, vI a1), (2, vI a2)] [vI z139422] _ H139412 _
      refine wp_of e259 c259_35 (rw_istore_n (pc' := 36) (z := z139422) (L' := [(3, vI z139422), (0, .ref r0), (1, vI a1), (2, vI a2)]) rfl rfl rfl ?_)
      refine wp_of e259 c259_36 (rw_iload_n (pc' := 37) (z := z139422) rfl rfl ?_)
      refine wp_of e259 c259_37 (rw_if_le (p1 := 46) (p2 := 40) (by decide) rfl ⟨by omega, by omega⟩ (fun c139425 => ?_) (fun c139425 => ?_))
      · exfalso
        omega
      · refine wp_of e259 c259_40 (rw_aload_n (pc' := 41) (v := .ref r0) rfl rfl rfl ?_)
        refine wp_of e259 c259_41 (rw_iload_n (pc' := 42) (z := z139422) rfl rfl ?_)
        refine wp_of e259 c259_42 (xc_V (pc' := 45) (r := r0) (as := [vI z139422]) (st := []) (lm_9_54) rfl rfl (Nat.le_of_ble_eq_true rfl) w139416 g0 sh_42 (by decide) rfl (by decide) (s_170 w139416 g0 ⟨by omega, by omega⟩) (fun R139426 T139427 H139428 p139429 => ?_))
        obtain ⟨e139430, w139432, f139433, z139434, e139431, b139435⟩ := p139429
        subst e139430
        subst e139431
        have f139436 := f139424.tr f139433 rfl
        show wp _ _ 259 45 [(3, vI z139422), (0, .ref r0), (1, vI a1), (2, vI a2)] [vI z139434] _ H139428 _
        have k139437 : wKI H139428 r0 = wKI H139412 r0 := (wKI_fr w139416 g0 f139433 rfl)
        exact wp_ireturn e259 c259_45 rfl ⟨rfl, w139432, f139436, z139434, rfl, ⟨by omega, by omega⟩, by omega⟩
    · refine wp_of e259 c259_22 (rw_iload_n (pc' := 23) (z := a1) rfl rfl ?_)
      refine wp_of e259 c259_23 (rw_iload_n (pc' := 24) (z := a2) rfl rfl ?_)
      refine wp_of e259 c259_24 (rw_icmp_eq (p1 := 31) (p2 := 27) (by decide) rfl ⟨by omega, by omega⟩ ⟨by omega, by omega⟩ (fun c139438 => ?_) (fun c139438 => ?_))
      · refine wp_of e259 c259_31 (rw_iconst (pc' := 32) rfl ?_)
        have k139439 : wKI H139353 r0 = wKI H r0 := (wKI_fr hW g0 ((wfr.rf (l := [(42, 0)])).put' e139354 g0 rfl) rfl)
        refine wp_of e259 c259_32 (xc_V (pc' := 35) (r := r0) (as := [vI 0]) (st := []) (lm_9_433) rfl rfl (Nat.le_of_ble_eq_true rfl) w139355 g0 sh_42 (by decide) rfl (by decide) (s_241 w139355 g0 ⟨by omega, by omega⟩ (by omega) (by omega)) (fun R139440 T139441 H139442 p139443 => ?_))
        obtain ⟨e139444, w139446, f139447, z139452, e139445, b139453, p139448, p139449, p139450, p139451⟩ := p139443
        subst e139444
        subst e139445
        have f139454 := f139356.tr f139447 rfl
        show wp _ _ 259 35 [(0, .ref r0), (1, vI a1), (2, vI a2)] [vI z139452] _ H139442 _
        refine wp_of e259 c259_35 (rw_istore_n (pc' := 36) (z := z139452) (L' := [(3, vI z139452), (0, .ref r0), (1, vI a1), (2, vI a2)]) rfl rfl rfl ?_)
        refine wp_of e259 c259_36 (rw_iload_n (pc' := 37) (z := z139452) rfl rfl ?_)
        refine wp_of e259 c259_37 (rw_if_le (p1 := 46) (p2 := 40) (by decide) rfl ⟨by omega, by omega⟩ (fun c139455 => ?_) (fun c139455 => ?_))
        · exfalso
          omega
        · refine wp_of e259 c259_40 (rw_aload_n (pc' := 41) (v := .ref r0) rfl rfl rfl ?_)
          refine wp_of e259 c259_41 (rw_iload_n (pc' := 42) (z := z139452) rfl rfl ?_)
          refine wp_of e259 c259_42 (xc_V (pc' := 45) (r := r0) (as := [vI z139452]) (st := []) (lm_9_54) rfl rfl (Nat.le_of_ble_eq_true rfl) w139446 g0 sh_42 (by decide) rfl (by decide) (s_170 w139446 g0 ⟨by omega, by omega⟩) (fun R139456 T139457 H139458 p139459 => ?_))
          obtain ⟨e139460, w139462, f139463, z139464, e139461, b139465⟩ := p139459
          subst e139460
          subst e139461
          have f139466 := f139454.tr f139463 rfl
          show wp _ _ 259 45 [(3, vI z139452), (0, .ref r0), (1, vI a1), (2, vI a2)] [vI z139464] _ H139458 _
          have k139467 : wKI H139458 r0 = wKI H139442 r0 := (wKI_fr w139446 g0 f139463 rfl)
          exact wp_ireturn e259 c259_45 rfl ⟨rfl, w139462, f139466, z139464, rfl, ⟨by omega, by omega⟩, by omega⟩
      · refine wp_of e259 c259_27 (rw_iconst (pc' := 28) rfl ?_)
        refine wp_of e259 c259_28 (rw_goto (p1 := 32) (by decide) ?_)
        have k139468 : wKI H139353 r0 = wKI H r0 := (wKI_fr hW g0 ((wfr.rf (l := [(42, 0)])).put' e139354 g0 rfl) rfl)
        refine wp_of e259 c259_32 (xc_V (pc' := 35) (r := r0) (as := [vI 1]) (st := []) (lm_9_433) rfl rfl (Nat.le_of_ble_eq_true rfl) w139355 g0 sh_42 (by decide) rfl (by decide) (s_241 w139355 g0 ⟨by omega, by omega⟩ (by omega) (by omega)) (fun R139469 T139470 H139471 p139472 => ?_))
        obtain ⟨e139473, w139475, f139476, z139481, e139474, b139482, p139477, p139478, p139479, p139480⟩ := p139472
        subst e139473
        subst e139474
        have f139483 := f139356.tr f139476 rfl
        show wp _ _ 259 35 [(0, .ref r0), (1, vI a1), (2, vI a2)] [vI z139481] _ H139471 _
        refine wp_of e259 c259_35 (rw_istore_n (pc' := 36) (z := z139481) (L' := [(3, vI z139481), (0, .ref r0), (1, vI a1), (2, vI a2)]) rfl rfl rfl ?_)
        refine wp_of e259 c259_36 (rw_iload_n (pc' := 37) (z := z139481) rfl rfl ?_)
        refine wp_of e259 c259_37 (rw_if_le (p1 := 46) (p2 := 40) (by decide) rfl ⟨by omega, by omega⟩ (fun c139484 => ?_) (fun c139484 => ?_))
        · refine wp_of e259 c259_46 (rw_iconst (pc' := 47) rfl ?_)
          refine wp_of e259 c259_47 (rw_istore (pc' := 49) (z := 0) (L' := [(4, vI 0), (3, vI z139481), (0, .ref r0), (1, vI a1), (2, vI a2)]) rfl rfl rfl ?_)
          refine wp_of e259 c259_49 (rw_iconst (pc' := 50) rfl ?_)
          refine wp_of e259 c259_50 (rw_istore (pc' := 52) (z := 0) (L' := [(5, vI 0), (4, vI 0), (3, vI z139481), (0, .ref r0), (1, vI a1), (2, vI a2)]) rfl rfl rfl ?_)
          have lp139813 : ∀ (n139814 : Nat) (v139816 : Int) (v139817 : Int) (H139818 : wq_H), WT T H139818 → wfr [(51, 999)] T H139471 H139818 → (0 ≤ v139816 ∧ v139816 ≤ 20000) → ((-2147483648) ≤ v139817 ∧ v139817 ≤ 2147483647) → (20000 - v139816).toNat = n139814 → wp kt 7 259 52 [(5, vI v139816), (4, vI v139817), (0, .ref r0), (1, vI a1), (2, vI a2)] [] T H139818 (q_259 r0 a1 a2 T H) := by
            intro n139814
            induction n139814 using Nat.strongRecOn with
            | _ n139814 ih139815 =>
              intro v139816 v139817 H139818 w139819 f139820 b139821 b139822 m139823
              have f139824 := f139483.tr f139820 rfl
              refine wp_of e259 c259_52 (rw_iload (pc' := 54) (z := v139816) rfl rfl ?_)
              refine wp_of e259 c259_54 (rw_aload_n (pc' := 55) (v := .ref r0) rfl rfl rfl ?_)
              have k139825 : H139818 r0 29 = H139471 r0 29 := (f139820 r0 29 _ g0 rfl)
              refine wp_of e259 c259_55 (xg_I (pc' := 58) lf_9_422 w139819 g0 sh_42 (by decide) (by decide) ty_42_29 rfl rfl (fun b139826 b139827 => ?_))
              refine wp_of e259 c259_58 (rw_icmp_ge (p1 := 116) (p2 := 61) (by decide) rfl ⟨by omega, by omega⟩ ⟨by omega, by omega⟩ (fun c139828 => ?_) (fun c139828 => ?_))
              · refine wp_of e259 c259_116 (rw_aload_n (pc' := 117) (v := .ref r0) rfl rfl rfl ?_)
                refine wp_of e259 c259_117 (rw_iload (pc' := 119) (z := v139817) rfl rfl ?_)
                refine wp_of e259 c259_119 (xc_V (pc' := 122) (r := r0) (as := [vI v139817]) (st := []) (lm_9_58) rfl rfl (Nat.le_of_ble_eq_true rfl) w139819 g0 sh_42 (by decide) rfl (by decide) (s_209 w139819 g0 ⟨by omega, by omega⟩) (fun R139829 T139830 H139831 p139832 => ?_))
                obtain ⟨e139833, w139835, f139836, z139837, e139834, b139838⟩ := p139832
                subst e139833
                subst e139834
                have f139839 := f139824.tr f139836 rfl
                show wp _ _ 259 122 [(5, vI v139816), (4, vI v139817), (0, .ref r0), (1, vI a1), (2, vI a2)] [vI z139837] _ H139831 _
                have k139840 : wKI H139831 r0 = wKI H139471 r0 := ((wKI_fr w139819 g0 f139836 rfl).trans (wKI_fr w139475 g0 f139820 rfl))
                exact wp_ireturn e259 c259_122 rfl ⟨rfl, w139835, f139839, z139837, rfl, ⟨by omega, by omega⟩, by omega⟩
              · refine wp_of e259 c259_61 (rw_aload_n (pc' := 62) (v := .ref r0) rfl rfl rfl ?_)
                refine wp_of e259 c259_62 (rw_aload_n (pc' := 63) (v := .ref r0) rfl rfl rfl ?_)
                refine wp_of e259 c259_63 (xg_R (pc' := 66) lf_9_42 w139819 g0 sh_42 (by decide) (by decide) ty_42_30 rfl rfl (fun r139841 q139842 g139843 => ?_))
                refine wp_of e259 c259_66 (rw_iload (pc' := 68) (z := v139816) rfl rfl ?_)
                refine wp_of e259 c259_68 (xa_I (so := 0) (pc' := 69) w139819 g139843 sh_52 (by decide) (ty_52 _) (by omega) (by omega) rfl (fun b139844 b139845 => ?_))
                have k139846 : wLM H139818 r0 = wLM H139471 r0 := (wLM_fr w139475 g0 f139820 rfl)
                have k139847 : H139818 r0 3 = H139353 r0 3 := ((f139820 r0 3 _ g0 rfl).trans (f139476 r0 3 _ g0 rfl))
                obtain ⟨r139848, q139849, g139850⟩ := (w139819.opt g0 (t' := 54) (n := 33) (j := 3) (p := 0) (q := 0) rfl (by decide) rfl).resolve_left (by omega)
                refine wp_of e259 c259_69 (xc_V (pc' := 72) (r := r0) (as := [vI (H139818 r139841 (v139816.toNat))]) (st := []) (lm_9_425) rfl rfl (Nat.le_of_ble_eq_true rfl) w139819 g0 sh_42 (by decide) rfl (by decide) (s_243 w139819 g0 ⟨by omega, by omega⟩ q139849 g139850 (by omega)) (fun R139851 T139852 H139853 p139854 => ?_))
                obtain ⟨e139855, w139857, f139858, e139856⟩ := p139854
                subst e139855
                subst e139856
                have f139859 := f139824.tr f139858 rfl
                have f139860 := f139820.tr f139858 rfl
                show wp _ _ 259 72 [(5, vI v139816), (4, vI v139817), (0, .ref r0), (1, vI a1), (2, vI a2)] [] _ H139853 _
                refine wp_of e259 c259_72 (rw_iload (pc' := 74) (z := v139817) rfl rfl ?_)
                refine wp_of e259 c259_74 (rw_aload_n (pc' := 75) (v := .ref r0) rfl rfl rfl ?_)
                refine wp_of e259 c259_75 (xg_R (pc' := 78) lf_9_33 w139857 g0 sh_42 (by decide) (by decide) ty_42_25 rfl rfl (fun r139861 q139862 g139863 => ?_))
                refine wp_of e259 c259_78 (rw_bipush (pc' := 80) (z := 40) rfl (by decide) ?_)
                refine wp_of e259 c259_80 (rw_iload_n (pc' := 81) (z := a1) rfl rfl ?_)
                refine wp_of e259 c259_81 (rw_imul (pc' := 82) rfl ?_)
                refine wp_of e259 c259_82 (rw_aload_n (pc' := 83) (v := .ref r0) rfl rfl rfl ?_)
                refine wp_of e259 c259_83 (xg_R (pc' := 86) lf_9_39 w139857 g0 sh_42 (by decide) (by decide) ty_42_27 rfl rfl (fun r139864 q139865 g139866 => ?_))
                refine wp_of e259 c259_86 (rw_iload_n (pc' := 87) (z := a1) rfl rfl ?_)
                refine wp_of e259 c259_87 (xa_I (so := 0) (pc' := 88) w139857 g139866 sh_51 (by decide) (ty_51 _) (by omega) (by omega) rfl (fun b139867 b139868 => ?_))
                refine wp_of e259 c259_88 (rw_iadd (pc' := 89) rfl ?_)
                refine wp_of e259 c259_89 (xa_I (so := 0) (pc' := 90) w139857 g139863 sh_49 (by decide) (ty_49 _) (by omega) (by omega) rfl (fun b139869 b139870 => ?_))
                refine wp_of e259 c259_90 (rw_aload_n (pc' := 91) (v := .ref r0) rfl rfl rfl ?_)
                refine wp_of e259 c259_91 (xg_K (pc' := 94) lf_9_33 w139857 g0 sh_42 (by decide) (by decide) rfl q139862 rfl ?_)
                refine wp_of e259 c259_94 (rw_bipush (pc' := 96) (z := 40) rfl (by decide) ?_)
                refine wp_of e259 c259_96 (rw_iload_n (pc' := 97) (z := a2) rfl rfl ?_)
                refine wp_of e259 c259_97 (rw_imul (pc' := 98) rfl ?_)
                refine wp_of e259 c259_98 (rw_aload_n (pc' := 99) (v := .ref r0) rfl rfl rfl ?_)
                refine wp_of e259 c259_99 (xg_K (pc' := 102) lf_9_39 w139857 g0 sh_42 (by decide) (by decide) rfl q139865 rfl ?_)
                refine wp_of e259 c259_102 (rw_iload_n (pc' := 103) (z := a2) rfl rfl ?_)
                refine wp_of e259 c259_103 (xa_I (so := 0) (pc' := 104) w139857 g139866 sh_51 (by decide) (ty_51 _) (by omega) (by omega) rfl (fun b139871 b139872 => ?_))
                refine wp_of e259 c259_104 (rw_iadd (pc' := 105) rfl ?_)
                refine wp_of e259 c259_105 (xa_I (so := 0) (pc' := 106) w139857 g139863 sh_49 (by decide) (ty_49 _) (by omega) (by omega) rfl (fun b139873 b139874 => ?_))
                refine wp_of e259 c259_106 (rw_iand (pc' := 107) rfl ?_)
                obtain ⟨v139875, e139876⟩ : ∃ x : Int, x = wq_and (H139853 r139861 (((40 * a1) + (H139853 r139864 (a1.toNat))).toNat)) (H139853 r139861 (((40 * a2) + (H139853 r139864 (a2.toNat))).toNat)) := ⟨_, rfl⟩
                rw [← e139876]
                have b139877 : -2147483648 ≤ v139875 ∧ v139875 ≤ 2147483647 := by
                  rw [e139876]
                  exact wI_and _ _
                refine wp_of e259 c259_107 (rw_ior (pc' := 108) rfl ?_)
                obtain ⟨v139878, e139879⟩ : ∃ x : Int, x = wq_or v139817 v139875 := ⟨_, rfl⟩
                rw [← e139879]
                have b139880 : -2147483648 ≤ v139878 ∧ v139878 ≤ 2147483647 := by
                  rw [e139879]
                  exact wI_or _ _
                refine wp_of e259 c259_108 (rw_istore (pc' := 110) (z := v139878) (L' := [(4, vI v139878), (5, vI v139816), (0, .ref r0), (1, vI a1), (2, vI a2)]) rfl rfl rfl ?_)
                refine wp_of e259 c259_110 (rw_iinc (pc' := 113) (z := v139816) (L' := [(5, vI (v139816 + 1)), (4, vI v139878), (0, .ref r0), (1, vI a1), (2, vI a2)]) rfl rfl rfl rfl ?_)
                refine wp_of e259 c259_113 (rw_goto (p1 := 52) (by decide) ?_)
                exact wp_lc (ks := [5, 4, 0, 1, 2]) (wl_c rfl (wl_c rfl (wl_c rfl (wl_c rfl (wl_c rfl wl_n))))) rfl (by decide) (ih139815 _ (by omega) (v139816 + 1) v139878 H139853 w139857 f139860 ⟨by omega, by omega⟩ ⟨by omega, by omega⟩ rfl)
          exact wp_lc (ks := [5, 4, 3, 0, 1, 2]) (wl_c rfl (wl_c rfl (wl_c rfl (wl_c rfl (wl_c rfl wl_n))))) rfl (by decide) (lp139813 _ 0 0 H139471 w139475 wfr.rf ⟨by omega, by omega⟩ ⟨by omega, by omega⟩ rfl)
        · refine wp_of e259 c259_40 (rw_aload_n (pc' := 41) (v := .ref r0) rfl rfl rfl ?_)
          refine wp_of e259 c259_41 (rw_iload_n (pc' := 42) (z := z139481) rfl rfl ?_)
          refine wp_of e259 c259_42 (xc_V (pc' := 45) (r := r0) (as := [vI z139481]) (st := []) (lm_9_54) rfl rfl (Nat.le_of_ble_eq_true rfl) w139475 g0 sh_42 (by decide) rfl (by decide) (s_170 w139475 g0 ⟨by omega, by omega⟩) (fun R139881 T139882 H139883 p139884 => ?_))
          obtain ⟨e139885, w139887, f139888, z139889, e139886, b139890⟩ := p139884
          subst e139885
          subst e139886
          have f139891 := f139483.tr f139888 rfl
          show wp _ _ 259 45 [(3, vI z139481), (0, .ref r0), (1, vI a1), (2, vI a2)] [vI z139889] _ H139883 _
          have k139892 : wKI H139883 r0 = wKI H139471 r0 := (wKI_fr w139475 g0 f139888 rfl)
          exact wp_ireturn e259 c259_45 rfl ⟨rfl, w139887, f139891, z139889, rfl, ⟨by omega, by omega⟩, by omega⟩
/-! StrikeAwakeModel.possible(I)J -/
theorem e260 : wq_en 260 = some (9, 6, false, some FieldType.long) := rfl
theorem c260_0 : mc_cd 260 0 = some (.aload_n 0, 1) := by decide +kernel
theorem c260_1 : mc_cd 260 1 = some (.iconst 0, 1) := by decide +kernel
theorem c260_2 : mc_cd 260 2 = some (.putfield 48, 3) := by decide +kernel
theorem c260_5 : mc_cd 260 5 = some (.aload_n 0, 1) := by decide +kernel
theorem c260_6 : mc_cd 260 6 = some (.aload_n 0, 1) := by decide +kernel
theorem c260_7 : mc_cd 260 7 = some (.iload_n 1, 1) := by decide +kernel
theorem c260_8 : mc_cd 260 8 = some (.invokevirtual 364, 3) := by decide +kernel
theorem c260_11 : mc_cd 260 11 = some (.invokevirtual 433, 3) := by decide +kernel
theorem c260_14 : mc_cd 260 14 = some (.istore_n 2, 1) := by decide +kernel
theorem c260_15 : mc_cd 260 15 = some (.iload_n 2, 1) := by decide +kernel
theorem c260_16 : mc_cd 260 16 = some (.ifCond .le 10, 3) := by decide +kernel
theorem c260_19 : mc_cd 260 19 = some (.aload_n 0, 1) := by decide +kernel
theorem c260_20 : mc_cd 260 20 = some (.iload_n 2, 1) := by decide +kernel
theorem c260_21 : mc_cd 260 21 = some (.invokevirtual 54, 3) := by decide +kernel
theorem c260_24 : mc_cd 260 24 = some (.i2l, 1) := by decide +kernel
theorem c260_25 : mc_cd 260 25 = some (.lreturn, 1) := by decide +kernel
theorem c260_26 : mc_cd 260 26 = some (.lconst 0, 1) := by decide +kernel
theorem c260_27 : mc_cd 260 27 = some (.lstore_n 3, 1) := by decide +kernel
theorem c260_28 : mc_cd 260 28 = some (.iconst 0, 1) := by decide +kernel
theorem c260_29 : mc_cd 260 29 = some (.istore 5, 2) := by decide +kernel
theorem c260_31 : mc_cd 260 31 = some (.iload 5, 2) := by decide +kernel
theorem c260_33 : mc_cd 260 33 = some (.aload_n 0, 1) := by decide +kernel
theorem c260_34 : mc_cd 260 34 = some (.getfield 422, 3) := by decide +kernel
theorem c260_37 : mc_cd 260 37 = some (.if_icmp .ge 31, 3) := by decide +kernel
theorem c260_40 : mc_cd 260 40 = some (.aload_n 0, 1) := by decide +kernel
theorem c260_41 : mc_cd 260 41 = some (.aload_n 0, 1) := by decide +kernel
theorem c260_42 : mc_cd 260 42 = some (.getfield 42, 3) := by decide +kernel
theorem c260_45 : mc_cd 260 45 = some (.iload 5, 2) := by decide +kernel
theorem c260_47 : mc_cd 260 47 = some (.iaload, 1) := by decide +kernel
theorem c260_48 : mc_cd 260 48 = some (.invokevirtual 425, 3) := by decide +kernel
theorem c260_51 : mc_cd 260 51 = some (.lload_n 3, 1) := by decide +kernel
theorem c260_52 : mc_cd 260 52 = some (.lconst 1, 1) := by decide +kernel
theorem c260_53 : mc_cd 260 53 = some (.aload_n 0, 1) := by decide +kernel
theorem c260_54 : mc_cd 260 54 = some (.getfield 39, 3) := by decide +kernel
theorem c260_57 : mc_cd 260 57 = some (.iload_n 1, 1) := by decide +kernel
theorem c260_58 : mc_cd 260 58 = some (.iaload, 1) := by decide +kernel
theorem c260_59 : mc_cd 260 59 = some (.lshl, 1) := by decide +kernel
theorem c260_60 : mc_cd 260 60 = some (.lor, 1) := by decide +kernel
theorem c260_61 : mc_cd 260 61 = some (.lstore_n 3, 1) := by decide +kernel
theorem c260_62 : mc_cd 260 62 = some (.iinc 5 1, 3) := by decide +kernel
theorem c260_65 : mc_cd 260 65 = some (.goto (-34), 3) := by decide +kernel
theorem c260_68 : mc_cd 260 68 = some (.aload_n 0, 1) := by decide +kernel
theorem c260_69 : mc_cd 260 69 = some (.lload_n 3, 1) := by decide +kernel
theorem c260_70 : mc_cd 260 70 = some (.invokevirtual 380, 3) := by decide +kernel
theorem c260_73 : mc_cd 260 73 = some (.lreturn, 1) := by decide +kernel
abbrev q_260 (r0 : Nat) (a1 : Int) (T : wq_T) (H : wq_H) : Option Value → wq_T → wq_H → Prop := fun r T' H' => T = T' ∧ WT T H' ∧ wfr [(42, 0), (42, 1), (42, 2), (42, 28), (42, 29), (51, 999), (52, 999)] T H H' ∧ ∃ z : Int, some (vL z) = r ∧ ((-9223372036854775808) ≤ z ∧ z ≤ 9223372036854775807) ∧ (wKI H' r0 = 1)
set_option maxHeartbeats 4000000 in
theorem s_260 {kt : Nat → Option mc_E} {T : wq_T} {H : wq_H} {r0 : Nat} {a1 : Int} (hW : WT T H) (g0 : T.2.2.2 r0 = some 42) (i1 : (-2147483648) ≤ a1 ∧ a1 ≤ 2147483647) (p0 : wKI H r0 = 1) : wpc kt 8 260 [.ref r0, vI a1] T H (q_260 r0 a1 T H) := by
  refine wp_enter e260 (Nat.le_of_ble_eq_true rfl) rfl ?_
  have f0 : wfr [(42, 0), (42, 1), (42, 2), (42, 28), (42, 29), (51, 999), (52, 999)] T H H := wfr.rf
  show wp _ _ 260 0 [(0, .ref r0), (1, vI a1)] [] _ H _
  refine wp_of e260 c260_0 (rw_aload_n (pc' := 1) (v := .ref r0) rfl rfl rfl ?_)
  refine wp_of e260 c260_1 (rw_iconst (pc' := 2) rfl ?_)
  refine wp_of e260 c260_2 (xp_I (pc' := 5) lf_9_48 hW g0 sh_42 (by decide) (by decide) ty_42_0 rfl rfl (by omega) (by omega) ⟨by omega, by omega⟩ rfl (fun H140238 e140239 w140240 => ?_))
  have f140241 := f0.put' e140239 g0 rfl
  have k140242 : H140238 r0 0 = 0 := wq_u_s e140239
  refine wp_of e260 c260_5 (rw_aload_n (pc' := 6) (v := .ref r0) rfl rfl rfl ?_)
  refine wp_of e260 c260_6 (rw_aload_n (pc' := 7) (v := .ref r0) rfl rfl rfl ?_)
  refine wp_of e260 c260_7 (rw_iload_n (pc' := 8) (z := a1) rfl rfl ?_)
  refine wp_of e260 c260_8 (xc_V (pc' := 11) (r := r0) (as := [vI a1]) (st := [.ref r0]) (lm_9_364) rfl rfl (Nat.le_of_ble_eq_true rfl) w140240 g0 sh_42 (by decide) rfl (by decide) (s_213 w140240 g0 ⟨by omega, by omega⟩) (fun R140243 T140244 H140245 p140246 => ?_))
  obtain ⟨e140247, e140249, z140251, e140248, b140252, p140250⟩ := p140246
  subst e140247
  subst e140248
  subst e140249
  show wp _ _ 260 11 [(0, .ref r0), (1, vI a1)] [vI z140251, .ref r0] _ H140238 _
  have k140253 : wKI H140238 r0 = wKI H r0 := (wKI_fr hW g0 ((wfr.rf (l := [(42, 0)])).put' e140239 g0 rfl) rfl)
  refine wp_of e260 c260_11 (xc_V (pc' := 14) (r := r0) (as := [vI z140251]) (st := []) (lm_9_433) rfl rfl (Nat.le_of_ble_eq_true rfl) w140240 g0 sh_42 (by decide) rfl (by decide) (s_241 w140240 g0 ⟨by omega, by omega⟩ (by omega) (by omega)) (fun R140254 T140255 H140256 p140257 => ?_))
  obtain ⟨e140258, w140260, f140261, z140266, e140259, b140267, p140262, p140263, p140264, p140265⟩ := p140257
  subst e140258
  subst e140259
  have f140268 := f140241.tr f140261 rfl
  show wp _ _ 260 14 [(0, .ref r0), (1, vI a1)] [vI z140266] _ H140256 _
  refine wp_of e260 c260_14 (rw_istore_n (pc' := 15) (z := z140266) (L' := [(2, vI z140266), (0, .ref r0), (1, vI a1)]) rfl rfl rfl ?_)
  refine wp_of e260 c260_15 (rw_iload_n (pc' := 16) (z := z140266) rfl rfl ?_)
  refine wp_of e260 c260_16 (rw_if_le (p1 := 26) (p2 := 19) (by decide) rfl ⟨by omega, by omega⟩ (fun c140269 => ?_) (fun c140269 => ?_))
  · refine wp_of e260 c260_26 (rw_lconst (pc' := 27) (z := 0) rfl rfl ?_)
    refine wp_of e260 c260_27 (rw_lstore_n (pc' := 28) (z := 0) (L' := [(3, vL 0), (2, vI z140266), (0, .ref r0), (1, vI a1)]) rfl rfl rfl ?_)
    refine wp_of e260 c260_28 (rw_iconst (pc' := 29) rfl ?_)
    refine wp_of e260 c260_29 (rw_istore (pc' := 31) (z := 0) (L' := [(5, vI 0), (3, vL 0), (2, vI z140266), (0, .ref r0), (1, vI a1)]) rfl rfl rfl ?_)
    have lp140526 : ∀ (n140527 : Nat) (v140529 : Int) (v140530 : Int) (H140531 : wq_H), WT T H140531 → wfr [(51, 999)] T H140256 H140531 → (0 ≤ v140529 ∧ v140529 ≤ 20000) → ((-9223372036854775808) ≤ v140530 ∧ v140530 ≤ 9223372036854775807) → (20000 - v140529).toNat = n140527 → wp kt 7 260 31 [(5, vI v140529), (3, vL v140530), (0, .ref r0), (1, vI a1)] [] T H140531 (q_260 r0 a1 T H) := by
      intro n140527
      induction n140527 using Nat.strongRecOn with
      | _ n140527 ih140528 =>
        intro v140529 v140530 H140531 w140532 f140533 b140534 b140535 m140536
        have f140537 := f140268.tr f140533 rfl
        refine wp_of e260 c260_31 (rw_iload (pc' := 33) (z := v140529) rfl rfl ?_)
        refine wp_of e260 c260_33 (rw_aload_n (pc' := 34) (v := .ref r0) rfl rfl rfl ?_)
        have k140538 : H140531 r0 29 = H140256 r0 29 := (f140533 r0 29 _ g0 rfl)
        refine wp_of e260 c260_34 (xg_I (pc' := 37) lf_9_422 w140532 g0 sh_42 (by decide) (by decide) ty_42_29 rfl rfl (fun b140539 b140540 => ?_))
        refine wp_of e260 c260_37 (rw_icmp_ge (p1 := 68) (p2 := 40) (by decide) rfl ⟨by omega, by omega⟩ ⟨by omega, by omega⟩ (fun c140541 => ?_) (fun c140541 => ?_))
        · refine wp_of e260 c260_68 (rw_aload_n (pc' := 69) (v := .ref r0) rfl rfl rfl ?_)
          refine wp_of e260 c260_69 (rw_lload_n (pc' := 70) (z := v140530) rfl rfl ?_)
          refine wp_of e260 c260_70 (xc_V (pc' := 73) (r := r0) (as := [vL v140530]) (st := []) (lm_9_380) rfl rfl (Nat.le_of_ble_eq_true rfl) w140532 g0 sh_42 (by decide) rfl (by decide) (s_221 w140532 g0 ⟨by omega, by omega⟩) (fun R140542 T140543 H140544 p140545 => ?_))
          obtain ⟨e140546, w140548, f140549, z140550, e140547, b140551⟩ := p140545
          subst e140546
          subst e140547
          have f140552 := f140537.tr f140549 rfl
          show wp _ _ 260 73 [(5, vI v140529), (3, vL v140530), (0, .ref r0), (1, vI a1)] [vL z140550] _ H140544 _
          have k140553 : wKI H140544 r0 = wKI H140256 r0 := ((wKI_fr w140532 g0 f140549 rfl).trans (wKI_fr w140260 g0 f140533 rfl))
          exact wp_lreturn e260 c260_73 rfl ⟨rfl, w140548, f140552, z140550, rfl, ⟨by omega, by omega⟩, by omega⟩
        · refine wp_of e260 c260_40 (rw_aload_n (pc' := 41) (v := .ref r0) rfl rfl rfl ?_)
          refine wp_of e260 c260_41 (rw_aload_n (pc' := 42) (v := .ref r0) rfl rfl rfl ?_)
          refine wp_of e260 c260_42 (xg_R (pc' := 45) lf_9_42 w140532 g0 sh_42 (by decide) (by decide) ty_42_30 rfl rfl (fun r140554 q140555 g140556 => ?_))
          refine wp_of e260 c260_45 (rw_iload (pc' := 47) (z := v140529) rfl rfl ?_)
          refine wp_of e260 c260_47 (xa_I (so := 0) (pc' := 48) w140532 g140556 sh_52 (by decide) (ty_52 _) (by omega) (by omega) rfl (fun b140557 b140558 => ?_))
          have k140559 : wLM H140531 r0 = wLM H140256 r0 := (wLM_fr w140260 g0 f140533 rfl)
          have k140560 : H140531 r0 3 = H140238 r0 3 := ((f140533 r0 3 _ g0 rfl).trans (f140261 r0 3 _ g0 rfl))
          obtain ⟨r140561, q140562, g140563⟩ := (w140532.opt g0 (t' := 54) (n := 33) (j := 3) (p := 0) (q := 0) rfl (by decide) rfl).resolve_left (by omega)
          refine wp_of e260 c260_48 (xc_V (pc' := 51) (r := r0) (as := [vI (H140531 r140554 (v140529.toNat))]) (st := []) (lm_9_425) rfl rfl (Nat.le_of_ble_eq_true rfl) w140532 g0 sh_42 (by decide) rfl (by decide) (s_243 w140532 g0 ⟨by omega, by omega⟩ q140562 g140563 (by omega)) (fun R140564 T140565 H140566 p140567 => ?_))
          obtain ⟨e140568, w140570, f140571, e140569⟩ := p140567
          subst e140568
          subst e140569
          have f140572 := f140537.tr f140571 rfl
          have f140573 := f140533.tr f140571 rfl
          show wp _ _ 260 51 [(5, vI v140529), (3, vL v140530), (0, .ref r0), (1, vI a1)] [] _ H140566 _
          refine wp_of e260 c260_51 (rw_lload_n (pc' := 52) (z := v140530) rfl rfl ?_)
          refine wp_of e260 c260_52 (rw_lconst (pc' := 53) (z := 1) rfl rfl ?_)
          refine wp_of e260 c260_53 (rw_aload_n (pc' := 54) (v := .ref r0) rfl rfl rfl ?_)
          refine wp_of e260 c260_54 (xg_R (pc' := 57) lf_9_39 w140570 g0 sh_42 (by decide) (by decide) ty_42_27 rfl rfl (fun r140574 q140575 g140576 => ?_))
          refine wp_of e260 c260_57 (rw_iload_n (pc' := 58) (z := a1) rfl rfl ?_)
          refine wp_of e260 c260_58 (xa_I (so := 0) (pc' := 59) w140570 g140576 sh_51 (by decide) (ty_51 _) (by omega) (by omega) rfl (fun b140577 b140578 => ?_))
          refine wp_of e260 c260_59 (rw_lshl (pc' := 60) rfl ?_)
          obtain ⟨v140579, e140580⟩ : ∃ x : Int, x = wl_shl 1 (H140566 r140574 (a1.toNat)) := ⟨_, rfl⟩
          rw [← e140580]
          have b140581 : -9223372036854775808 ≤ v140579 ∧ v140579 ≤ 9223372036854775807 := by
            rw [e140580]
            exact wL_shl _ _
          refine wp_of e260 c260_60 (rw_lor (pc' := 61) rfl ?_)
          obtain ⟨v140582, e140583⟩ : ∃ x : Int, x = wl_or v140530 v140579 := ⟨_, rfl⟩
          rw [← e140583]
          have b140584 : -9223372036854775808 ≤ v140582 ∧ v140582 ≤ 9223372036854775807 := by
            rw [e140583]
            exact wL_or _ _
          refine wp_of e260 c260_61 (rw_lstore_n (pc' := 62) (z := v140582) (L' := [(3, vL v140582), (5, vI v140529), (0, .ref r0), (1, vI a1)]) rfl rfl rfl ?_)
          refine wp_of e260 c260_62 (rw_iinc (pc' := 65) (z := v140529) (L' := [(5, vI (v140529 + 1)), (3, vL v140582), (0, .ref r0), (1, vI a1)]) rfl rfl rfl rfl ?_)
          refine wp_of e260 c260_65 (rw_goto (p1 := 31) (by decide) ?_)
          exact wp_lc (ks := [5, 3, 0, 1]) (wl_c rfl (wl_c rfl (wl_c rfl (wl_c rfl wl_n)))) rfl (by decide) (ih140528 _ (by omega) (v140529 + 1) v140582 H140566 w140570 f140573 ⟨by omega, by omega⟩ ⟨by omega, by omega⟩ rfl)
    exact wp_lc (ks := [5, 3, 2, 0, 1]) (wl_c rfl (wl_c rfl (wl_c rfl (wl_c rfl wl_n)))) rfl (by decide) (lp140526 _ 0 0 H140256 w140260 wfr.rf ⟨by omega, by omega⟩ ⟨by omega, by omega⟩ rfl)
  · refine wp_of e260 c260_19 (rw_aload_n (pc' := 20) (v := .ref r0) rfl rfl rfl ?_)
    refine wp_of e260 c260_20 (rw_iload_n (pc' := 21) (z := z140266) rfl rfl ?_)
    refine wp_of e260 c260_21 (xc_V (pc' := 24) (r := r0) (as := [vI z140266]) (st := []) (lm_9_54) rfl rfl (Nat.le_of_ble_eq_true rfl) w140260 g0 sh_42 (by decide) rfl (by decide) (s_170 w140260 g0 ⟨by omega, by omega⟩) (fun R140585 T140586 H140587 p140588 => ?_))
    obtain ⟨e140589, w140591, f140592, z140593, e140590, b140594⟩ := p140588
    subst e140589
    subst e140590
    have f140595 := f140268.tr f140592 rfl
    show wp _ _ 260 24 [(2, vI z140266), (0, .ref r0), (1, vI a1)] [vI z140593] _ H140587 _
    refine wp_of e260 c260_24 (rw_i2l (pc' := 25) rfl ⟨by omega, by omega⟩ ?_)
    have k140596 : wKI H140587 r0 = wKI H140256 r0 := (wKI_fr w140260 g0 f140592 rfl)
    exact wp_lreturn e260 c260_25 rfl ⟨rfl, w140591, f140595, z140593, rfl, ⟨by omega, by omega⟩, by omega⟩
/-! StrikeAwakeModel.awakeSet([II)I -/
theorem e262 : wq_en 262 = some (9, 5, false, some FieldType.int) := rfl
theorem c262_0 : mc_cd 262 0 = some (.iconst 0, 1) := by decide +kernel
theorem c262_1 : mc_cd 262 1 = some (.istore_n 3, 1) := by decide +kernel
theorem c262_2 : mc_cd 262 2 = some (.iconst 0, 1) := by decide +kernel
theorem c262_3 : mc_cd 262 3 = some (.istore 4, 2) := by decide +kernel
theorem c262_5 : mc_cd 262 5 = some (.iload 4, 2) := by decide +kernel
theorem c262_7 : mc_cd 262 7 = some (.aload_n 0, 1) := by decide +kernel
theorem c262_8 : mc_cd 262 8 = some (.getfield 337, 3) := by decide +kernel
theorem c262_11 : mc_cd 262 11 = some (.getfield 188, 3) := by decide +kernel
theorem c262_14 : mc_cd 262 14 = some (.if_icmp .ge 42, 3) := by decide +kernel
theorem c262_17 : mc_cd 262 17 = some (.iload_n 3, 1) := by decide +kernel
theorem c262_18 : mc_cd 262 18 = some (.aload_n 0, 1) := by decide +kernel
theorem c262_19 : mc_cd 262 19 = some (.getfield 33, 3) := by decide +kernel
theorem c262_22 : mc_cd 262 22 = some (.bipush 40, 2) := by decide +kernel
theorem c262_24 : mc_cd 262 24 = some (.iload 4, 2) := by decide +kernel
theorem c262_26 : mc_cd 262 26 = some (.imul, 1) := by decide +kernel
theorem c262_27 : mc_cd 262 27 = some (.aload_n 1, 1) := by decide +kernel
theorem c262_28 : mc_cd 262 28 = some (.iload 4, 2) := by decide +kernel
theorem c262_30 : mc_cd 262 30 = some (.iaload, 1) := by decide +kernel
theorem c262_31 : mc_cd 262 31 = some (.iadd, 1) := by decide +kernel
theorem c262_32 : mc_cd 262 32 = some (.iaload, 1) := by decide +kernel
theorem c262_33 : mc_cd 262 33 = some (.iload_n 2, 1) := by decide +kernel
theorem c262_34 : mc_cd 262 34 = some (.invokestatic 346, 3) := by decide +kernel
theorem c262_37 : mc_cd 262 37 = some (.ifCond .eq 10, 3) := by decide +kernel
theorem c262_40 : mc_cd 262 40 = some (.iconst 1, 1) := by decide +kernel
theorem c262_41 : mc_cd 262 41 = some (.iload 4, 2) := by decide +kernel
theorem c262_43 : mc_cd 262 43 = some (.ishl, 1) := by decide +kernel
theorem c262_44 : mc_cd 262 44 = some (.goto 4, 3) := by decide +kernel
theorem c262_47 : mc_cd 262 47 = some (.iconst 0, 1) := by decide +kernel
theorem c262_48 : mc_cd 262 48 = some (.ior, 1) := by decide +kernel
theorem c262_49 : mc_cd 262 49 = some (.istore_n 3, 1) := by decide +kernel
theorem c262_50 : mc_cd 262 50 = some (.iinc 4 1, 3) := by decide +kernel
theorem c262_53 : mc_cd 262 53 = some (.goto (-48), 3) := by decide +kernel
theorem c262_56 : mc_cd 262 56 = some (.iload_n 3, 1) := by decide +kernel
theorem c262_57 : mc_cd 262 57 = some (.ireturn, 1) := by decide +kernel
abbrev q_262_m_lot (r0 : Nat) (r1 : Nat) (a2 : Int) (pp : Nat) (T : wq_T) (H : wq_H) : Option Value → wq_T → wq_H → Prop := fun r T' H' => T = T' ∧ H = H' ∧ ∃ z : Int, some (vI z) = r ∧ ((-2147483648) ≤ z ∧ z ≤ 2147483647)
set_option maxHeartbeats 4000000 in
theorem s_262_m_lot {kt : Nat → Option mc_E} {T : wq_T} {H : wq_H} {r0 : Nat} {r1 : Nat} {a2 : Int} {pp : Nat} (hW : WT T H) (g0 : T.2.2.2 r0 = some 42) (g1 : T.2.2.2 r1 = some 51) (i2 : (-2147483648) ≤ a2 ∧ a2 ≤ 2147483647) (qpp : H r0 3 = (pp : Int)) (gpp : T.2.2.2 pp = some 54) : wpc kt 2 262 [.ref r0, .ref r1, vI a2] T H (q_262_m_lot r0 r1 a2 pp T H) := by
  refine wp_enter e262 (Nat.le_of_ble_eq_true rfl) rfl ?_
  show wp _ _ 262 0 [(0, .ref r0), (1, .ref r1), (2, vI a2)] [] _ H _
  refine wp_of e262 c262_0 (rw_iconst (pc' := 1) rfl ?_)
  refine wp_of e262 c262_1 (rw_istore_n (pc' := 2) (z := 0) (L' := [(3, vI 0), (0, .ref r0), (1, .ref r1), (2, vI a2)]) rfl rfl rfl ?_)
  refine wp_of e262 c262_2 (rw_iconst (pc' := 3) rfl ?_)
  refine wp_of e262 c262_3 (rw_istore (pc' := 5) (z := 0) (L' := [(4, vI 0), (3, vI 0), (0, .ref r0), (1, .ref r1), (2, vI a2)]) rfl rfl rfl ?_)
  have lp141016 : ∀ (n141017 : Nat) (v141019 : Int) (v141020 : Int), (0 ≤ v141019 ∧ v141019 ≤ 6) → (0 ≤ v141020 ∧ v141020 ≤ 16777215) → (6 - v141019).toNat = n141017 → wp kt 1 262 5 [(4, vI v141019), (3, vI v141020), (0, .ref r0), (1, .ref r1), (2, vI a2)] [] T H (q_262_m_lot r0 r1 a2 pp T H) := by
    intro n141017
    induction n141017 using Nat.strongRecOn with
    | _ n141017 ih141018 =>
      intro v141019 v141020 b141023 b141024 m141025
      refine wp_of e262 c262_5 (rw_iload (pc' := 7) (z := v141019) rfl rfl ?_)
      refine wp_of e262 c262_7 (rw_aload_n (pc' := 8) (v := .ref r0) rfl rfl rfl ?_)
      refine wp_of e262 c262_8 (xg_K (pc' := 11) lf_9_337 hW g0 sh_42 (by decide) (by decide) rfl qpp rfl ?_)
      refine wp_of e262 c262_11 (xg_I (pc' := 14) lf_9_188 hW gpp sh_54 (by decide) (by decide) ty_54_3 rfl rfl (fun b141026 b141027 => ?_))
      refine wp_of e262 c262_14 (rw_icmp_ge (p1 := 56) (p2 := 17) (by decide) rfl ⟨by omega, by omega⟩ ⟨by omega, by omega⟩ (fun c141028 => ?_) (fun c141028 => ?_))
      · refine wp_of e262 c262_56 (rw_iload_n (pc' := 57) (z := v141020) rfl rfl ?_)
        exact wp_ireturn e262 c262_57 rfl ⟨rfl, rfl, v141020, rfl, ⟨by omega, by omega⟩⟩
      · refine wp_of e262 c262_17 (rw_iload_n (pc' := 18) (z := v141020) rfl rfl ?_)
        refine wp_of e262 c262_18 (rw_aload_n (pc' := 19) (v := .ref r0) rfl rfl rfl ?_)
        refine wp_of e262 c262_19 (xg_R (pc' := 22) lf_9_33 hW g0 sh_42 (by decide) (by decide) ty_42_25 rfl rfl (fun r141029 q141030 g141031 => ?_))
        refine wp_of e262 c262_22 (rw_bipush (pc' := 24) (z := 40) rfl (by decide) ?_)
        refine wp_of e262 c262_24 (rw_iload (pc' := 26) (z := v141019) rfl rfl ?_)
        refine wp_of e262 c262_26 (rw_imul (pc' := 27) rfl ?_)
        refine wp_of e262 c262_27 (rw_aload_n (pc' := 28) (v := .ref r1) rfl rfl rfl ?_)
        refine wp_of e262 c262_28 (rw_iload (pc' := 30) (z := v141019) rfl rfl ?_)
        refine wp_of e262 c262_30 (xa_I (so := 0) (pc' := 31) hW g1 sh_51 (by decide) (ty_51 _) (by omega) (by omega) rfl (fun b141032 b141033 => ?_))
        refine wp_of e262 c262_31 (rw_iadd (pc' := 32) rfl ?_)
        refine wp_of e262 c262_32 (xa_I (so := 0) (pc' := 33) hW g141031 sh_49 (by decide) (ty_49 _) (by omega) (by omega) rfl (fun b141034 b141035 => ?_))
        refine wp_of e262 c262_33 (rw_iload_n (pc' := 34) (z := a2) rfl rfl ?_)
        refine wp_of e262 c262_34 (xc_S (pc' := 37) (as := [vI (H r141029 (((40 * v141019) + (H r1 (v141019.toNat))).toNat)), vI a2]) (st := [vI v141020]) (lm_9_346) rfl rfl (Nat.le_of_ble_eq_true rfl) rfl (by decide) (s_205 hW ⟨by omega, by omega⟩ ⟨by omega, by omega⟩) (fun R141036 T141037 H141038 p141039 => ?_))
        obtain ⟨e141040, e141042, z141043, e141041, b141044⟩ := p141039
        subst e141040
        subst e141041
        subst e141042
        show wp _ _ 262 37 [(4, vI v141019), (3, vI v141020), (0, .ref r0), (1, .ref r1), (2, vI a2)] [vI z141043, vI v141020] _ H _
        refine wp_of e262 c262_37 (rw_if_eq (p1 := 47) (p2 := 40) (by decide) rfl ⟨by omega, by omega⟩ (fun c141045 => ?_) (fun c141045 => ?_))
        · refine wp_of e262 c262_47 (rw_iconst (pc' := 48) rfl ?_)
          refine wp_of e262 c262_48 (rw_ior (pc' := 49) rfl ?_)
          obtain ⟨v141046, e141047⟩ : ∃ x : Int, x = wq_or v141020 0 := ⟨_, rfl⟩
          rw [← e141047]
          have b141048 : 0 ≤ v141046 ∧ v141046 ≤ 16777215 := by
            rw [e141047]
            exact wq_or_24 ⟨by omega, by omega⟩ ⟨by omega, by omega⟩
          refine wp_of e262 c262_49 (rw_istore_n (pc' := 50) (z := v141046) (L' := [(3, vI v141046), (4, vI v141019), (0, .ref r0), (1, .ref r1), (2, vI a2)]) rfl rfl rfl ?_)
          refine wp_of e262 c262_50 (rw_iinc (pc' := 53) (z := v141019) (L' := [(4, vI (v141019 + 1)), (3, vI v141046), (0, .ref r0), (1, .ref r1), (2, vI a2)]) rfl rfl rfl rfl ?_)
          refine wp_of e262 c262_53 (rw_goto (p1 := 5) (by decide) ?_)
          exact wp_lc (ks := [4, 3, 0, 1, 2]) (wl_c rfl (wl_c rfl (wl_c rfl (wl_c rfl (wl_c rfl wl_n))))) rfl (by decide) (ih141018 _ (by omega) (v141019 + 1) v141046 ⟨by omega, by omega⟩ ⟨by omega, by omega⟩ rfl)
        · refine wp_of e262 c262_40 (rw_iconst (pc' := 41) rfl ?_)
          refine wp_of e262 c262_41 (rw_iload (pc' := 43) (z := v141019) rfl rfl ?_)
          refine wp_of e262 c262_43 (rw_ishl (pc' := 44) rfl ?_)
          obtain ⟨v141049, e141050⟩ : ∃ x : Int, x = wq_shl 1 v141019 := ⟨_, rfl⟩
          rw [← e141050]
          have b141051 : 1 ≤ v141049 ∧ v141049 ≤ 64 := by
            rw [e141050]
            exact wq_shl1_6 ⟨by omega, by omega⟩
          refine wp_of e262 c262_44 (rw_goto (p1 := 48) (by decide) ?_)
          refine wp_of e262 c262_48 (rw_ior (pc' := 49) rfl ?_)
          obtain ⟨v141052, e141053⟩ : ∃ x : Int, x = wq_or v141020 v141049 := ⟨_, rfl⟩
          rw [← e141053]
          have b141054 : 0 ≤ v141052 ∧ v141052 ≤ 16777215 := by
            rw [e141053]
            exact wq_or_24 ⟨by omega, by omega⟩ ⟨by omega, by omega⟩
          refine wp_of e262 c262_49 (rw_istore_n (pc' := 50) (z := v141052) (L' := [(3, vI v141052), (4, vI v141019), (0, .ref r0), (1, .ref r1), (2, vI a2)]) rfl rfl rfl ?_)
          refine wp_of e262 c262_50 (rw_iinc (pc' := 53) (z := v141019) (L' := [(4, vI (v141019 + 1)), (3, vI v141052), (0, .ref r0), (1, .ref r1), (2, vI a2)]) rfl rfl rfl rfl ?_)
          refine wp_of e262 c262_53 (rw_goto (p1 := 5) (by decide) ?_)
          exact wp_lc (ks := [4, 3, 0, 1, 2]) (wl_c rfl (wl_c rfl (wl_c rfl (wl_c rfl (wl_c rfl wl_n))))) rfl (by decide) (ih141018 _ (by omega) (v141019 + 1) v141052 ⟨by omega, by omega⟩ ⟨by omega, by omega⟩ rfl)
  exact wp_lc (ks := [4, 3, 0, 1, 2]) (wl_c rfl (wl_c rfl (wl_c rfl (wl_c rfl (wl_c rfl wl_n))))) rfl (by decide) (lp141016 _ 0 0 ⟨by omega, by omega⟩ ⟨by omega, by omega⟩ rfl)

/-! StrikeAwakeModel.awakeSet([II)I -/
abbrev q_262_m_one (r0 : Nat) (r1 : Nat) (a2 : Int) (pp : Nat) (T : wq_T) (H : wq_H) : Option Value → wq_T → wq_H → Prop := fun r T' H' => T = T' ∧ H = H' ∧ ∃ z : Int, some (vI z) = r ∧ ((-2147483648) ≤ z ∧ z ≤ 2147483647)
set_option maxHeartbeats 4000000 in
theorem s_262_m_one {kt : Nat → Option mc_E} {T : wq_T} {H : wq_H} {r0 : Nat} {r1 : Nat} {a2 : Int} {pp : Nat} (hW : WT T H) (g0 : T.2.2.2 r0 = some 42) (g1 : T.2.2.2 r1 = some 53) (i2 : (-2147483648) ≤ a2 ∧ a2 ≤ 2147483647) (qpp : H r0 3 = (pp : Int)) (gpp : T.2.2.2 pp = some 54) : wpc kt 2 262 [.ref r0, .ref r1, vI a2] T H (q_262_m_one r0 r1 a2 pp T H) := by
  refine wp_enter e262 (Nat.le_of_ble_eq_true rfl) rfl ?_
  show wp _ _ 262 0 [(0, .ref r0), (1, .ref r1), (2, vI a2)] [] _ H _
  refine wp_of e262 c262_0 (rw_iconst (pc' := 1) rfl ?_)
  refine wp_of e262 c262_1 (rw_istore_n (pc' := 2) (z := 0) (L' := [(3, vI 0), (0, .ref r0), (1, .ref r1), (2, vI a2)]) rfl rfl rfl ?_)
  refine wp_of e262 c262_2 (rw_iconst (pc' := 3) rfl ?_)
  refine wp_of e262 c262_3 (rw_istore (pc' := 5) (z := 0) (L' := [(4, vI 0), (3, vI 0), (0, .ref r0), (1, .ref r1), (2, vI a2)]) rfl rfl rfl ?_)
  have lp141474 : ∀ (n141475 : Nat) (v141477 : Int) (v141478 : Int), (0 ≤ v141477 ∧ v141477 ≤ 6) → (0 ≤ v141478 ∧ v141478 ≤ 16777215) → (6 - v141477).toNat = n141475 → wp kt 1 262 5 [(4, vI v141477), (3, vI v141478), (0, .ref r0), (1, .ref r1), (2, vI a2)] [] T H (q_262_m_one r0 r1 a2 pp T H) := by
    intro n141475
    induction n141475 using Nat.strongRecOn with
    | _ n141475 ih141476 =>
      intro v141477 v141478 b141481 b141482 m141483
      refine wp_of e262 c262_5 (rw_iload (pc' := 7) (z := v141477) rfl rfl ?_)
      refine wp_of e262 c262_7 (rw_aload_n (pc' := 8) (v := .ref r0) rfl rfl rfl ?_)
      refine wp_of e262 c262_8 (xg_K (pc' := 11) lf_9_337 hW g0 sh_42 (by decide) (by decide) rfl qpp rfl ?_)
      refine wp_of e262 c262_11 (xg_I (pc' := 14) lf_9_188 hW gpp sh_54 (by decide) (by decide) ty_54_3 rfl rfl (fun b141484 b141485 => ?_))
      refine wp_of e262 c262_14 (rw_icmp_ge (p1 := 56) (p2 := 17) (by decide) rfl ⟨by omega, by omega⟩ ⟨by omega, by omega⟩ (fun c141486 => ?_) (fun c141486 => ?_))
      · refine wp_of e262 c262_56 (rw_iload_n (pc' := 57) (z := v141478) rfl rfl ?_)
        exact wp_ireturn e262 c262_57 rfl ⟨rfl, rfl, v141478, rfl, ⟨by omega, by omega⟩⟩
      · refine wp_of e262 c262_17 (rw_iload_n (pc' := 18) (z := v141478) rfl rfl ?_)
        refine wp_of e262 c262_18 (rw_aload_n (pc' := 19) (v := .ref r0) rfl rfl rfl ?_)
        refine wp_of e262 c262_19 (xg_R (pc' := 22) lf_9_33 hW g0 sh_42 (by decide) (by decide) ty_42_25 rfl rfl (fun r141487 q141488 g141489 => ?_))
        refine wp_of e262 c262_22 (rw_bipush (pc' := 24) (z := 40) rfl (by decide) ?_)
        refine wp_of e262 c262_24 (rw_iload (pc' := 26) (z := v141477) rfl rfl ?_)
        refine wp_of e262 c262_26 (rw_imul (pc' := 27) rfl ?_)
        refine wp_of e262 c262_27 (rw_aload_n (pc' := 28) (v := .ref r1) rfl rfl rfl ?_)
        refine wp_of e262 c262_28 (rw_iload (pc' := 30) (z := v141477) rfl rfl ?_)
        refine wp_of e262 c262_30 (xa_I (so := 0) (pc' := 31) hW g1 sh_53 (by decide) (ty_53 _) (by omega) (by omega) rfl (fun b141490 b141491 => ?_))
        refine wp_of e262 c262_31 (rw_iadd (pc' := 32) rfl ?_)
        refine wp_of e262 c262_32 (xa_I (so := 0) (pc' := 33) hW g141489 sh_49 (by decide) (ty_49 _) (by omega) (by omega) rfl (fun b141492 b141493 => ?_))
        refine wp_of e262 c262_33 (rw_iload_n (pc' := 34) (z := a2) rfl rfl ?_)
        refine wp_of e262 c262_34 (xc_S (pc' := 37) (as := [vI (H r141487 (((40 * v141477) + (H r1 (v141477.toNat))).toNat)), vI a2]) (st := [vI v141478]) (lm_9_346) rfl rfl (Nat.le_of_ble_eq_true rfl) rfl (by decide) (s_205 hW ⟨by omega, by omega⟩ ⟨by omega, by omega⟩) (fun R141494 T141495 H141496 p141497 => ?_))
        obtain ⟨e141498, e141500, z141501, e141499, b141502⟩ := p141497
        subst e141498
        subst e141499
        subst e141500
        show wp _ _ 262 37 [(4, vI v141477), (3, vI v141478), (0, .ref r0), (1, .ref r1), (2, vI a2)] [vI z141501, vI v141478] _ H _
        refine wp_of e262 c262_37 (rw_if_eq (p1 := 47) (p2 := 40) (by decide) rfl ⟨by omega, by omega⟩ (fun c141503 => ?_) (fun c141503 => ?_))
        · refine wp_of e262 c262_47 (rw_iconst (pc' := 48) rfl ?_)
          refine wp_of e262 c262_48 (rw_ior (pc' := 49) rfl ?_)
          obtain ⟨v141504, e141505⟩ : ∃ x : Int, x = wq_or v141478 0 := ⟨_, rfl⟩
          rw [← e141505]
          have b141506 : 0 ≤ v141504 ∧ v141504 ≤ 16777215 := by
            rw [e141505]
            exact wq_or_24 ⟨by omega, by omega⟩ ⟨by omega, by omega⟩
          refine wp_of e262 c262_49 (rw_istore_n (pc' := 50) (z := v141504) (L' := [(3, vI v141504), (4, vI v141477), (0, .ref r0), (1, .ref r1), (2, vI a2)]) rfl rfl rfl ?_)
          refine wp_of e262 c262_50 (rw_iinc (pc' := 53) (z := v141477) (L' := [(4, vI (v141477 + 1)), (3, vI v141504), (0, .ref r0), (1, .ref r1), (2, vI a2)]) rfl rfl rfl rfl ?_)
          refine wp_of e262 c262_53 (rw_goto (p1 := 5) (by decide) ?_)
          exact wp_lc (ks := [4, 3, 0, 1, 2]) (wl_c rfl (wl_c rfl (wl_c rfl (wl_c rfl (wl_c rfl wl_n))))) rfl (by decide) (ih141476 _ (by omega) (v141477 + 1) v141504 ⟨by omega, by omega⟩ ⟨by omega, by omega⟩ rfl)
        · refine wp_of e262 c262_40 (rw_iconst (pc' := 41) rfl ?_)
          refine wp_of e262 c262_41 (rw_iload (pc' := 43) (z := v141477) rfl rfl ?_)
          refine wp_of e262 c262_43 (rw_ishl (pc' := 44) rfl ?_)
          obtain ⟨v141507, e141508⟩ : ∃ x : Int, x = wq_shl 1 v141477 := ⟨_, rfl⟩
          rw [← e141508]
          have b141509 : 1 ≤ v141507 ∧ v141507 ≤ 64 := by
            rw [e141508]
            exact wq_shl1_6 ⟨by omega, by omega⟩
          refine wp_of e262 c262_44 (rw_goto (p1 := 48) (by decide) ?_)
          refine wp_of e262 c262_48 (rw_ior (pc' := 49) rfl ?_)
          obtain ⟨v141510, e141511⟩ : ∃ x : Int, x = wq_or v141478 v141507 := ⟨_, rfl⟩
          rw [← e141511]
          have b141512 : 0 ≤ v141510 ∧ v141510 ≤ 16777215 := by
            rw [e141511]
            exact wq_or_24 ⟨by omega, by omega⟩ ⟨by omega, by omega⟩
          refine wp_of e262 c262_49 (rw_istore_n (pc' := 50) (z := v141510) (L' := [(3, vI v141510), (4, vI v141477), (0, .ref r0), (1, .ref r1), (2, vI a2)]) rfl rfl rfl ?_)
          refine wp_of e262 c262_50 (rw_iinc (pc' := 53) (z := v141477) (L' := [(4, vI (v141477 + 1)), (3, vI v141510), (0, .ref r0), (1, .ref r1), (2, vI a2)]) rfl rfl rfl rfl ?_)
          refine wp_of e262 c262_53 (rw_goto (p1 := 5) (by decide) ?_)
          exact wp_lc (ks := [4, 3, 0, 1, 2]) (wl_c rfl (wl_c rfl (wl_c rfl (wl_c rfl (wl_c rfl wl_n))))) rfl (by decide) (ih141476 _ (by omega) (v141477 + 1) v141510 ⟨by omega, by omega⟩ ⟨by omega, by omega⟩ rfl)
  exact wp_lc (ks := [4, 3, 0, 1, 2]) (wl_c rfl (wl_c rfl (wl_c rfl (wl_c rfl (wl_c rfl wl_n))))) rfl (by decide) (lp141474 _ 0 0 ⟨by omega, by omega⟩ ⟨by omega, by omega⟩ rfl)
/-! StrikeAwakeModel.hiding(II)I -/
theorem e261 : wq_en 261 = some (9, 6, false, some FieldType.int) := rfl
theorem c261_0 : mc_cd 261 0 = some (.aload_n 0, 1) := by decide +kernel
theorem c261_1 : mc_cd 261 1 = some (.iconst 0, 1) := by decide +kernel
theorem c261_2 : mc_cd 261 2 = some (.putfield 48, 3) := by decide +kernel
theorem c261_5 : mc_cd 261 5 = some (.aload_n 0, 1) := by decide +kernel
theorem c261_6 : mc_cd 261 6 = some (.aload_n 0, 1) := by decide +kernel
theorem c261_7 : mc_cd 261 7 = some (.iload_n 1, 1) := by decide +kernel
theorem c261_8 : mc_cd 261 8 = some (.invokevirtual 364, 3) := by decide +kernel
theorem c261_11 : mc_cd 261 11 = some (.ifCond .eq 15, 3) := by decide +kernel
theorem c261_14 : mc_cd 261 14 = some (.aload_n 0, 1) := by decide +kernel
theorem c261_15 : mc_cd 261 15 = some (.iload_n 2, 1) := by decide +kernel
theorem c261_16 : mc_cd 261 16 = some (.invokevirtual 373, 3) := by decide +kernel
theorem c261_19 : mc_cd 261 19 = some (.ifCond .eq 7, 3) := by decide +kernel
theorem c261_22 : mc_cd 261 22 = some (.iconst 1, 1) := by decide +kernel
theorem c261_23 : mc_cd 261 23 = some (.goto 4, 3) := by decide +kernel
theorem c261_26 : mc_cd 261 26 = some (.iconst 0, 1) := by decide +kernel
theorem c261_27 : mc_cd 261 27 = some (.invokevirtual 433, 3) := by decide +kernel
theorem c261_30 : mc_cd 261 30 = some (.istore_n 3, 1) := by decide +kernel
theorem c261_31 : mc_cd 261 31 = some (.iload_n 3, 1) := by decide +kernel
theorem c261_32 : mc_cd 261 32 = some (.ifCond .le 9, 3) := by decide +kernel
theorem c261_35 : mc_cd 261 35 = some (.aload_n 0, 1) := by decide +kernel
theorem c261_36 : mc_cd 261 36 = some (.iload_n 3, 1) := by decide +kernel
theorem c261_37 : mc_cd 261 37 = some (.invokevirtual 54, 3) := by decide +kernel
theorem c261_40 : mc_cd 261 40 = some (.ireturn, 1) := by decide +kernel
theorem c261_41 : mc_cd 261 41 = some (.iconst 0, 1) := by decide +kernel
theorem c261_42 : mc_cd 261 42 = some (.istore 4, 2) := by decide +kernel
theorem c261_44 : mc_cd 261 44 = some (.iconst 0, 1) := by decide +kernel
theorem c261_45 : mc_cd 261 45 = some (.istore 5, 2) := by decide +kernel
theorem c261_47 : mc_cd 261 47 = some (.iload 5, 2) := by decide +kernel
theorem c261_49 : mc_cd 261 49 = some (.aload_n 0, 1) := by decide +kernel
theorem c261_50 : mc_cd 261 50 = some (.getfield 422, 3) := by decide +kernel
theorem c261_53 : mc_cd 261 53 = some (.if_icmp .ge 57, 3) := by decide +kernel
theorem c261_56 : mc_cd 261 56 = some (.aload_n 0, 1) := by decide +kernel
theorem c261_57 : mc_cd 261 57 = some (.aload_n 0, 1) := by decide +kernel
theorem c261_58 : mc_cd 261 58 = some (.getfield 42, 3) := by decide +kernel
theorem c261_61 : mc_cd 261 61 = some (.iload 5, 2) := by decide +kernel
theorem c261_63 : mc_cd 261 63 = some (.iaload, 1) := by decide +kernel
theorem c261_64 : mc_cd 261 64 = some (.invokevirtual 425, 3) := by decide +kernel
theorem c261_67 : mc_cd 261 67 = some (.aload_n 0, 1) := by decide +kernel
theorem c261_68 : mc_cd 261 68 = some (.getfield 30, 3) := by decide +kernel
theorem c261_71 : mc_cd 261 71 = some (.bipush 40, 2) := by decide +kernel
theorem c261_73 : mc_cd 261 73 = some (.iload_n 1, 1) := by decide +kernel
theorem c261_74 : mc_cd 261 74 = some (.imul, 1) := by decide +kernel
theorem c261_75 : mc_cd 261 75 = some (.aload_n 0, 1) := by decide +kernel
theorem c261_76 : mc_cd 261 76 = some (.getfield 39, 3) := by decide +kernel
theorem c261_79 : mc_cd 261 79 = some (.iload_n 1, 1) := by decide +kernel
theorem c261_80 : mc_cd 261 80 = some (.iaload, 1) := by decide +kernel
theorem c261_81 : mc_cd 261 81 = some (.iadd, 1) := by decide +kernel
theorem c261_82 : mc_cd 261 82 = some (.iaload, 1) := by decide +kernel
theorem c261_83 : mc_cd 261 83 = some (.iload_n 2, 1) := by decide +kernel
theorem c261_84 : mc_cd 261 84 = some (.invokestatic 346, 3) := by decide +kernel
theorem c261_87 : mc_cd 261 87 = some (.ifCond .eq 17, 3) := by decide +kernel
theorem c261_90 : mc_cd 261 90 = some (.iload 4, 2) := by decide +kernel
theorem c261_92 : mc_cd 261 92 = some (.aload_n 0, 1) := by decide +kernel
theorem c261_93 : mc_cd 261 93 = some (.aload_n 0, 1) := by decide +kernel
theorem c261_94 : mc_cd 261 94 = some (.getfield 39, 3) := by decide +kernel
theorem c261_97 : mc_cd 261 97 = some (.iload_n 2, 1) := by decide +kernel
theorem c261_98 : mc_cd 261 98 = some (.invokevirtual 455, 3) := by decide +kernel
theorem c261_101 : mc_cd 261 101 = some (.ior, 1) := by decide +kernel
theorem c261_102 : mc_cd 261 102 = some (.istore 4, 2) := by decide +kernel
theorem c261_104 : mc_cd 261 104 = some (.iinc 5 1, 3) := by decide +kernel
theorem c261_107 : mc_cd 261 107 = some (.goto (-60), 3) := by decide +kernel
theorem c261_110 : mc_cd 261 110 = some (.aload_n 0, 1) := by decide +kernel
theorem c261_111 : mc_cd 261 111 = some (.iload 4, 2) := by decide +kernel
theorem c261_113 : mc_cd 261 113 = some (.invokevirtual 58, 3) := by decide +kernel
theorem c261_116 : mc_cd 261 116 = some (.ireturn, 1) := by decide +kernel
abbrev q_261 (r0 : Nat) (a1 : Int) (a2 : Int) (T : wq_T) (H : wq_H) : Option Value → wq_T → wq_H → Prop := fun r T' H' => T = T' ∧ WT T H' ∧ wfr [(42, 0), (42, 1), (42, 2), (42, 28), (42, 29), (51, 999), (52, 999)] T H H' ∧ ∃ z : Int, some (vI z) = r ∧ ((-2147483648) ≤ z ∧ z ≤ 2147483647) ∧ (wKI H' r0 = 1)
set_option maxHeartbeats 4000000 in
theorem s_261 {kt : Nat → Option mc_E} {T : wq_T} {H : wq_H} {r0 : Nat} {a1 : Int} {a2 : Int} (hW : WT T H) (g0 : T.2.2.2 r0 = some 42) (i1 : (-2147483648) ≤ a1 ∧ a1 ≤ 2147483647) (i2 : (-2147483648) ≤ a2 ∧ a2 ≤ 2147483647) (p0 : wKI H r0 = 1) : wpc kt 8 261 [.ref r0, vI a1, vI a2] T H (q_261 r0 a1 a2 T H) := by
  refine wp_enter e261 (Nat.le_of_ble_eq_true rfl) rfl ?_
  have f0 : wfr [(42, 0), (42, 1), (42, 2), (42, 28), (42, 29), (51, 999), (52, 999)] T H H := wfr.rf
  show wp _ _ 261 0 [(0, .ref r0), (1, vI a1), (2, vI a2)] [] _ H _
  refine wp_of e261 c261_0 (rw_aload_n (pc' := 1) (v := .ref r0) rfl rfl rfl ?_)
  refine wp_of e261 c261_1 (rw_iconst (pc' := 2) rfl ?_)
  refine wp_of e261 c261_2 (xp_I (pc' := 5) lf_9_48 hW g0 sh_42 (by decide) (by decide) ty_42_0 rfl rfl (by omega) (by omega) ⟨by omega, by omega⟩ rfl (fun H142144 e142145 w142146 => ?_))
  have f142147 := f0.put' e142145 g0 rfl
  have k142148 : H142144 r0 0 = 0 := wq_u_s e142145
  refine wp_of e261 c261_5 (rw_aload_n (pc' := 6) (v := .ref r0) rfl rfl rfl ?_)
  refine wp_of e261 c261_6 (rw_aload_n (pc' := 7) (v := .ref r0) rfl rfl rfl ?_)
  refine wp_of e261 c261_7 (rw_iload_n (pc' := 8) (z := a1) rfl rfl ?_)
  refine wp_of e261 c261_8 (xc_V (pc' := 11) (r := r0) (as := [vI a1]) (st := [.ref r0]) (lm_9_364) rfl rfl (Nat.le_of_ble_eq_true rfl) w142146 g0 sh_42 (by decide) rfl (by decide) (s_213 w142146 g0 ⟨by omega, by omega⟩) (fun R142149 T142150 H142151 p142152 => ?_))
  obtain ⟨e142153, e142155, z142157, e142154, b142158, p142156⟩ := p142152
  subst e142153
  subst e142154
  subst e142155
  show wp _ _ 261 11 [(0, .ref r0), (1, vI a1), (2, vI a2)] [vI z142157, .ref r0] _ H142144 _
  refine wp_of e261 c261_11 (rw_if_eq (p1 := 26) (p2 := 14) (by decide) rfl ⟨by omega, by omega⟩ (fun c142159 => ?_) (fun c142159 => ?_))
  · refine wp_of e261 c261_26 (rw_iconst (pc' := 27) rfl ?_)
    have k142160 : wKI H142144 r0 = wKI H r0 := (wKI_fr hW g0 ((wfr.rf (l := [(42, 0)])).put' e142145 g0 rfl) rfl)
    refine wp_of e261 c261_27 (xc_V (pc' := 30) (r := r0) (as := [vI 0]) (st := []) (lm_9_433) rfl rfl (Nat.le_of_ble_eq_true rfl) w142146 g0 sh_42 (by decide) rfl (by decide) (s_241 w142146 g0 ⟨by omega, by omega⟩ (by omega) (by omega)) (fun R142161 T142162 H142163 p142164 => ?_))
    obtain ⟨e142165, w142167, f142168, z142173, e142166, b142174, p142169, p142170, p142171, p142172⟩ := p142164
    subst e142165
    subst e142166
    have f142175 := f142147.tr f142168 rfl
    show wp _ _ 261 30 [(0, .ref r0), (1, vI a1), (2, vI a2)] [vI z142173] _ H142163 _
    refine wp_of e261 c261_30 (rw_istore_n (pc' := 31) (z := z142173) (L' := [(3, vI z142173), (0, .ref r0), (1, vI a1), (2, vI a2)]) rfl rfl rfl ?_)
    refine wp_of e261 c261_31 (rw_iload_n (pc' := 32) (z := z142173) rfl rfl ?_)
    refine wp_of e261 c261_32 (rw_if_le (p1 := 41) (p2 := 35) (by decide) rfl ⟨by omega, by omega⟩ (fun c142176 => ?_) (fun c142176 => ?_))
    · exfalso
      omega
    · refine wp_of e261 c261_35 (rw_aload_n (pc' := 36) (v := .ref r0) rfl rfl rfl ?_)
      refine wp_of e261 c261_36 (rw_iload_n (pc' := 37) (z := z142173) rfl rfl ?_)
      refine wp_of e261 c261_37 (xc_V (pc' := 40) (r := r0) (as := [vI z142173]) (st := []) (lm_9_54) rfl rfl (Nat.le_of_ble_eq_true rfl) w142167 g0 sh_42 (by decide) rfl (by decide) (s_170 w142167 g0 ⟨by omega, by omega⟩) (fun R142177 T142178 H142179 p142180 => ?_))
      obtain ⟨e142181, w142183, f142184, z142185, e142182, b142186⟩ := p142180
      subst e142181
      subst e142182
      have f142187 := f142175.tr f142184 rfl
      show wp _ _ 261 40 [(3, vI z142173), (0, .ref r0), (1, vI a1), (2, vI a2)] [vI z142185] _ H142179 _
      have k142188 : wKI H142179 r0 = wKI H142163 r0 := (wKI_fr w142167 g0 f142184 rfl)
      exact wp_ireturn e261 c261_40 rfl ⟨rfl, w142183, f142187, z142185, rfl, ⟨by omega, by omega⟩, by omega⟩
  · refine wp_of e261 c261_14 (rw_aload_n (pc' := 15) (v := .ref r0) rfl rfl rfl ?_)
    refine wp_of e261 c261_15 (rw_iload_n (pc' := 16) (z := a2) rfl rfl ?_)
    refine wp_of e261 c261_16 (xc_V (pc' := 19) (r := r0) (as := [vI a2]) (st := [.ref r0]) (lm_9_373) rfl rfl (Nat.le_of_ble_eq_true rfl) w142146 g0 sh_42 (by decide) rfl (by decide) (s_218 w142146 g0 ⟨by omega, by omega⟩) (fun R142189 T142190 H142191 p142192 => ?_))
    obtain ⟨e142193, e142195, z142197, e142194, b142198, p142196⟩ := p142192
    subst e142193
    subst e142194
    subst e142195
    show wp _ _ 261 19 [(0, .ref r0), (1, vI a1), (2, vI a2)] [vI z142197, .ref r0] _ H142144 _
    refine wp_of e261 c261_19 (rw_if_eq (p1 := 26) (p2 := 22) (by decide) rfl ⟨by omega, by omega⟩ (fun c142199 => ?_) (fun c142199 => ?_))
    · refine wp_of e261 c261_26 (rw_iconst (pc' := 27) rfl ?_)
      have k142200 : wKI H142144 r0 = wKI H r0 := (wKI_fr hW g0 ((wfr.rf (l := [(42, 0)])).put' e142145 g0 rfl) rfl)
      refine wp_of e261 c261_27 (xc_V (pc' := 30) (r := r0) (as := [vI 0]) (st := []) (lm_9_433) rfl rfl (Nat.le_of_ble_eq_true rfl) w142146 g0 sh_42 (by decide) rfl (by decide) (s_241 w142146 g0 ⟨by omega, by omega⟩ (by omega) (by omega)) (fun R142201 T142202 H142203 p142204 => ?_))
      obtain ⟨e142205, w142207, f142208, z142213, e142206, b142214, p142209, p142210, p142211, p142212⟩ := p142204
      subst e142205
      subst e142206
      have f142215 := f142147.tr f142208 rfl
      show wp _ _ 261 30 [(0, .ref r0), (1, vI a1), (2, vI a2)] [vI z142213] _ H142203 _
      refine wp_of e261 c261_30 (rw_istore_n (pc' := 31) (z := z142213) (L' := [(3, vI z142213), (0, .ref r0), (1, vI a1), (2, vI a2)]) rfl rfl rfl ?_)
      refine wp_of e261 c261_31 (rw_iload_n (pc' := 32) (z := z142213) rfl rfl ?_)
      refine wp_of e261 c261_32 (rw_if_le (p1 := 41) (p2 := 35) (by decide) rfl ⟨by omega, by omega⟩ (fun c142216 => ?_) (fun c142216 => ?_))
      · exfalso
        omega
      · refine wp_of e261 c261_35 (rw_aload_n (pc' := 36) (v := .ref r0) rfl rfl rfl ?_)
        refine wp_of e261 c261_36 (rw_iload_n (pc' := 37) (z := z142213) rfl rfl ?_)
        refine wp_of e261 c261_37 (xc_V (pc' := 40) (r := r0) (as := [vI z142213]) (st := []) (lm_9_54) rfl rfl (Nat.le_of_ble_eq_true rfl) w142207 g0 sh_42 (by decide) rfl (by decide) (s_170 w142207 g0 ⟨by omega, by omega⟩) (fun R142217 T142218 H142219 p142220 => ?_))
        obtain ⟨e142221, w142223, f142224, z142225, e142222, b142226⟩ := p142220
        subst e142221
        subst e142222
        have f142227 := f142215.tr f142224 rfl
        show wp _ _ 261 40 [(3, vI z142213), (0, .ref r0), (1, vI a1), (2, vI a2)] [vI z142225] _ H142219 _
        have k142228 : wKI H142219 r0 = wKI H142203 r0 := (wKI_fr w142207 g0 f142224 rfl)
        exact wp_ireturn e261 c261_40 rfl ⟨rfl, w142223, f142227, z142225, rfl, ⟨by omega, by omega⟩, by omega⟩
    · refine wp_of e261 c261_22 (rw_iconst (pc' := 23) rfl ?_)
      refine wp_of e261 c261_23 (rw_goto (p1 := 27) (by decide) ?_)
      have k142229 : wKI H142144 r0 = wKI H r0 := (wKI_fr hW g0 ((wfr.rf (l := [(42, 0)])).put' e142145 g0 rfl) rfl)
      refine wp_of e261 c261_27 (xc_V (pc' := 30) (r := r0) (as := [vI 1]) (st := []) (lm_9_433) rfl rfl (Nat.le_of_ble_eq_true rfl) w142146 g0 sh_42 (by decide) rfl (by decide) (s_241 w142146 g0 ⟨by omega, by omega⟩ (by omega) (by omega)) (fun R142230 T142231 H142232 p142233 => ?_))
      obtain ⟨e142234, w142236, f142237, z142242, e142235, b142243, p142238, p142239, p142240, p142241⟩ := p142233
      subst e142234
      subst e142235
      have f142244 := f142147.tr f142237 rfl
      show wp _ _ 261 30 [(0, .ref r0), (1, vI a1), (2, vI a2)] [vI z142242] _ H142232 _
      refine wp_of e261 c261_30 (rw_istore_n (pc' := 31) (z := z142242) (L' := [(3, vI z142242), (0, .ref r0), (1, vI a1), (2, vI a2)]) rfl rfl rfl ?_)
      refine wp_of e261 c261_31 (rw_iload_n (pc' := 32) (z := z142242) rfl rfl ?_)
      refine wp_of e261 c261_32 (rw_if_le (p1 := 41) (p2 := 35) (by decide) rfl ⟨by omega, by omega⟩ (fun c142245 => ?_) (fun c142245 => ?_))
      · refine wp_of e261 c261_41 (rw_iconst (pc' := 42) rfl ?_)
        refine wp_of e261 c261_42 (rw_istore (pc' := 44) (z := 0) (L' := [(4, vI 0), (3, vI z142242), (0, .ref r0), (1, vI a1), (2, vI a2)]) rfl rfl rfl ?_)
        refine wp_of e261 c261_44 (rw_iconst (pc' := 45) rfl ?_)
        refine wp_of e261 c261_45 (rw_istore (pc' := 47) (z := 0) (L' := [(5, vI 0), (4, vI 0), (3, vI z142242), (0, .ref r0), (1, vI a1), (2, vI a2)]) rfl rfl rfl ?_)
        have lp142694 : ∀ (n142695 : Nat) (v142697 : Int) (v142698 : Int) (H142699 : wq_H), WT T H142699 → wfr [(51, 999)] T H142232 H142699 → (0 ≤ v142697 ∧ v142697 ≤ 20000) → ((-2147483648) ≤ v142698 ∧ v142698 ≤ 2147483647) → (20000 - v142697).toNat = n142695 → wp kt 7 261 47 [(5, vI v142697), (4, vI v142698), (0, .ref r0), (1, vI a1), (2, vI a2)] [] T H142699 (q_261 r0 a1 a2 T H) := by
          intro n142695
          induction n142695 using Nat.strongRecOn with
          | _ n142695 ih142696 =>
            intro v142697 v142698 H142699 w142700 f142701 b142702 b142703 m142704
            have f142705 := f142244.tr f142701 rfl
            refine wp_of e261 c261_47 (rw_iload (pc' := 49) (z := v142697) rfl rfl ?_)
            refine wp_of e261 c261_49 (rw_aload_n (pc' := 50) (v := .ref r0) rfl rfl rfl ?_)
            have k142706 : H142699 r0 29 = H142232 r0 29 := (f142701 r0 29 _ g0 rfl)
            refine wp_of e261 c261_50 (xg_I (pc' := 53) lf_9_422 w142700 g0 sh_42 (by decide) (by decide) ty_42_29 rfl rfl (fun b142707 b142708 => ?_))
            refine wp_of e261 c261_53 (rw_icmp_ge (p1 := 110) (p2 := 56) (by decide) rfl ⟨by omega, by omega⟩ ⟨by omega, by omega⟩ (fun c142709 => ?_) (fun c142709 => ?_))
            · refine wp_of e261 c261_110 (rw_aload_n (pc' := 111) (v := .ref r0) rfl rfl rfl ?_)
              refine wp_of e261 c261_111 (rw_iload (pc' := 113) (z := v142698) rfl rfl ?_)
              refine wp_of e261 c261_113 (xc_V (pc' := 116) (r := r0) (as := [vI v142698]) (st := []) (lm_9_58) rfl rfl (Nat.le_of_ble_eq_true rfl) w142700 g0 sh_42 (by decide) rfl (by decide) (s_209 w142700 g0 ⟨by omega, by omega⟩) (fun R142710 T142711 H142712 p142713 => ?_))
              obtain ⟨e142714, w142716, f142717, z142718, e142715, b142719⟩ := p142713
              subst e142714
              subst e142715
              have f142720 := f142705.tr f142717 rfl
              show wp _ _ 261 116 [(5, vI v142697), (4, vI v142698), (0, .ref r0), (1, vI a1), (2, vI a2)] [vI z142718] _ H142712 _
              have k142721 : wKI H142712 r0 = wKI H142232 r0 := ((wKI_fr w142700 g0 f142717 rfl).trans (wKI_fr w142236 g0 f142701 rfl))
              exact wp_ireturn e261 c261_116 rfl ⟨rfl, w142716, f142720, z142718, rfl, ⟨by omega, by omega⟩, by omega⟩
            · refine wp_of e261 c261_56 (rw_aload_n (pc' := 57) (v := .ref r0) rfl rfl rfl ?_)
              refine wp_of e261 c261_57 (rw_aload_n (pc' := 58) (v := .ref r0) rfl rfl rfl ?_)
              refine wp_of e261 c261_58 (xg_R (pc' := 61) lf_9_42 w142700 g0 sh_42 (by decide) (by decide) ty_42_30 rfl rfl (fun r142722 q142723 g142724 => ?_))
              refine wp_of e261 c261_61 (rw_iload (pc' := 63) (z := v142697) rfl rfl ?_)
              refine wp_of e261 c261_63 (xa_I (so := 0) (pc' := 64) w142700 g142724 sh_52 (by decide) (ty_52 _) (by omega) (by omega) rfl (fun b142725 b142726 => ?_))
              have k142727 : wLM H142699 r0 = wLM H142232 r0 := (wLM_fr w142236 g0 f142701 rfl)
              have k142728 : H142699 r0 3 = H142144 r0 3 := ((f142701 r0 3 _ g0 rfl).trans (f142237 r0 3 _ g0 rfl))
              obtain ⟨r142729, q142730, g142731⟩ := (w142700.opt g0 (t' := 54) (n := 33) (j := 3) (p := 0) (q := 0) rfl (by decide) rfl).resolve_left (by omega)
              refine wp_of e261 c261_64 (xc_V (pc' := 67) (r := r0) (as := [vI (H142699 r142722 (v142697.toNat))]) (st := []) (lm_9_425) rfl rfl (Nat.le_of_ble_eq_true rfl) w142700 g0 sh_42 (by decide) rfl (by decide) (s_243 w142700 g0 ⟨by omega, by omega⟩ q142730 g142731 (by omega)) (fun R142732 T142733 H142734 p142735 => ?_))
              obtain ⟨e142736, w142738, f142739, e142737⟩ := p142735
              subst e142736
              subst e142737
              have f142740 := f142705.tr f142739 rfl
              have f142741 := f142701.tr f142739 rfl
              show wp _ _ 261 67 [(5, vI v142697), (4, vI v142698), (0, .ref r0), (1, vI a1), (2, vI a2)] [] _ H142734 _
              refine wp_of e261 c261_67 (rw_aload_n (pc' := 68) (v := .ref r0) rfl rfl rfl ?_)
              refine wp_of e261 c261_68 (xg_R (pc' := 71) lf_9_30 w142738 g0 sh_42 (by decide) (by decide) ty_42_24 rfl rfl (fun r142742 q142743 g142744 => ?_))
              refine wp_of e261 c261_71 (rw_bipush (pc' := 73) (z := 40) rfl (by decide) ?_)
              refine wp_of e261 c261_73 (rw_iload_n (pc' := 74) (z := a1) rfl rfl ?_)
              refine wp_of e261 c261_74 (rw_imul (pc' := 75) rfl ?_)
              refine wp_of e261 c261_75 (rw_aload_n (pc' := 76) (v := .ref r0) rfl rfl rfl ?_)
              refine wp_of e261 c261_76 (xg_R (pc' := 79) lf_9_39 w142738 g0 sh_42 (by decide) (by decide) ty_42_27 rfl rfl (fun r142745 q142746 g142747 => ?_))
              refine wp_of e261 c261_79 (rw_iload_n (pc' := 80) (z := a1) rfl rfl ?_)
              refine wp_of e261 c261_80 (xa_I (so := 0) (pc' := 81) w142738 g142747 sh_51 (by decide) (ty_51 _) (by omega) (by omega) rfl (fun b142748 b142749 => ?_))
              refine wp_of e261 c261_81 (rw_iadd (pc' := 82) rfl ?_)
              refine wp_of e261 c261_82 (xa_I (so := 0) (pc' := 83) w142738 g142744 sh_48 (by decide) (ty_48 _) (by omega) (by omega) rfl (fun b142750 b142751 => ?_))
              refine wp_of e261 c261_83 (rw_iload_n (pc' := 84) (z := a2) rfl rfl ?_)
              refine wp_of e261 c261_84 (xc_S (pc' := 87) (as := [vI (H142734 r142742 (((40 * a1) + (H142734 r142745 (a1.toNat))).toNat)), vI a2]) (st := []) (lm_9_346) rfl rfl (Nat.le_of_ble_eq_true rfl) rfl (by decide) (s_205 w142738 ⟨by omega, by omega⟩ ⟨by omega, by omega⟩) (fun R142752 T142753 H142754 p142755 => ?_))
              obtain ⟨e142756, e142758, z142759, e142757, b142760⟩ := p142755
              subst e142756
              subst e142757
              subst e142758
              show wp _ _ 261 87 [(5, vI v142697), (4, vI v142698), (0, .ref r0), (1, vI a1), (2, vI a2)] [vI z142759] _ H142734 _
              refine wp_of e261 c261_87 (rw_if_eq (p1 := 104) (p2 := 90) (by decide) rfl ⟨by omega, by omega⟩ (fun c142761 => ?_) (fun c142761 => ?_))
              · refine wp_of e261 c261_104 (rw_iinc (pc' := 107) (z := v142697) (L' := [(5, vI (v142697 + 1)), (4, vI v142698), (0, .ref r0), (1, vI a1), (2, vI a2)]) rfl rfl rfl rfl ?_)
                refine wp_of e261 c261_107 (rw_goto (p1 := 47) (by decide) ?_)
                exact wp_lc (ks := [5, 4, 0, 1, 2]) (wl_c rfl (wl_c rfl (wl_c rfl (wl_c rfl (wl_c rfl wl_n))))) rfl (by decide) (ih142696 _ (by omega) (v142697 + 1) v142698 H142734 w142738 f142741 ⟨by omega, by omega⟩ ⟨by omega, by omega⟩ rfl)
              · refine wp_of e261 c261_90 (rw_iload (pc' := 92) (z := v142698) rfl rfl ?_)
                refine wp_of e261 c261_92 (rw_aload_n (pc' := 93) (v := .ref r0) rfl rfl rfl ?_)
                refine wp_of e261 c261_93 (rw_aload_n (pc' := 94) (v := .ref r0) rfl rfl rfl ?_)
                refine wp_of e261 c261_94 (xg_K (pc' := 97) lf_9_39 w142738 g0 sh_42 (by decide) (by decide) rfl q142746 rfl ?_)
                refine wp_of e261 c261_97 (rw_iload_n (pc' := 98) (z := a2) rfl rfl ?_)
                have k142762 : H142734 r0 3 = H142699 r0 3 := (f142739 r0 3 _ g0 rfl)
                have q142763 : H142734 r0 3 = (r142729 : Int) := k142762.trans q142730
                refine wp_of e261 c261_98 (xc_V (pc' := 101) (r := r0) (as := [.ref r142745, vI a2]) (st := [vI v142698]) (lm_9_455) rfl rfl (Nat.le_of_ble_eq_true rfl) w142738 g0 sh_42 (by decide) rfl (by decide) (s_262_m_lot w142738 g0 g142747 ⟨by omega, by omega⟩ q142763 g142731) (fun R142764 T142765 H142766 p142767 => ?_))
                obtain ⟨e142768, e142770, z142771, e142769, b142772⟩ := p142767
                subst e142768
                subst e142769
                subst e142770
                show wp _ _ 261 101 [(5, vI v142697), (4, vI v142698), (0, .ref r0), (1, vI a1), (2, vI a2)] [vI z142771, vI v142698] _ H142734 _
                refine wp_of e261 c261_101 (rw_ior (pc' := 102) rfl ?_)
                obtain ⟨v142773, e142774⟩ : ∃ x : Int, x = wq_or v142698 z142771 := ⟨_, rfl⟩
                rw [← e142774]
                have b142775 : -2147483648 ≤ v142773 ∧ v142773 ≤ 2147483647 := by
                  rw [e142774]
                  exact wI_or _ _
                refine wp_of e261 c261_102 (rw_istore (pc' := 104) (z := v142773) (L' := [(4, vI v142773), (5, vI v142697), (0, .ref r0), (1, vI a1), (2, vI a2)]) rfl rfl rfl ?_)
                refine wp_of e261 c261_104 (rw_iinc (pc' := 107) (z := v142697) (L' := [(5, vI (v142697 + 1)), (4, vI v142773), (0, .ref r0), (1, vI a1), (2, vI a2)]) rfl rfl rfl rfl ?_)
                refine wp_of e261 c261_107 (rw_goto (p1 := 47) (by decide) ?_)
                exact wp_lc (ks := [5, 4, 0, 1, 2]) (wl_c rfl (wl_c rfl (wl_c rfl (wl_c rfl (wl_c rfl wl_n))))) rfl (by decide) (ih142696 _ (by omega) (v142697 + 1) v142773 H142734 w142738 f142741 ⟨by omega, by omega⟩ ⟨by omega, by omega⟩ rfl)
        exact wp_lc (ks := [5, 4, 3, 0, 1, 2]) (wl_c rfl (wl_c rfl (wl_c rfl (wl_c rfl (wl_c rfl wl_n))))) rfl (by decide) (lp142694 _ 0 0 H142232 w142236 wfr.rf ⟨by omega, by omega⟩ ⟨by omega, by omega⟩ rfl)
      · refine wp_of e261 c261_35 (rw_aload_n (pc' := 36) (v := .ref r0) rfl rfl rfl ?_)
        refine wp_of e261 c261_36 (rw_iload_n (pc' := 37) (z := z142242) rfl rfl ?_)
        refine wp_of e261 c261_37 (xc_V (pc' := 40) (r := r0) (as := [vI z142242]) (st := []) (lm_9_54) rfl rfl (Nat.le_of_ble_eq_true rfl) w142236 g0 sh_42 (by decide) rfl (by decide) (s_170 w142236 g0 ⟨by omega, by omega⟩) (fun R142776 T142777 H142778 p142779 => ?_))
        obtain ⟨e142780, w142782, f142783, z142784, e142781, b142785⟩ := p142779
        subst e142780
        subst e142781
        have f142786 := f142244.tr f142783 rfl
        show wp _ _ 261 40 [(3, vI z142242), (0, .ref r0), (1, vI a1), (2, vI a2)] [vI z142784] _ H142778 _
        have k142787 : wKI H142778 r0 = wKI H142232 r0 := (wKI_fr w142236 g0 f142783 rfl)
        exact wp_ireturn e261 c261_40 rfl ⟨rfl, w142782, f142786, z142784, rfl, ⟨by omega, by omega⟩, by omega⟩
/-! StrikeAwakeModel.extreme(I[IZ)I -/
theorem e264 : wq_en 264 = some (9, 7, false, some FieldType.int) := rfl
theorem c264_0 : mc_cd 264 0 = some (.iconst 0, 1) := by decide +kernel
theorem c264_1 : mc_cd 264 1 = some (.istore 4, 2) := by decide +kernel
theorem c264_3 : mc_cd 264 3 = some (.iconst 0, 1) := by decide +kernel
theorem c264_4 : mc_cd 264 4 = some (.istore 5, 2) := by decide +kernel
theorem c264_6 : mc_cd 264 6 = some (.iload 5, 2) := by decide +kernel
theorem c264_8 : mc_cd 264 8 = some (.aload_n 0, 1) := by decide +kernel
theorem c264_9 : mc_cd 264 9 = some (.getfield 422, 3) := by decide +kernel
theorem c264_12 : mc_cd 264 12 = some (.if_icmp .ge 70, 3) := by decide +kernel
theorem c264_15 : mc_cd 264 15 = some (.aload_n 0, 1) := by decide +kernel
theorem c264_16 : mc_cd 264 16 = some (.aload_n 0, 1) := by decide +kernel
theorem c264_17 : mc_cd 264 17 = some (.getfield 42, 3) := by decide +kernel
theorem c264_20 : mc_cd 264 20 = some (.iload 5, 2) := by decide +kernel
theorem c264_22 : mc_cd 264 22 = some (.iaload, 1) := by decide +kernel
theorem c264_23 : mc_cd 264 23 = some (.invokevirtual 425, 3) := by decide +kernel
theorem c264_26 : mc_cd 264 26 = some (.aload_n 2, 1) := by decide +kernel
theorem c264_27 : mc_cd 264 27 = some (.bipush 40, 2) := by decide +kernel
theorem c264_29 : mc_cd 264 29 = some (.iload_n 1, 1) := by decide +kernel
theorem c264_30 : mc_cd 264 30 = some (.imul, 1) := by decide +kernel
theorem c264_31 : mc_cd 264 31 = some (.aload_n 0, 1) := by decide +kernel
theorem c264_32 : mc_cd 264 32 = some (.getfield 39, 3) := by decide +kernel
theorem c264_35 : mc_cd 264 35 = some (.iload_n 1, 1) := by decide +kernel
theorem c264_36 : mc_cd 264 36 = some (.iaload, 1) := by decide +kernel
theorem c264_37 : mc_cd 264 37 = some (.iadd, 1) := by decide +kernel
theorem c264_38 : mc_cd 264 38 = some (.iaload, 1) := by decide +kernel
theorem c264_39 : mc_cd 264 39 = some (.istore 6, 2) := by decide +kernel
theorem c264_41 : mc_cd 264 41 = some (.iload 5, 2) := by decide +kernel
theorem c264_43 : mc_cd 264 43 = some (.ifCond .eq 24, 3) := by decide +kernel
theorem c264_46 : mc_cd 264 46 = some (.iload_n 3, 1) := by decide +kernel
theorem c264_47 : mc_cd 264 47 = some (.ifCond .eq 13, 3) := by decide +kernel
theorem c264_50 : mc_cd 264 50 = some (.iload 6, 2) := by decide +kernel
theorem c264_52 : mc_cd 264 52 = some (.iload 4, 2) := by decide +kernel
theorem c264_54 : mc_cd 264 54 = some (.if_icmp .le 18, 3) := by decide +kernel
theorem c264_57 : mc_cd 264 57 = some (.goto 10, 3) := by decide +kernel
theorem c264_60 : mc_cd 264 60 = some (.iload 6, 2) := by decide +kernel
theorem c264_62 : mc_cd 264 62 = some (.iload 4, 2) := by decide +kernel
theorem c264_64 : mc_cd 264 64 = some (.if_icmp .ge 8, 3) := by decide +kernel
theorem c264_67 : mc_cd 264 67 = some (.iload 6, 2) := by decide +kernel
theorem c264_69 : mc_cd 264 69 = some (.goto 5, 3) := by decide +kernel
theorem c264_72 : mc_cd 264 72 = some (.iload 4, 2) := by decide +kernel
theorem c264_74 : mc_cd 264 74 = some (.istore 4, 2) := by decide +kernel
theorem c264_76 : mc_cd 264 76 = some (.iinc 5 1, 3) := by decide +kernel
theorem c264_79 : mc_cd 264 79 = some (.goto (-73), 3) := by decide +kernel
theorem c264_82 : mc_cd 264 82 = some (.iload 4, 2) := by decide +kernel
theorem c264_84 : mc_cd 264 84 = some (.ireturn, 1) := by decide +kernel
abbrev q_264_m_bed (r0 : Nat) (a1 : Int) (r2 : Nat) (a3 : Int) (pp : Nat) (T : wq_T) (H : wq_H) : Option Value → wq_T → wq_H → Prop := fun r T' H' => T = T' ∧ WT T H' ∧ wfr [(51, 999)] T H H' ∧ ∃ z : Int, some (vI z) = r ∧ ((-2147483648) ≤ z ∧ z ≤ 2147483647)
set_option maxHeartbeats 4000000 in
theorem s_264_m_bed {kt : Nat → Option mc_E} {T : wq_T} {H : wq_H} {r0 : Nat} {a1 : Int} {r2 : Nat} {a3 : Int} {pp : Nat} (hW : WT T H) (g0 : T.2.2.2 r0 = some 42) (i1 : 0 ≤ a1 ∧ a1 ≤ 5) (g2 : T.2.2.2 r2 = some 46) (i3 : 0 ≤ a3 ∧ a3 ≤ 1) (qpp : H r0 3 = (pp : Int)) (gpp : T.2.2.2 pp = some 54) (p0 : H r0 29 = 0 ∨ 0 < wLM H r0) : wpc kt 2 264 [.ref r0, vI a1, .ref r2, vI a3] T H (q_264_m_bed r0 a1 r2 a3 pp T H) := by
  refine wp_enter e264 (Nat.le_of_ble_eq_true rfl) rfl ?_
  have f0 : wfr [(51, 999)] T H H := wfr.rf
  show wp _ _ 264 0 [(0, .ref r0), (1, vI a1), (2, .ref r2), (3, vI a3)] [] _ H _
  refine wp_of e264 c264_0 (rw_iconst (pc' := 1) rfl ?_)
  refine wp_of e264 c264_1 (rw_istore (pc' := 3) (z := 0) (L' := [(4, vI 0), (0, .ref r0), (1, vI a1), (2, .ref r2), (3, vI a3)]) rfl rfl rfl ?_)
  refine wp_of e264 c264_3 (rw_iconst (pc' := 4) rfl ?_)
  refine wp_of e264 c264_4 (rw_istore (pc' := 6) (z := 0) (L' := [(5, vI 0), (4, vI 0), (0, .ref r0), (1, vI a1), (2, .ref r2), (3, vI a3)]) rfl rfl rfl ?_)
  have lp143327 : ∀ (n143328 : Nat) (v143330 : Int) (v143331 : Int) (H143332 : wq_H), WT T H143332 → wfr [(51, 999)] T H H143332 → (0 ≤ v143330 ∧ v143330 ≤ 20000) → (0 ≤ v143331 ∧ v143331 ≤ 30) → (20000 - v143330).toNat = n143328 → wp kt 1 264 6 [(5, vI v143330), (4, vI v143331), (0, .ref r0), (1, vI a1), (2, .ref r2), (3, vI a3)] [] T H143332 (q_264_m_bed r0 a1 r2 a3 pp T H) := by
    intro n143328
    induction n143328 using Nat.strongRecOn with
    | _ n143328 ih143329 =>
      intro v143330 v143331 H143332 w143333 f143334 b143335 b143336 m143337
      have f143338 := f0.tr f143334 rfl
      refine wp_of e264 c264_6 (rw_iload (pc' := 8) (z := v143330) rfl rfl ?_)
      refine wp_of e264 c264_8 (rw_aload_n (pc' := 9) (v := .ref r0) rfl rfl rfl ?_)
      have k143339 : H143332 r0 29 = H r0 29 := (f143334 r0 29 _ g0 rfl)
      refine wp_of e264 c264_9 (xg_I (pc' := 12) lf_9_422 w143333 g0 sh_42 (by decide) (by decide) ty_42_29 rfl rfl (fun b143340 b143341 => ?_))
      refine wp_of e264 c264_12 (rw_icmp_ge (p1 := 82) (p2 := 15) (by decide) rfl ⟨by omega, by omega⟩ ⟨by omega, by omega⟩ (fun c143342 => ?_) (fun c143342 => ?_))
      · refine wp_of e264 c264_82 (rw_iload (pc' := 84) (z := v143331) rfl rfl ?_)
        exact wp_ireturn e264 c264_84 rfl ⟨rfl, w143333, f143338, v143331, rfl, ⟨by omega, by omega⟩⟩
      · refine wp_of e264 c264_15 (rw_aload_n (pc' := 16) (v := .ref r0) rfl rfl rfl ?_)
        refine wp_of e264 c264_16 (rw_aload_n (pc' := 17) (v := .ref r0) rfl rfl rfl ?_)
        refine wp_of e264 c264_17 (xg_R (pc' := 20) lf_9_42 w143333 g0 sh_42 (by decide) (by decide) ty_42_30 rfl rfl (fun r143343 q143344 g143345 => ?_))
        refine wp_of e264 c264_20 (rw_iload (pc' := 22) (z := v143330) rfl rfl ?_)
        refine wp_of e264 c264_22 (xa_I (so := 0) (pc' := 23) w143333 g143345 sh_52 (by decide) (ty_52 _) (by omega) (by omega) rfl (fun b143346 b143347 => ?_))
        have k143348 : wLM H143332 r0 = wLM H r0 := (wLM_fr hW g0 f143334 rfl)
        have k143349 : H143332 r0 3 = H r0 3 := (f143334 r0 3 _ g0 rfl)
        have q143350 : H143332 r0 3 = (pp : Int) := k143349.trans qpp
        refine wp_of e264 c264_23 (xc_V (pc' := 26) (r := r0) (as := [vI (H143332 r143343 (v143330.toNat))]) (st := []) (lm_9_425) rfl rfl (Nat.le_of_ble_eq_true rfl) w143333 g0 sh_42 (by decide) rfl (by decide) (s_243 w143333 g0 ⟨by omega, by omega⟩ q143350 gpp (by omega)) (fun R143351 T143352 H143353 p143354 => ?_))
        obtain ⟨e143355, w143357, f143358, e143356⟩ := p143354
        subst e143355
        subst e143356
        have f143359 := f143338.tr f143358 rfl
        have f143360 := f143334.tr f143358 rfl
        show wp _ _ 264 26 [(5, vI v143330), (4, vI v143331), (0, .ref r0), (1, vI a1), (2, .ref r2), (3, vI a3)] [] _ H143353 _
        refine wp_of e264 c264_26 (rw_aload_n (pc' := 27) (v := .ref r2) rfl rfl rfl ?_)
        refine wp_of e264 c264_27 (rw_bipush (pc' := 29) (z := 40) rfl (by decide) ?_)
        refine wp_of e264 c264_29 (rw_iload_n (pc' := 30) (z := a1) rfl rfl ?_)
        refine wp_of e264 c264_30 (rw_imul (pc' := 31) rfl ?_)
        refine wp_of e264 c264_31 (rw_aload_n (pc' := 32) (v := .ref r0) rfl rfl rfl ?_)
        refine wp_of e264 c264_32 (xg_R (pc' := 35) lf_9_39 w143357 g0 sh_42 (by decide) (by decide) ty_42_27 rfl rfl (fun r143361 q143362 g143363 => ?_))
        refine wp_of e264 c264_35 (rw_iload_n (pc' := 36) (z := a1) rfl rfl ?_)
        refine wp_of e264 c264_36 (xa_I (so := 0) (pc' := 37) w143357 g143363 sh_51 (by decide) (ty_51 _) (by omega) (by omega) rfl (fun b143364 b143365 => ?_))
        refine wp_of e264 c264_37 (rw_iadd (pc' := 38) rfl ?_)
        refine wp_of e264 c264_38 (xa_I (so := 0) (pc' := 39) w143357 g2 sh_46 (by decide) (ty_46 _) (by omega) (by omega) rfl (fun b143366 b143367 => ?_))
        refine wp_of e264 c264_39 (rw_istore (pc' := 41) (z := H143353 r2 (((40 * a1) + (H143353 r143361 (a1.toNat))).toNat)) (L' := [(6, vI (H143353 r2 (((40 * a1) + (H143353 r143361 (a1.toNat))).toNat))), (5, vI v143330), (4, vI v143331), (0, .ref r0), (1, vI a1), (2, .ref r2), (3, vI a3)]) rfl rfl rfl ?_)
        refine wp_of e264 c264_41 (rw_iload (pc' := 43) (z := v143330) rfl rfl ?_)
        refine wp_of e264 c264_43 (rw_if_eq (p1 := 67) (p2 := 46) (by decide) rfl ⟨by omega, by omega⟩ (fun c143368 => ?_) (fun c143368 => ?_))
        · refine wp_of e264 c264_67 (rw_iload (pc' := 69) (z := H143353 r2 (((40 * a1) + (H143353 r143361 (a1.toNat))).toNat)) rfl rfl ?_)
          refine wp_of e264 c264_69 (rw_goto (p1 := 74) (by decide) ?_)
          refine wp_of e264 c264_74 (rw_istore (pc' := 76) (z := H143353 r2 (((40 * a1) + (H143353 r143361 (a1.toNat))).toNat)) (L' := [(4, vI (H143353 r2 (((40 * a1) + (H143353 r143361 (a1.toNat))).toNat))), (6, vI (H143353 r2 (((40 * a1) + (H143353 r143361 (a1.toNat))).toNat))), (5, vI v143330), (0, .ref r0), (1, vI a1), (2, .ref r2), (3, vI a3)]) rfl rfl rfl ?_)
          refine wp_of e264 c264_76 (rw_iinc (pc' := 79) (z := v143330) (L' := [(5, vI (v143330 + 1)), (4, vI (H143353 r2 (((40 * a1) + (H143353 r143361 (a1.toNat))).toNat))), (6, vI (H143353 r2 (((40 * a1) + (H143353 r143361 (a1.toNat))).toNat))), (0, .ref r0), (1, vI a1), (2, .ref r2), (3, vI a3)]) rfl rfl rfl rfl ?_)
          refine wp_of e264 c264_79 (rw_goto (p1 := 6) (by decide) ?_)
          exact wp_lc (ks := [5, 4, 6, 0, 1, 2, 3]) (wl_c rfl (wl_c rfl (wl_c rfl (wl_c rfl (wl_c rfl (wl_c rfl wl_n)))))) rfl (by decide) (ih143329 _ (by omega) (v143330 + 1) (H143353 r2 (((40 * a1) + (H143353 r143361 (a1.toNat))).toNat)) H143353 w143357 f143360 ⟨by omega, by omega⟩ ⟨by omega, by omega⟩ rfl)
        · refine wp_of e264 c264_46 (rw_iload_n (pc' := 47) (z := a3) rfl rfl ?_)
          refine wp_of e264 c264_47 (rw_if_eq (p1 := 60) (p2 := 50) (by decide) rfl ⟨by omega, by omega⟩ (fun c143369 => ?_) (fun c143369 => ?_))
          · refine wp_of e264 c264_60 (rw_iload (pc' := 62) (z := H143353 r2 (((40 * a1) + (H143353 r143361 (a1.toNat))).toNat)) rfl rfl ?_)
            refine wp_of e264 c264_62 (rw_iload (pc' := 64) (z := v143331) rfl rfl ?_)
            refine wp_of e264 c264_64 (rw_icmp_ge (p1 := 72) (p2 := 67) (by decide) rfl ⟨by omega, by omega⟩ ⟨by omega, by omega⟩ (fun c143370 => ?_) (fun c143370 => ?_))
            · refine wp_of e264 c264_72 (rw_iload (pc' := 74) (z := v143331) rfl rfl ?_)
              refine wp_of e264 c264_74 (rw_istore (pc' := 76) (z := v143331) (L' := [(4, vI v143331), (6, vI (H143353 r2 (((40 * a1) + (H143353 r143361 (a1.toNat))).toNat))), (5, vI v143330), (0, .ref r0), (1, vI a1), (2, .ref r2), (3, vI a3)]) rfl rfl rfl ?_)
              refine wp_of e264 c264_76 (rw_iinc (pc' := 79) (z := v143330) (L' := [(5, vI (v143330 + 1)), (4, vI v143331), (6, vI (H143353 r2 (((40 * a1) + (H143353 r143361 (a1.toNat))).toNat))), (0, .ref r0), (1, vI a1), (2, .ref r2), (3, vI a3)]) rfl rfl rfl rfl ?_)
              refine wp_of e264 c264_79 (rw_goto (p1 := 6) (by decide) ?_)
              exact wp_lc (ks := [5, 4, 6, 0, 1, 2, 3]) (wl_c rfl (wl_c rfl (wl_c rfl (wl_c rfl (wl_c rfl (wl_c rfl wl_n)))))) rfl (by decide) (ih143329 _ (by omega) (v143330 + 1) v143331 H143353 w143357 f143360 ⟨by omega, by omega⟩ ⟨by omega, by omega⟩ rfl)
            · refine wp_of e264 c264_67 (rw_iload (pc' := 69) (z := H143353 r2 (((40 * a1) + (H143353 r143361 (a1.toNat))).toNat)) rfl rfl ?_)
              refine wp_of e264 c264_69 (rw_goto (p1 := 74) (by decide) ?_)
              refine wp_of e264 c264_74 (rw_istore (pc' := 76) (z := H143353 r2 (((40 * a1) + (H143353 r143361 (a1.toNat))).toNat)) (L' := [(4, vI (H143353 r2 (((40 * a1) + (H143353 r143361 (a1.toNat))).toNat))), (6, vI (H143353 r2 (((40 * a1) + (H143353 r143361 (a1.toNat))).toNat))), (5, vI v143330), (0, .ref r0), (1, vI a1), (2, .ref r2), (3, vI a3)]) rfl rfl rfl ?_)
              refine wp_of e264 c264_76 (rw_iinc (pc' := 79) (z := v143330) (L' := [(5, vI (v143330 + 1)), (4, vI (H143353 r2 (((40 * a1) + (H143353 r143361 (a1.toNat))).toNat))), (6, vI (H143353 r2 (((40 * a1) + (H143353 r143361 (a1.toNat))).toNat))), (0, .ref r0), (1, vI a1), (2, .ref r2), (3, vI a3)]) rfl rfl rfl rfl ?_)
              refine wp_of e264 c264_79 (rw_goto (p1 := 6) (by decide) ?_)
              exact wp_lc (ks := [5, 4, 6, 0, 1, 2, 3]) (wl_c rfl (wl_c rfl (wl_c rfl (wl_c rfl (wl_c rfl (wl_c rfl wl_n)))))) rfl (by decide) (ih143329 _ (by omega) (v143330 + 1) (H143353 r2 (((40 * a1) + (H143353 r143361 (a1.toNat))).toNat)) H143353 w143357 f143360 ⟨by omega, by omega⟩ ⟨by omega, by omega⟩ rfl)
          · refine wp_of e264 c264_50 (rw_iload (pc' := 52) (z := H143353 r2 (((40 * a1) + (H143353 r143361 (a1.toNat))).toNat)) rfl rfl ?_)
            refine wp_of e264 c264_52 (rw_iload (pc' := 54) (z := v143331) rfl rfl ?_)
            refine wp_of e264 c264_54 (rw_icmp_le (p1 := 72) (p2 := 57) (by decide) rfl ⟨by omega, by omega⟩ ⟨by omega, by omega⟩ (fun c143371 => ?_) (fun c143371 => ?_))
            · refine wp_of e264 c264_72 (rw_iload (pc' := 74) (z := v143331) rfl rfl ?_)
              refine wp_of e264 c264_74 (rw_istore (pc' := 76) (z := v143331) (L' := [(4, vI v143331), (6, vI (H143353 r2 (((40 * a1) + (H143353 r143361 (a1.toNat))).toNat))), (5, vI v143330), (0, .ref r0), (1, vI a1), (2, .ref r2), (3, vI a3)]) rfl rfl rfl ?_)
              refine wp_of e264 c264_76 (rw_iinc (pc' := 79) (z := v143330) (L' := [(5, vI (v143330 + 1)), (4, vI v143331), (6, vI (H143353 r2 (((40 * a1) + (H143353 r143361 (a1.toNat))).toNat))), (0, .ref r0), (1, vI a1), (2, .ref r2), (3, vI a3)]) rfl rfl rfl rfl ?_)
              refine wp_of e264 c264_79 (rw_goto (p1 := 6) (by decide) ?_)
              exact wp_lc (ks := [5, 4, 6, 0, 1, 2, 3]) (wl_c rfl (wl_c rfl (wl_c rfl (wl_c rfl (wl_c rfl (wl_c rfl wl_n)))))) rfl (by decide) (ih143329 _ (by omega) (v143330 + 1) v143331 H143353 w143357 f143360 ⟨by omega, by omega⟩ ⟨by omega, by omega⟩ rfl)
            · refine wp_of e264 c264_57 (rw_goto (p1 := 67) (by decide) ?_)
              refine wp_of e264 c264_67 (rw_iload (pc' := 69) (z := H143353 r2 (((40 * a1) + (H143353 r143361 (a1.toNat))).toNat)) rfl rfl ?_)
              refine wp_of e264 c264_69 (rw_goto (p1 := 74) (by decide) ?_)
              refine wp_of e264 c264_74 (rw_istore (pc' := 76) (z := H143353 r2 (((40 * a1) + (H143353 r143361 (a1.toNat))).toNat)) (L' := [(4, vI (H143353 r2 (((40 * a1) + (H143353 r143361 (a1.toNat))).toNat))), (6, vI (H143353 r2 (((40 * a1) + (H143353 r143361 (a1.toNat))).toNat))), (5, vI v143330), (0, .ref r0), (1, vI a1), (2, .ref r2), (3, vI a3)]) rfl rfl rfl ?_)
              refine wp_of e264 c264_76 (rw_iinc (pc' := 79) (z := v143330) (L' := [(5, vI (v143330 + 1)), (4, vI (H143353 r2 (((40 * a1) + (H143353 r143361 (a1.toNat))).toNat))), (6, vI (H143353 r2 (((40 * a1) + (H143353 r143361 (a1.toNat))).toNat))), (0, .ref r0), (1, vI a1), (2, .ref r2), (3, vI a3)]) rfl rfl rfl rfl ?_)
              refine wp_of e264 c264_79 (rw_goto (p1 := 6) (by decide) ?_)
              exact wp_lc (ks := [5, 4, 6, 0, 1, 2, 3]) (wl_c rfl (wl_c rfl (wl_c rfl (wl_c rfl (wl_c rfl (wl_c rfl wl_n)))))) rfl (by decide) (ih143329 _ (by omega) (v143330 + 1) (H143353 r2 (((40 * a1) + (H143353 r143361 (a1.toNat))).toNat)) H143353 w143357 f143360 ⟨by omega, by omega⟩ ⟨by omega, by omega⟩ rfl)
  exact wp_lc (ks := [5, 4, 0, 1, 2, 3]) (wl_c rfl (wl_c rfl (wl_c rfl (wl_c rfl (wl_c rfl (wl_c rfl wl_n)))))) rfl (by decide) (lp143327 _ 0 0 H hW wfr.rf ⟨by omega, by omega⟩ ⟨by omega, by omega⟩ rfl)

/-! StrikeAwakeModel.extreme(I[IZ)I -/
abbrev q_264_m_length (r0 : Nat) (a1 : Int) (r2 : Nat) (a3 : Int) (pp : Nat) (T : wq_T) (H : wq_H) : Option Value → wq_T → wq_H → Prop := fun r T' H' => T = T' ∧ WT T H' ∧ wfr [(51, 999)] T H H' ∧ ∃ z : Int, some (vI z) = r ∧ ((-2147483648) ≤ z ∧ z ≤ 2147483647)
set_option maxHeartbeats 4000000 in
theorem s_264_m_length {kt : Nat → Option mc_E} {T : wq_T} {H : wq_H} {r0 : Nat} {a1 : Int} {r2 : Nat} {a3 : Int} {pp : Nat} (hW : WT T H) (g0 : T.2.2.2 r0 = some 42) (i1 : 0 ≤ a1 ∧ a1 ≤ 5) (g2 : T.2.2.2 r2 = some 47) (i3 : 0 ≤ a3 ∧ a3 ≤ 1) (qpp : H r0 3 = (pp : Int)) (gpp : T.2.2.2 pp = some 54) (p0 : H r0 29 = 0 ∨ 0 < wLM H r0) : wpc kt 2 264 [.ref r0, vI a1, .ref r2, vI a3] T H (q_264_m_length r0 a1 r2 a3 pp T H) := by
  refine wp_enter e264 (Nat.le_of_ble_eq_true rfl) rfl ?_
  have f0 : wfr [(51, 999)] T H H := wfr.rf
  show wp _ _ 264 0 [(0, .ref r0), (1, vI a1), (2, .ref r2), (3, vI a3)] [] _ H _
  refine wp_of e264 c264_0 (rw_iconst (pc' := 1) rfl ?_)
  refine wp_of e264 c264_1 (rw_istore (pc' := 3) (z := 0) (L' := [(4, vI 0), (0, .ref r0), (1, vI a1), (2, .ref r2), (3, vI a3)]) rfl rfl rfl ?_)
  refine wp_of e264 c264_3 (rw_iconst (pc' := 4) rfl ?_)
  refine wp_of e264 c264_4 (rw_istore (pc' := 6) (z := 0) (L' := [(5, vI 0), (4, vI 0), (0, .ref r0), (1, vI a1), (2, .ref r2), (3, vI a3)]) rfl rfl rfl ?_)
  have lp143911 : ∀ (n143912 : Nat) (v143914 : Int) (v143915 : Int) (H143916 : wq_H), WT T H143916 → wfr [(51, 999)] T H H143916 → (0 ≤ v143914 ∧ v143914 ≤ 20000) → (0 ≤ v143915 ∧ v143915 ≤ 16) → (20000 - v143914).toNat = n143912 → wp kt 1 264 6 [(5, vI v143914), (4, vI v143915), (0, .ref r0), (1, vI a1), (2, .ref r2), (3, vI a3)] [] T H143916 (q_264_m_length r0 a1 r2 a3 pp T H) := by
    intro n143912
    induction n143912 using Nat.strongRecOn with
    | _ n143912 ih143913 =>
      intro v143914 v143915 H143916 w143917 f143918 b143919 b143920 m143921
      have f143922 := f0.tr f143918 rfl
      refine wp_of e264 c264_6 (rw_iload (pc' := 8) (z := v143914) rfl rfl ?_)
      refine wp_of e264 c264_8 (rw_aload_n (pc' := 9) (v := .ref r0) rfl rfl rfl ?_)
      have k143923 : H143916 r0 29 = H r0 29 := (f143918 r0 29 _ g0 rfl)
      refine wp_of e264 c264_9 (xg_I (pc' := 12) lf_9_422 w143917 g0 sh_42 (by decide) (by decide) ty_42_29 rfl rfl (fun b143924 b143925 => ?_))
      refine wp_of e264 c264_12 (rw_icmp_ge (p1 := 82) (p2 := 15) (by decide) rfl ⟨by omega, by omega⟩ ⟨by omega, by omega⟩ (fun c143926 => ?_) (fun c143926 => ?_))
      · refine wp_of e264 c264_82 (rw_iload (pc' := 84) (z := v143915) rfl rfl ?_)
        exact wp_ireturn e264 c264_84 rfl ⟨rfl, w143917, f143922, v143915, rfl, ⟨by omega, by omega⟩⟩
      · refine wp_of e264 c264_15 (rw_aload_n (pc' := 16) (v := .ref r0) rfl rfl rfl ?_)
        refine wp_of e264 c264_16 (rw_aload_n (pc' := 17) (v := .ref r0) rfl rfl rfl ?_)
        refine wp_of e264 c264_17 (xg_R (pc' := 20) lf_9_42 w143917 g0 sh_42 (by decide) (by decide) ty_42_30 rfl rfl (fun r143927 q143928 g143929 => ?_))
        refine wp_of e264 c264_20 (rw_iload (pc' := 22) (z := v143914) rfl rfl ?_)
        refine wp_of e264 c264_22 (xa_I (so := 0) (pc' := 23) w143917 g143929 sh_52 (by decide) (ty_52 _) (by omega) (by omega) rfl (fun b143930 b143931 => ?_))
        have k143932 : wLM H143916 r0 = wLM H r0 := (wLM_fr hW g0 f143918 rfl)
        have k143933 : H143916 r0 3 = H r0 3 := (f143918 r0 3 _ g0 rfl)
        have q143934 : H143916 r0 3 = (pp : Int) := k143933.trans qpp
        refine wp_of e264 c264_23 (xc_V (pc' := 26) (r := r0) (as := [vI (H143916 r143927 (v143914.toNat))]) (st := []) (lm_9_425) rfl rfl (Nat.le_of_ble_eq_true rfl) w143917 g0 sh_42 (by decide) rfl (by decide) (s_243 w143917 g0 ⟨by omega, by omega⟩ q143934 gpp (by omega)) (fun R143935 T143936 H143937 p143938 => ?_))
        obtain ⟨e143939, w143941, f143942, e143940⟩ := p143938
        subst e143939
        subst e143940
        have f143943 := f143922.tr f143942 rfl
        have f143944 := f143918.tr f143942 rfl
        show wp _ _ 264 26 [(5, vI v143914), (4, vI v143915), (0, .ref r0), (1, vI a1), (2, .ref r2), (3, vI a3)] [] _ H143937 _
        refine wp_of e264 c264_26 (rw_aload_n (pc' := 27) (v := .ref r2) rfl rfl rfl ?_)
        refine wp_of e264 c264_27 (rw_bipush (pc' := 29) (z := 40) rfl (by decide) ?_)
        refine wp_of e264 c264_29 (rw_iload_n (pc' := 30) (z := a1) rfl rfl ?_)
        refine wp_of e264 c264_30 (rw_imul (pc' := 31) rfl ?_)
        refine wp_of e264 c264_31 (rw_aload_n (pc' := 32) (v := .ref r0) rfl rfl rfl ?_)
        refine wp_of e264 c264_32 (xg_R (pc' := 35) lf_9_39 w143941 g0 sh_42 (by decide) (by decide) ty_42_27 rfl rfl (fun r143945 q143946 g143947 => ?_))
        refine wp_of e264 c264_35 (rw_iload_n (pc' := 36) (z := a1) rfl rfl ?_)
        refine wp_of e264 c264_36 (xa_I (so := 0) (pc' := 37) w143941 g143947 sh_51 (by decide) (ty_51 _) (by omega) (by omega) rfl (fun b143948 b143949 => ?_))
        refine wp_of e264 c264_37 (rw_iadd (pc' := 38) rfl ?_)
        refine wp_of e264 c264_38 (xa_I (so := 0) (pc' := 39) w143941 g2 sh_47 (by decide) (ty_47 _) (by omega) (by omega) rfl (fun b143950 b143951 => ?_))
        refine wp_of e264 c264_39 (rw_istore (pc' := 41) (z := H143937 r2 (((40 * a1) + (H143937 r143945 (a1.toNat))).toNat)) (L' := [(6, vI (H143937 r2 (((40 * a1) + (H143937 r143945 (a1.toNat))).toNat))), (5, vI v143914), (4, vI v143915), (0, .ref r0), (1, vI a1), (2, .ref r2), (3, vI a3)]) rfl rfl rfl ?_)
        refine wp_of e264 c264_41 (rw_iload (pc' := 43) (z := v143914) rfl rfl ?_)
        refine wp_of e264 c264_43 (rw_if_eq (p1 := 67) (p2 := 46) (by decide) rfl ⟨by omega, by omega⟩ (fun c143952 => ?_) (fun c143952 => ?_))
        · refine wp_of e264 c264_67 (rw_iload (pc' := 69) (z := H143937 r2 (((40 * a1) + (H143937 r143945 (a1.toNat))).toNat)) rfl rfl ?_)
          refine wp_of e264 c264_69 (rw_goto (p1 := 74) (by decide) ?_)
          refine wp_of e264 c264_74 (rw_istore (pc' := 76) (z := H143937 r2 (((40 * a1) + (H143937 r143945 (a1.toNat))).toNat)) (L' := [(4, vI (H143937 r2 (((40 * a1) + (H143937 r143945 (a1.toNat))).toNat))), (6, vI (H143937 r2 (((40 * a1) + (H143937 r143945 (a1.toNat))).toNat))), (5, vI v143914), (0, .ref r0), (1, vI a1), (2, .ref r2), (3, vI a3)]) rfl rfl rfl ?_)
          refine wp_of e264 c264_76 (rw_iinc (pc' := 79) (z := v143914) (L' := [(5, vI (v143914 + 1)), (4, vI (H143937 r2 (((40 * a1) + (H143937 r143945 (a1.toNat))).toNat))), (6, vI (H143937 r2 (((40 * a1) + (H143937 r143945 (a1.toNat))).toNat))), (0, .ref r0), (1, vI a1), (2, .ref r2), (3, vI a3)]) rfl rfl rfl rfl ?_)
          refine wp_of e264 c264_79 (rw_goto (p1 := 6) (by decide) ?_)
          exact wp_lc (ks := [5, 4, 6, 0, 1, 2, 3]) (wl_c rfl (wl_c rfl (wl_c rfl (wl_c rfl (wl_c rfl (wl_c rfl wl_n)))))) rfl (by decide) (ih143913 _ (by omega) (v143914 + 1) (H143937 r2 (((40 * a1) + (H143937 r143945 (a1.toNat))).toNat)) H143937 w143941 f143944 ⟨by omega, by omega⟩ ⟨by omega, by omega⟩ rfl)
        · refine wp_of e264 c264_46 (rw_iload_n (pc' := 47) (z := a3) rfl rfl ?_)
          refine wp_of e264 c264_47 (rw_if_eq (p1 := 60) (p2 := 50) (by decide) rfl ⟨by omega, by omega⟩ (fun c143953 => ?_) (fun c143953 => ?_))
          · refine wp_of e264 c264_60 (rw_iload (pc' := 62) (z := H143937 r2 (((40 * a1) + (H143937 r143945 (a1.toNat))).toNat)) rfl rfl ?_)
            refine wp_of e264 c264_62 (rw_iload (pc' := 64) (z := v143915) rfl rfl ?_)
            refine wp_of e264 c264_64 (rw_icmp_ge (p1 := 72) (p2 := 67) (by decide) rfl ⟨by omega, by omega⟩ ⟨by omega, by omega⟩ (fun c143954 => ?_) (fun c143954 => ?_))
            · refine wp_of e264 c264_72 (rw_iload (pc' := 74) (z := v143915) rfl rfl ?_)
              refine wp_of e264 c264_74 (rw_istore (pc' := 76) (z := v143915) (L' := [(4, vI v143915), (6, vI (H143937 r2 (((40 * a1) + (H143937 r143945 (a1.toNat))).toNat))), (5, vI v143914), (0, .ref r0), (1, vI a1), (2, .ref r2), (3, vI a3)]) rfl rfl rfl ?_)
              refine wp_of e264 c264_76 (rw_iinc (pc' := 79) (z := v143914) (L' := [(5, vI (v143914 + 1)), (4, vI v143915), (6, vI (H143937 r2 (((40 * a1) + (H143937 r143945 (a1.toNat))).toNat))), (0, .ref r0), (1, vI a1), (2, .ref r2), (3, vI a3)]) rfl rfl rfl rfl ?_)
              refine wp_of e264 c264_79 (rw_goto (p1 := 6) (by decide) ?_)
              exact wp_lc (ks := [5, 4, 6, 0, 1, 2, 3]) (wl_c rfl (wl_c rfl (wl_c rfl (wl_c rfl (wl_c rfl (wl_c rfl wl_n)))))) rfl (by decide) (ih143913 _ (by omega) (v143914 + 1) v143915 H143937 w143941 f143944 ⟨by omega, by omega⟩ ⟨by omega, by omega⟩ rfl)
            · refine wp_of e264 c264_67 (rw_iload (pc' := 69) (z := H143937 r2 (((40 * a1) + (H143937 r143945 (a1.toNat))).toNat)) rfl rfl ?_)
              refine wp_of e264 c264_69 (rw_goto (p1 := 74) (by decide) ?_)
              refine wp_of e264 c264_74 (rw_istore (pc' := 76) (z := H143937 r2 (((40 * a1) + (H143937 r143945 (a1.toNat))).toNat)) (L' := [(4, vI (H143937 r2 (((40 * a1) + (H143937 r143945 (a1.toNat))).toNat))), (6, vI (H143937 r2 (((40 * a1) + (H143937 r143945 (a1.toNat))).toNat))), (5, vI v143914), (0, .ref r0), (1, vI a1), (2, .ref r2), (3, vI a3)]) rfl rfl rfl ?_)
              refine wp_of e264 c264_76 (rw_iinc (pc' := 79) (z := v143914) (L' := [(5, vI (v143914 + 1)), (4, vI (H143937 r2 (((40 * a1) + (H143937 r143945 (a1.toNat))).toNat))), (6, vI (H143937 r2 (((40 * a1) + (H143937 r143945 (a1.toNat))).toNat))), (0, .ref r0), (1, vI a1), (2, .ref r2), (3, vI a3)]) rfl rfl rfl rfl ?_)
              refine wp_of e264 c264_79 (rw_goto (p1 := 6) (by decide) ?_)
              exact wp_lc (ks := [5, 4, 6, 0, 1, 2, 3]) (wl_c rfl (wl_c rfl (wl_c rfl (wl_c rfl (wl_c rfl (wl_c rfl wl_n)))))) rfl (by decide) (ih143913 _ (by omega) (v143914 + 1) (H143937 r2 (((40 * a1) + (H143937 r143945 (a1.toNat))).toNat)) H143937 w143941 f143944 ⟨by omega, by omega⟩ ⟨by omega, by omega⟩ rfl)
          · refine wp_of e264 c264_50 (rw_iload (pc' := 52) (z := H143937 r2 (((40 * a1) + (H143937 r143945 (a1.toNat))).toNat)) rfl rfl ?_)
            refine wp_of e264 c264_52 (rw_iload (pc' := 54) (z := v143915) rfl rfl ?_)
            refine wp_of e264 c264_54 (rw_icmp_le (p1 := 72) (p2 := 57) (by decide) rfl ⟨by omega, by omega⟩ ⟨by omega, by omega⟩ (fun c143955 => ?_) (fun c143955 => ?_))
            · refine wp_of e264 c264_72 (rw_iload (pc' := 74) (z := v143915) rfl rfl ?_)
              refine wp_of e264 c264_74 (rw_istore (pc' := 76) (z := v143915) (L' := [(4, vI v143915), (6, vI (H143937 r2 (((40 * a1) + (H143937 r143945 (a1.toNat))).toNat))), (5, vI v143914), (0, .ref r0), (1, vI a1), (2, .ref r2), (3, vI a3)]) rfl rfl rfl ?_)
              refine wp_of e264 c264_76 (rw_iinc (pc' := 79) (z := v143914) (L' := [(5, vI (v143914 + 1)), (4, vI v143915), (6, vI (H143937 r2 (((40 * a1) + (H143937 r143945 (a1.toNat))).toNat))), (0, .ref r0), (1, vI a1), (2, .ref r2), (3, vI a3)]) rfl rfl rfl rfl ?_)
              refine wp_of e264 c264_79 (rw_goto (p1 := 6) (by decide) ?_)
              exact wp_lc (ks := [5, 4, 6, 0, 1, 2, 3]) (wl_c rfl (wl_c rfl (wl_c rfl (wl_c rfl (wl_c rfl (wl_c rfl wl_n)))))) rfl (by decide) (ih143913 _ (by omega) (v143914 + 1) v143915 H143937 w143941 f143944 ⟨by omega, by omega⟩ ⟨by omega, by omega⟩ rfl)
            · refine wp_of e264 c264_57 (rw_goto (p1 := 67) (by decide) ?_)
              refine wp_of e264 c264_67 (rw_iload (pc' := 69) (z := H143937 r2 (((40 * a1) + (H143937 r143945 (a1.toNat))).toNat)) rfl rfl ?_)
              refine wp_of e264 c264_69 (rw_goto (p1 := 74) (by decide) ?_)
              refine wp_of e264 c264_74 (rw_istore (pc' := 76) (z := H143937 r2 (((40 * a1) + (H143937 r143945 (a1.toNat))).toNat)) (L' := [(4, vI (H143937 r2 (((40 * a1) + (H143937 r143945 (a1.toNat))).toNat))), (6, vI (H143937 r2 (((40 * a1) + (H143937 r143945 (a1.toNat))).toNat))), (5, vI v143914), (0, .ref r0), (1, vI a1), (2, .ref r2), (3, vI a3)]) rfl rfl rfl ?_)
              refine wp_of e264 c264_76 (rw_iinc (pc' := 79) (z := v143914) (L' := [(5, vI (v143914 + 1)), (4, vI (H143937 r2 (((40 * a1) + (H143937 r143945 (a1.toNat))).toNat))), (6, vI (H143937 r2 (((40 * a1) + (H143937 r143945 (a1.toNat))).toNat))), (0, .ref r0), (1, vI a1), (2, .ref r2), (3, vI a3)]) rfl rfl rfl rfl ?_)
              refine wp_of e264 c264_79 (rw_goto (p1 := 6) (by decide) ?_)
              exact wp_lc (ks := [5, 4, 6, 0, 1, 2, 3]) (wl_c rfl (wl_c rfl (wl_c rfl (wl_c rfl (wl_c rfl (wl_c rfl wl_n)))))) rfl (by decide) (ih143913 _ (by omega) (v143914 + 1) (H143937 r2 (((40 * a1) + (H143937 r143945 (a1.toNat))).toNat)) H143937 w143941 f143944 ⟨by omega, by omega⟩ ⟨by omega, by omega⟩ rfl)
  exact wp_lc (ks := [5, 4, 0, 1, 2, 3]) (wl_c rfl (wl_c rfl (wl_c rfl (wl_c rfl (wl_c rfl (wl_c rfl wl_n)))))) rfl (by decide) (lp143911 _ 0 0 H hW wfr.rf ⟨by omega, by omega⟩ ⟨by omega, by omega⟩ rfl)
